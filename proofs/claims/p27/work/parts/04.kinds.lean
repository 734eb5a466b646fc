section HK1
variable {p : Program} {l : Launch} {e : Env} {R : Room} {s : State} {m : MethodId} {args : Array Value} {below : List Frame} {meth : Method} {c : Code} {Q : State → Prop} {G : hy_G} {A : Nat → Prop} {Qc : Array Value → State → Outcome → State → Prop}
theorem in_X2_add_X2 : ∀ w ∈ u_ws RX2 TX2 4, w ∈ wsX2_add := fun _ h => xt1 (xr (h))
noncomputable def fX2_add (σ : hy_S) (x1 : Int32) (x2 : Int32) (x3 : Int32) : Option (hy_S × Int32) := hy_pa σ 2 8 (σ.2 3) x1 (fun σ1 => hy_pa σ1 3 8 (σ1.2 3) x2 (fun σ4 => hy_pa σ4 4 8 (σ4.2 3) x3 (fun σ7 => hy_pf σ7 3 ((σ7.2 3) + 1) (fun σ10 => some (σ10, ((σ10.2 3) - 1))))))
set_option maxHeartbeats 4000000 in
set_option maxRecDepth 100000 in
theorem bX2_add_0 (hA : ∀ q : Nat, s.heap.size ≤ q → A q) (B : hy_B RX2 cX2_add 4 wsX2_add G A p s m args c) (hR : 0 ≤ R.frames ∧ 0 ≤ R.locals) {o : hy_S × Int32}  (hret : ∀ (σ : hy_S) (v : Int32) (pc : Nat) (H : Heap) (locs : List Loc) (ls : Array Slot), o = (σ, v) → hy_w cw G A s σ H locs → decode cX2_add pc = .ok (.ireturn, 1) → W p l e R s m args below meth c H locs 0 0 Q (F0 m pc ls [.int v])) (σ : hy_S) (x1 : Int32) (x2 : Int32) (x3 : Int32) (H : Heap) (locs : List Loc) (ls : Array Slot) (hf : fX2_add σ x1 x2 x3 = some o) (w : hy_w cw G A s σ H locs) (hl : lv_has ls 4 [(0, .ref (G.2.2.2.1 3)), (1, .int x1), (2, .int x2), (3, .int x3)]) : W p l e R s m args below meth c H locs 0 0 Q (F0 m 0 ls []) := by
  unfold fX2_add at hf
  refine lv_aload_n B.1.1 B.1.2.1 dX2_add_0 rfl (lv_at hl 0 rfl) ?_
  refine hy_get (k := 0) (v := .ref (G.2.2.2.1 12)) B w (cwq_3 G) rfl in_X2_add_X2 (by decide) (by decide +kernel) rfl dX2_add_1 ?_
  refine lv_aload_n B.1.1 B.1.2.1 dX2_add_4 rfl (lv_at hl 0 rfl) ?_
  refine hy_get (k := 3) (v := .int (σ.2 3)) B w (cwq_3 G) rfl in_X2_add_X2 (by decide) (by decide +kernel) rfl dX2_add_5 ?_
  refine lv_iload_n B.1.1 B.1.2.1 dX2_add_8 rfl (lv_at hl 1 rfl) ?_
  obtain ⟨h3, σ1, e2, hf⟩ := hy_pa_some hf
  refine hy_iast B w (cwq_12 G) (cws_12 G) h3 e2 dX2_add_9 (fun H locs w => ?_)
  refine lv_aload_n B.1.1 B.1.2.1 dX2_add_10 rfl (lv_at hl 0 rfl) ?_
  refine hy_get (k := 1) (v := .ref (G.2.2.2.1 13)) B w (cwq_3 G) rfl in_X2_add_X2 (by decide) (by decide +kernel) rfl dX2_add_11 ?_
  refine lv_aload_n B.1.1 B.1.2.1 dX2_add_14 rfl (lv_at hl 0 rfl) ?_
  refine hy_get (k := 3) (v := .int (σ1.2 3)) B w (cwq_3 G) rfl in_X2_add_X2 (by decide) (by decide +kernel) rfl dX2_add_15 ?_
  refine lv_iload_n B.1.1 B.1.2.1 dX2_add_18 rfl (lv_at hl 2 rfl) ?_
  obtain ⟨h6, σ4, e5, hf⟩ := hy_pa_some hf
  refine hy_iast B w (cwq_13 G) (cws_13 G) h6 e5 dX2_add_19 (fun H locs w => ?_)
  refine lv_aload_n B.1.1 B.1.2.1 dX2_add_20 rfl (lv_at hl 0 rfl) ?_
  refine hy_get (k := 2) (v := .ref (G.2.2.2.1 14)) B w (cwq_3 G) rfl in_X2_add_X2 (by decide) (by decide +kernel) rfl dX2_add_21 ?_
  refine lv_aload_n B.1.1 B.1.2.1 dX2_add_24 rfl (lv_at hl 0 rfl) ?_
  refine hy_get (k := 3) (v := .int (σ4.2 3)) B w (cwq_3 G) rfl in_X2_add_X2 (by decide) (by decide +kernel) rfl dX2_add_25 ?_
  refine lv_iload_n B.1.1 B.1.2.1 dX2_add_28 rfl (lv_at hl 3 rfl) ?_
  obtain ⟨h9, σ7, e8, hf⟩ := hy_pa_some hf
  refine hy_iast B w (cwq_14 G) (cws_14 G) h9 e8 dX2_add_29 (fun H locs w => ?_)
  refine lv_aload_n B.1.1 B.1.2.1 dX2_add_30 rfl (lv_at hl 0 rfl) ?_
  refine lv_dup B.1.1 B.1.2.1 dX2_add_31 rfl ?_
  refine hy_get (k := 3) (v := .int (σ7.2 3)) B w (cwq_3 G) rfl in_X2_add_X2 (by decide) (by decide +kernel) rfl dX2_add_32 ?_
  refine lv_iconst (v := 1) B.1.1 B.1.2.1 dX2_add_35 (by decide) ?_
  refine lv_iadd B.1.1 B.1.2.1 dX2_add_36 ?_
  obtain ⟨σ10, e11, hf⟩ := hy_pf_some hf
  refine hy_put (k := 3) B w (cwq_3 G) rfl in_X2_add_X2 tyX2 tyX2_ok nmX2 (by decide) (by decide +kernel) rfl rfl (by show 3 < 4; decide) (cwp_3 G) e11 dX2_add_37 (fun H locs w => ?_)
  refine lv_aload_n B.1.1 B.1.2.1 dX2_add_40 rfl (lv_at hl 0 rfl) ?_
  refine hy_get (k := 3) (v := .int (σ10.2 3)) B w (cwq_3 G) rfl in_X2_add_X2 (by decide) (by decide +kernel) rfl dX2_add_41 ?_
  refine lv_iconst (v := 1) B.1.1 B.1.2.1 dX2_add_44 (by decide) ?_
  refine lv_isub B.1.1 B.1.2.1 dX2_add_45 ?_
  exact hret _ _ _ _ _ _ (Option.some.inj hf).symm w dX2_add_46
set_option maxHeartbeats 4000000 in
set_option maxRecDepth 100000 in
theorem mX2_add (l : Launch) (G : hy_G) (sz : Nat) (σ : hy_S) (x1 : Int32) (x2 : Int32) (x3 : Int32) (o : hy_S × Int32) (hf : fX2_add σ x1 x2 x3 = some o) : hy_M l yX2_add wsX2_add ({ frames := 0, cells := 0, slots := 0, locals := 0 }) cw G σ sz [.ref (G.2.2.2.1 3), .int x1, .int x2, .int x3] o := by
  refine Met.ofW (cc := cX2_add) (maxL := 4) (ret := (some .int)) (by decide +kernel) rfl ?_
  intro p e s m args below meth c s₁ B hml hv
  obtain ⟨rfl, hsz, hP, hK, hD0, hN⟩ := hv
  have hx := B.exec
  have hb := B.bytes
  have hr := B.returns
  have hts := atoms_spec (ws := wsX2_add) B.pre
  have hown : s.vm.findClass RX2 = some m.cls := findClass_of_methodNamed B.named
  have hlocks := B.notSynchronized
  subst hsz
  have hD := hD0.self (sz := s.heap.size)
  have hA : ∀ q : Nat, s.heap.size ≤ q → va_A (cw G σ) s.heap.size q := fun q h => Or.inr h
  have hS : va_S (va_A (cw G σ) s.heap.size) s.heap s.heap [] := va_S.rf
  have hl := lv_entry ([.ref (G.2.2.2.1 3), .int x1, .int x2, .int x3]) (n := 4) (Nat.le_of_ble_eq_true rfl)
  rw [lg_entry_eq]
  generalize (lg_sl ([.ref (G.2.2.2.1 3), .int x1, .int x2, .int x3]) ++ List.replicate (4 - (lg_sl ([.ref (G.2.2.2.1 3), .int x1, .int x2, .int x3])).length) Slot.unset).toArray = ls at hl ⊢
  have hl : lv_has ls 4 [(0, .ref (G.2.2.2.1 3)), (1, .int x1), (2, .int x2), (3, .int x3)] := hl
  refine bX2_add_0 (A := va_A (cw G σ) s.heap.size) hA ⟨⟨hx, hb, hml, hown, hts⟩, hK, hN⟩ ⟨Nat.le_of_ble_eq_true rfl, Nat.le_of_ble_eq_true rfl⟩ (o := o) (fun τ v pc H locs ls ho w d => ?_) σ x1 x2 x3 _ _ _ hf ⟨hP, hD, hS⟩ hl
  exact W.iret hx hb hr (fun t ht hW => ⟨⟨v, τ, rfl, ⟨by rw [ho], by rw [ho]⟩, by have h9 := w.1; rw [← ht] at h9; exact h9⟩, w.2.2.F ht⟩) w.2.2.2.2 d
theorem in_X1_add_X1 : ∀ w ∈ u_ws RX1 TX1 8, w ∈ wsX1_add := fun _ h => xt1 (xr (h))
noncomputable def fX1_add (σ : hy_S) (x1 : Int32) (x2 : Int32) (x3 : Int32) : Option (hy_S × Int32) := hy_pa σ 5 60 (σ.2 4) x1 (fun σ1 => hy_pa σ1 6 60 (σ1.2 4) x2 (fun σ4 => hy_pa σ4 7 60 (σ4.2 4) x3 (fun σ7 => hy_pa σ7 8 60 (σ7.2 4) 0 (fun σ10 => hy_pa σ10 9 60 (σ10.2 4) 0 (fun σ13 => hy_pa σ13 10 60 (σ13.2 4) (-1) (fun σ16 => hy_pf σ16 4 ((σ16.2 4) + 1) (fun σ19 => some (σ19, ((σ19.2 4) - 1)))))))))
set_option maxHeartbeats 4000000 in
set_option maxRecDepth 100000 in
theorem bX1_add_0 (hA : ∀ q : Nat, s.heap.size ≤ q → A q) (B : hy_B RX1 cX1_add 4 wsX1_add G A p s m args c) (hR : 0 ≤ R.frames ∧ 0 ≤ R.locals) {o : hy_S × Int32}  (hret : ∀ (σ : hy_S) (v : Int32) (pc : Nat) (H : Heap) (locs : List Loc) (ls : Array Slot), o = (σ, v) → hy_w cw G A s σ H locs → decode cX1_add pc = .ok (.ireturn, 1) → W p l e R s m args below meth c H locs 0 0 Q (F0 m pc ls [.int v])) (σ : hy_S) (x1 : Int32) (x2 : Int32) (x3 : Int32) (H : Heap) (locs : List Loc) (ls : Array Slot) (hf : fX1_add σ x1 x2 x3 = some o) (w : hy_w cw G A s σ H locs) (hl : lv_has ls 4 [(0, .ref (G.2.2.2.1 4)), (1, .int x1), (2, .int x2), (3, .int x3)]) : W p l e R s m args below meth c H locs 0 0 Q (F0 m 0 ls []) := by
  unfold fX1_add at hf
  refine lv_aload_n B.1.1 B.1.2.1 dX1_add_0 rfl (lv_at hl 0 rfl) ?_
  refine hy_get (k := 1) (v := .ref (G.2.2.2.1 15)) B w (cwq_4 G) rfl in_X1_add_X1 (by decide) (by decide +kernel) rfl dX1_add_1 ?_
  refine lv_aload_n B.1.1 B.1.2.1 dX1_add_4 rfl (lv_at hl 0 rfl) ?_
  refine hy_get (k := 7) (v := .int (σ.2 4)) B w (cwq_4 G) rfl in_X1_add_X1 (by decide) (by decide +kernel) rfl dX1_add_5 ?_
  refine lv_iload_n B.1.1 B.1.2.1 dX1_add_8 rfl (lv_at hl 1 rfl) ?_
  obtain ⟨h3, σ1, e2, hf⟩ := hy_pa_some hf
  refine hy_iast B w (cwq_15 G) (cws_15 G) h3 e2 dX1_add_9 (fun H locs w => ?_)
  refine lv_aload_n B.1.1 B.1.2.1 dX1_add_10 rfl (lv_at hl 0 rfl) ?_
  refine hy_get (k := 2) (v := .ref (G.2.2.2.1 16)) B w (cwq_4 G) rfl in_X1_add_X1 (by decide) (by decide +kernel) rfl dX1_add_11 ?_
  refine lv_aload_n B.1.1 B.1.2.1 dX1_add_14 rfl (lv_at hl 0 rfl) ?_
  refine hy_get (k := 7) (v := .int (σ1.2 4)) B w (cwq_4 G) rfl in_X1_add_X1 (by decide) (by decide +kernel) rfl dX1_add_15 ?_
  refine lv_iload_n B.1.1 B.1.2.1 dX1_add_18 rfl (lv_at hl 2 rfl) ?_
  obtain ⟨h6, σ4, e5, hf⟩ := hy_pa_some hf
  refine hy_iast B w (cwq_16 G) (cws_16 G) h6 e5 dX1_add_19 (fun H locs w => ?_)
  refine lv_aload_n B.1.1 B.1.2.1 dX1_add_20 rfl (lv_at hl 0 rfl) ?_
  refine hy_get (k := 3) (v := .ref (G.2.2.2.1 17)) B w (cwq_4 G) rfl in_X1_add_X1 (by decide) (by decide +kernel) rfl dX1_add_21 ?_
  refine lv_aload_n B.1.1 B.1.2.1 dX1_add_24 rfl (lv_at hl 0 rfl) ?_
  refine hy_get (k := 7) (v := .int (σ4.2 4)) B w (cwq_4 G) rfl in_X1_add_X1 (by decide) (by decide +kernel) rfl dX1_add_25 ?_
  refine lv_iload_n B.1.1 B.1.2.1 dX1_add_28 rfl (lv_at hl 3 rfl) ?_
  obtain ⟨h9, σ7, e8, hf⟩ := hy_pa_some hf
  refine hy_iast B w (cwq_17 G) (cws_17 G) h9 e8 dX1_add_29 (fun H locs w => ?_)
  refine lv_aload_n B.1.1 B.1.2.1 dX1_add_30 rfl (lv_at hl 0 rfl) ?_
  refine hy_get (k := 4) (v := .ref (G.2.2.2.1 18)) B w (cwq_4 G) rfl in_X1_add_X1 (by decide) (by decide +kernel) rfl dX1_add_31 ?_
  refine lv_aload_n B.1.1 B.1.2.1 dX1_add_34 rfl (lv_at hl 0 rfl) ?_
  refine hy_get (k := 7) (v := .int (σ7.2 4)) B w (cwq_4 G) rfl in_X1_add_X1 (by decide) (by decide +kernel) rfl dX1_add_35 ?_
  refine lv_iconst (v := 0) B.1.1 B.1.2.1 dX1_add_38 (by decide) ?_
  obtain ⟨h12, σ10, e11, hf⟩ := hy_pa_some hf
  refine hy_iast B w (cwq_18 G) (cws_18 G) h12 e11 dX1_add_39 (fun H locs w => ?_)
  refine lv_aload_n B.1.1 B.1.2.1 dX1_add_40 rfl (lv_at hl 0 rfl) ?_
  refine hy_get (k := 5) (v := .ref (G.2.2.2.1 19)) B w (cwq_4 G) rfl in_X1_add_X1 (by decide) (by decide +kernel) rfl dX1_add_41 ?_
  refine lv_aload_n B.1.1 B.1.2.1 dX1_add_44 rfl (lv_at hl 0 rfl) ?_
  refine hy_get (k := 7) (v := .int (σ10.2 4)) B w (cwq_4 G) rfl in_X1_add_X1 (by decide) (by decide +kernel) rfl dX1_add_45 ?_
  refine lv_iconst (v := 0) B.1.1 B.1.2.1 dX1_add_48 (by decide) ?_
  obtain ⟨h15, σ13, e14, hf⟩ := hy_pa_some hf
  refine hy_iast B w (cwq_19 G) (cws_19 G) h15 e14 dX1_add_49 (fun H locs w => ?_)
  refine lv_aload_n B.1.1 B.1.2.1 dX1_add_50 rfl (lv_at hl 0 rfl) ?_
  refine hy_get (k := 6) (v := .ref (G.2.2.2.1 20)) B w (cwq_4 G) rfl in_X1_add_X1 (by decide) (by decide +kernel) rfl dX1_add_51 ?_
  refine lv_aload_n B.1.1 B.1.2.1 dX1_add_54 rfl (lv_at hl 0 rfl) ?_
  refine hy_get (k := 7) (v := .int (σ13.2 4)) B w (cwq_4 G) rfl in_X1_add_X1 (by decide) (by decide +kernel) rfl dX1_add_55 ?_
  refine lv_iconst (v := (-1)) B.1.1 B.1.2.1 dX1_add_58 (by decide) ?_
  obtain ⟨h18, σ16, e17, hf⟩ := hy_pa_some hf
  refine hy_iast B w (cwq_20 G) (cws_20 G) h18 e17 dX1_add_59 (fun H locs w => ?_)
  refine lv_aload_n B.1.1 B.1.2.1 dX1_add_60 rfl (lv_at hl 0 rfl) ?_
  refine lv_dup B.1.1 B.1.2.1 dX1_add_61 rfl ?_
  refine hy_get (k := 7) (v := .int (σ16.2 4)) B w (cwq_4 G) rfl in_X1_add_X1 (by decide) (by decide +kernel) rfl dX1_add_62 ?_
  refine lv_iconst (v := 1) B.1.1 B.1.2.1 dX1_add_65 (by decide) ?_
  refine lv_iadd B.1.1 B.1.2.1 dX1_add_66 ?_
  obtain ⟨σ19, e20, hf⟩ := hy_pf_some hf
  refine hy_put (k := 7) B w (cwq_4 G) rfl in_X1_add_X1 tyX1 tyX1_ok nmX1 (by decide) (by decide +kernel) rfl rfl (by show 7 < 8; decide) (cwp_4 G) e20 dX1_add_67 (fun H locs w => ?_)
  refine lv_aload_n B.1.1 B.1.2.1 dX1_add_70 rfl (lv_at hl 0 rfl) ?_
  refine hy_get (k := 7) (v := .int (σ19.2 4)) B w (cwq_4 G) rfl in_X1_add_X1 (by decide) (by decide +kernel) rfl dX1_add_71 ?_
  refine lv_iconst (v := 1) B.1.1 B.1.2.1 dX1_add_74 (by decide) ?_
  refine lv_isub B.1.1 B.1.2.1 dX1_add_75 ?_
  exact hret _ _ _ _ _ _ (Option.some.inj hf).symm w dX1_add_76
set_option maxHeartbeats 4000000 in
set_option maxRecDepth 100000 in
theorem mX1_add (l : Launch) (G : hy_G) (sz : Nat) (σ : hy_S) (x1 : Int32) (x2 : Int32) (x3 : Int32) (o : hy_S × Int32) (hf : fX1_add σ x1 x2 x3 = some o) : hy_M l yX1_add wsX1_add ({ frames := 0, cells := 0, slots := 0, locals := 0 }) cw G σ sz [.ref (G.2.2.2.1 4), .int x1, .int x2, .int x3] o := by
  refine Met.ofW (cc := cX1_add) (maxL := 4) (ret := (some .int)) (by decide +kernel) rfl ?_
  intro p e s m args below meth c s₁ B hml hv
  obtain ⟨rfl, hsz, hP, hK, hD0, hN⟩ := hv
  have hx := B.exec
  have hb := B.bytes
  have hr := B.returns
  have hts := atoms_spec (ws := wsX1_add) B.pre
  have hown : s.vm.findClass RX1 = some m.cls := findClass_of_methodNamed B.named
  have hlocks := B.notSynchronized
  subst hsz
  have hD := hD0.self (sz := s.heap.size)
  have hA : ∀ q : Nat, s.heap.size ≤ q → va_A (cw G σ) s.heap.size q := fun q h => Or.inr h
  have hS : va_S (va_A (cw G σ) s.heap.size) s.heap s.heap [] := va_S.rf
  have hl := lv_entry ([.ref (G.2.2.2.1 4), .int x1, .int x2, .int x3]) (n := 4) (Nat.le_of_ble_eq_true rfl)
  rw [lg_entry_eq]
  generalize (lg_sl ([.ref (G.2.2.2.1 4), .int x1, .int x2, .int x3]) ++ List.replicate (4 - (lg_sl ([.ref (G.2.2.2.1 4), .int x1, .int x2, .int x3])).length) Slot.unset).toArray = ls at hl ⊢
  have hl : lv_has ls 4 [(0, .ref (G.2.2.2.1 4)), (1, .int x1), (2, .int x2), (3, .int x3)] := hl
  refine bX1_add_0 (A := va_A (cw G σ) s.heap.size) hA ⟨⟨hx, hb, hml, hown, hts⟩, hK, hN⟩ ⟨Nat.le_of_ble_eq_true rfl, Nat.le_of_ble_eq_true rfl⟩ (o := o) (fun τ v pc H locs ls ho w d => ?_) σ x1 x2 x3 _ _ _ hf ⟨hP, hD, hS⟩ hl
  exact W.iret hx hb hr (fun t ht hW => ⟨⟨v, τ, rfl, ⟨by rw [ho], by rw [ho]⟩, by have h9 := w.1; rw [← ht] at h9; exact h9⟩, w.2.2.F ht⟩) w.2.2.2.2 d
theorem in_X1_pour_X1 : ∀ w ∈ u_ws RX1 TX1 8, w ∈ wsX1_pour := fun _ h => xt1 (xl (xr (h)))
theorem in_X1_pour_X2 : ∀ w ∈ u_ws RX2 TX2 4, w ∈ wsX1_pour := fun _ h => xt1 (xr (h))
noncomputable def fX1_pour (σ : hy_S) (x1 : Int32) (x2 : Int32) : Option (hy_S × Int32) := hy_ga σ 9 60 x1 (fun v1 => (if v1 = 0 then hy_ga σ 8 60 x1 (fun v5 => hy_ga σ 5 60 x1 (fun v8 => hy_ga σ 3 8 v8 (fun v11 => (if (v5 + x2) ≤ v11 then hy_ga σ 8 60 x1 (fun v15 => hy_pa σ 8 60 x1 (v15 + x2) (fun σ18 => hy_ga σ18 8 60 x1 (fun v21 => some (σ18, v21)))) else some (σ, (-1)))))) else some (σ, (-1))))
set_option maxHeartbeats 4000000 in
set_option maxRecDepth 100000 in
theorem bX1_pour_0 (hA : ∀ q : Nat, s.heap.size ≤ q → A q) (B : hy_B RX1 cX1_pour 3 wsX1_pour G A p s m args c) (hR : 0 ≤ R.frames ∧ 0 ≤ R.locals) {o : hy_S × Int32}  (hret : ∀ (σ : hy_S) (v : Int32) (pc : Nat) (H : Heap) (locs : List Loc) (ls : Array Slot), o = (σ, v) → hy_w cw G A s σ H locs → decode cX1_pour pc = .ok (.ireturn, 1) → W p l e R s m args below meth c H locs 0 0 Q (F0 m pc ls [.int v])) (σ : hy_S) (x1 : Int32) (x2 : Int32) (H : Heap) (locs : List Loc) (ls : Array Slot) (hf : fX1_pour σ x1 x2 = some o) (w : hy_w cw G A s σ H locs) (hl : lv_has ls 3 [(0, .ref (G.2.2.2.1 4)), (1, .int x1), (2, .int x2)]) : W p l e R s m args below meth c H locs 0 0 Q (F0 m 0 ls []) := by
  unfold fX1_pour at hf
  refine lv_aload_n B.1.1 B.1.2.1 dX1_pour_0 rfl (lv_at hl 0 rfl) ?_
  refine hy_get (k := 5) (v := .ref (G.2.2.2.1 19)) B w (cwq_4 G) rfl in_X1_pour_X1 (by decide) (by decide +kernel) rfl dX1_pour_1 ?_
  refine lv_iload_n B.1.1 B.1.2.1 dX1_pour_4 rfl (lv_at hl 1 rfl) ?_
  obtain ⟨h3, v1, e2, hf⟩ := hy_ga_some hf
  refine hy_iald B w (cwq_19 G) h3 e2 dX1_pour_5 ?_
  refine lv_if_ne (tgt := 34) B.1.1 B.1.2.1 dX1_pour_6 (by decide) (fun c4 => ?_) (fun c4 => ?_)
  · rw [if_neg c4] at hf
    refine lv_iconst (v := (-1)) B.1.1 B.1.2.1 dX1_pour_34 (by decide) ?_
    exact hret _ _ _ _ _ _ (Option.some.inj hf).symm w dX1_pour_35
  · rw [if_pos c4] at hf
    refine lv_aload_n B.1.1 B.1.2.1 dX1_pour_9 rfl (lv_at hl 0 rfl) ?_
    refine hy_get (k := 4) (v := .ref (G.2.2.2.1 18)) B w (cwq_4 G) rfl in_X1_pour_X1 (by decide) (by decide +kernel) rfl dX1_pour_10 ?_
    refine lv_iload_n B.1.1 B.1.2.1 dX1_pour_13 rfl (lv_at hl 1 rfl) ?_
    obtain ⟨h7, v5, e6, hf⟩ := hy_ga_some hf
    refine hy_iald B w (cwq_18 G) h7 e6 dX1_pour_14 ?_
    refine lv_iload_n B.1.1 B.1.2.1 dX1_pour_15 rfl (lv_at hl 2 rfl) ?_
    refine lv_iadd B.1.1 B.1.2.1 dX1_pour_16 ?_
    refine lv_aload_n B.1.1 B.1.2.1 dX1_pour_17 rfl (lv_at hl 0 rfl) ?_
    refine hy_get (k := 0) (v := .ref (G.2.2.2.1 3)) B w (cwq_4 G) rfl in_X1_pour_X1 (by decide) (by decide +kernel) rfl dX1_pour_18 ?_
    refine hy_getN (k := 1) (v := .ref (G.2.2.2.1 13)) B w (cwq_3 G) rfl in_X1_pour_X2 (by decide) (by decide +kernel) rfl dX1_pour_21 ?_
    refine lv_aload_n B.1.1 B.1.2.1 dX1_pour_24 rfl (lv_at hl 0 rfl) ?_
    refine hy_get (k := 1) (v := .ref (G.2.2.2.1 15)) B w (cwq_4 G) rfl in_X1_pour_X1 (by decide) (by decide +kernel) rfl dX1_pour_25 ?_
    refine lv_iload_n B.1.1 B.1.2.1 dX1_pour_28 rfl (lv_at hl 1 rfl) ?_
    obtain ⟨h10, v8, e9, hf⟩ := hy_ga_some hf
    refine hy_iald B w (cwq_15 G) h10 e9 dX1_pour_29 ?_
    obtain ⟨h13, v11, e12, hf⟩ := hy_ga_some hf
    refine hy_iald B w (cwq_13 G) h13 e12 dX1_pour_30 ?_
    refine lv_icmp_le (tgt := 36) B.1.1 B.1.2.1 dX1_pour_31 (by decide) (fun c14 => ?_) (fun c14 => ?_)
    · rw [if_pos c14] at hf
      refine lv_aload_n B.1.1 B.1.2.1 dX1_pour_36 rfl (lv_at hl 0 rfl) ?_
      refine hy_get (k := 4) (v := .ref (G.2.2.2.1 18)) B w (cwq_4 G) rfl in_X1_pour_X1 (by decide) (by decide +kernel) rfl dX1_pour_37 ?_
      refine lv_iload_n B.1.1 B.1.2.1 dX1_pour_40 rfl (lv_at hl 1 rfl) ?_
      refine lv_dup2_11 B.1.1 B.1.2.1 dX1_pour_41 rfl rfl ?_
      obtain ⟨h17, v15, e16, hf⟩ := hy_ga_some hf
      refine hy_iald B w (cwq_18 G) h17 e16 dX1_pour_42 ?_
      refine lv_iload_n B.1.1 B.1.2.1 dX1_pour_43 rfl (lv_at hl 2 rfl) ?_
      refine lv_iadd B.1.1 B.1.2.1 dX1_pour_44 ?_
      obtain ⟨h20, σ18, e19, hf⟩ := hy_pa_some hf
      refine hy_iast B w (cwq_18 G) (cws_18 G) h20 e19 dX1_pour_45 (fun H locs w => ?_)
      refine lv_aload_n B.1.1 B.1.2.1 dX1_pour_46 rfl (lv_at hl 0 rfl) ?_
      refine hy_get (k := 4) (v := .ref (G.2.2.2.1 18)) B w (cwq_4 G) rfl in_X1_pour_X1 (by decide) (by decide +kernel) rfl dX1_pour_47 ?_
      refine lv_iload_n B.1.1 B.1.2.1 dX1_pour_50 rfl (lv_at hl 1 rfl) ?_
      obtain ⟨h23, v21, e22, hf⟩ := hy_ga_some hf
      refine hy_iald B w (cwq_18 G) h23 e22 dX1_pour_51 ?_
      exact hret _ _ _ _ _ _ (Option.some.inj hf).symm w dX1_pour_52
    · rw [if_neg c14] at hf
      refine lv_iconst (v := (-1)) B.1.1 B.1.2.1 dX1_pour_34 (by decide) ?_
      exact hret _ _ _ _ _ _ (Option.some.inj hf).symm w dX1_pour_35
set_option maxHeartbeats 4000000 in
set_option maxRecDepth 100000 in
theorem mX1_pour (l : Launch) (G : hy_G) (sz : Nat) (σ : hy_S) (x1 : Int32) (x2 : Int32) (o : hy_S × Int32) (hf : fX1_pour σ x1 x2 = some o) : hy_M l yX1_pour wsX1_pour ({ frames := 0, cells := 0, slots := 0, locals := 0 }) cw G σ sz [.ref (G.2.2.2.1 4), .int x1, .int x2] o := by
  refine Met.ofW (cc := cX1_pour) (maxL := 3) (ret := (some .int)) (by decide +kernel) rfl ?_
  intro p e s m args below meth c s₁ B hml hv
  obtain ⟨rfl, hsz, hP, hK, hD0, hN⟩ := hv
  have hx := B.exec
  have hb := B.bytes
  have hr := B.returns
  have hts := atoms_spec (ws := wsX1_pour) B.pre
  have hown : s.vm.findClass RX1 = some m.cls := findClass_of_methodNamed B.named
  have hlocks := B.notSynchronized
  subst hsz
  have hD := hD0.self (sz := s.heap.size)
  have hA : ∀ q : Nat, s.heap.size ≤ q → va_A (cw G σ) s.heap.size q := fun q h => Or.inr h
  have hS : va_S (va_A (cw G σ) s.heap.size) s.heap s.heap [] := va_S.rf
  have hl := lv_entry ([.ref (G.2.2.2.1 4), .int x1, .int x2]) (n := 3) (Nat.le_of_ble_eq_true rfl)
  rw [lg_entry_eq]
  generalize (lg_sl ([.ref (G.2.2.2.1 4), .int x1, .int x2]) ++ List.replicate (3 - (lg_sl ([.ref (G.2.2.2.1 4), .int x1, .int x2])).length) Slot.unset).toArray = ls at hl ⊢
  have hl : lv_has ls 3 [(0, .ref (G.2.2.2.1 4)), (1, .int x1), (2, .int x2)] := hl
  refine bX1_pour_0 (A := va_A (cw G σ) s.heap.size) hA ⟨⟨hx, hb, hml, hown, hts⟩, hK, hN⟩ ⟨Nat.le_of_ble_eq_true rfl, Nat.le_of_ble_eq_true rfl⟩ (o := o) (fun τ v pc H locs ls ho w d => ?_) σ x1 x2 _ _ _ hf ⟨hP, hD, hS⟩ hl
  exact W.iret hx hb hr (fun t ht hW => ⟨⟨v, τ, rfl, ⟨by rw [ho], by rw [ho]⟩, by have h9 := w.1; rw [← ht] at h9; exact h9⟩, w.2.2.F ht⟩) w.2.2.2.2 d
theorem in_X1_move_X1 : ∀ w ∈ u_ws RX1 TX1 8, w ∈ wsX1_move := fun _ h => xt1 (xr (h))
noncomputable def fX1_move (σ : hy_S) (x1 : Int32) (x2 : Int32) (x3 : Int32) : Option (hy_S × Int32) := hy_pa σ 9 60 x1 x2 (fun σ1 => hy_pa σ1 10 60 x1 x3 (fun σ4 => some (σ4, 0)))
set_option maxHeartbeats 4000000 in
set_option maxRecDepth 100000 in
theorem bX1_move_0 (hA : ∀ q : Nat, s.heap.size ≤ q → A q) (B : hy_B RX1 cX1_move 4 wsX1_move G A p s m args c) (hR : 0 ≤ R.frames ∧ 0 ≤ R.locals) {o : hy_S × Int32}  (hret : ∀ (σ : hy_S) (pc : Nat) (H : Heap) (locs : List Loc) (ls : Array Slot), o = (σ, 0) → hy_w cw G A s σ H locs → decode cX1_move pc = .ok (.return_, 1) → W p l e R s m args below meth c H locs 0 0 Q (F0 m pc ls [])) (σ : hy_S) (x1 : Int32) (x2 : Int32) (x3 : Int32) (H : Heap) (locs : List Loc) (ls : Array Slot) (hf : fX1_move σ x1 x2 x3 = some o) (w : hy_w cw G A s σ H locs) (hl : lv_has ls 4 [(0, .ref (G.2.2.2.1 4)), (1, .int x1), (2, .int x2), (3, .int x3)]) : W p l e R s m args below meth c H locs 0 0 Q (F0 m 0 ls []) := by
  unfold fX1_move at hf
  refine lv_aload_n B.1.1 B.1.2.1 dX1_move_0 rfl (lv_at hl 0 rfl) ?_
  refine hy_get (k := 5) (v := .ref (G.2.2.2.1 19)) B w (cwq_4 G) rfl in_X1_move_X1 (by decide) (by decide +kernel) rfl dX1_move_1 ?_
  refine lv_iload_n B.1.1 B.1.2.1 dX1_move_4 rfl (lv_at hl 1 rfl) ?_
  refine lv_iload_n B.1.1 B.1.2.1 dX1_move_5 rfl (lv_at hl 2 rfl) ?_
  obtain ⟨h3, σ1, e2, hf⟩ := hy_pa_some hf
  refine hy_iast B w (cwq_19 G) (cws_19 G) h3 e2 dX1_move_6 (fun H locs w => ?_)
  refine lv_aload_n B.1.1 B.1.2.1 dX1_move_7 rfl (lv_at hl 0 rfl) ?_
  refine hy_get (k := 6) (v := .ref (G.2.2.2.1 20)) B w (cwq_4 G) rfl in_X1_move_X1 (by decide) (by decide +kernel) rfl dX1_move_8 ?_
  refine lv_iload_n B.1.1 B.1.2.1 dX1_move_11 rfl (lv_at hl 1 rfl) ?_
  refine lv_iload_n B.1.1 B.1.2.1 dX1_move_12 rfl (lv_at hl 3 rfl) ?_
  obtain ⟨h6, σ4, e5, hf⟩ := hy_pa_some hf
  refine hy_iast B w (cwq_20 G) (cws_20 G) h6 e5 dX1_move_13 (fun H locs w => ?_)
  exact hret _ _ _ _ _ (Option.some.inj hf).symm w dX1_move_14
set_option maxHeartbeats 4000000 in
set_option maxRecDepth 100000 in
theorem mX1_move (l : Launch) (G : hy_G) (sz : Nat) (σ : hy_S) (x1 : Int32) (x2 : Int32) (x3 : Int32) (o : hy_S × Int32) (hf : fX1_move σ x1 x2 x3 = some o) : hy_Mv l yX1_move wsX1_move ({ frames := 0, cells := 0, slots := 0, locals := 0 }) cw G σ sz [.ref (G.2.2.2.1 4), .int x1, .int x2, .int x3] o := by
  refine Met.ofW (cc := cX1_move) (maxL := 4) (ret := none) (by decide +kernel) rfl ?_
  intro p e s m args below meth c s₁ B hml hv
  obtain ⟨rfl, hsz, hP, hK, hD0, hN⟩ := hv
  have hx := B.exec
  have hb := B.bytes
  have hr := B.returns
  have hts := atoms_spec (ws := wsX1_move) B.pre
  have hown : s.vm.findClass RX1 = some m.cls := findClass_of_methodNamed B.named
  have hlocks := B.notSynchronized
  subst hsz
  have hD := hD0.self (sz := s.heap.size)
  have hA : ∀ q : Nat, s.heap.size ≤ q → va_A (cw G σ) s.heap.size q := fun q h => Or.inr h
  have hS : va_S (va_A (cw G σ) s.heap.size) s.heap s.heap [] := va_S.rf
  have hl := lv_entry ([.ref (G.2.2.2.1 4), .int x1, .int x2, .int x3]) (n := 4) (Nat.le_of_ble_eq_true rfl)
  rw [lg_entry_eq]
  generalize (lg_sl ([.ref (G.2.2.2.1 4), .int x1, .int x2, .int x3]) ++ List.replicate (4 - (lg_sl ([.ref (G.2.2.2.1 4), .int x1, .int x2, .int x3])).length) Slot.unset).toArray = ls at hl ⊢
  have hl : lv_has ls 4 [(0, .ref (G.2.2.2.1 4)), (1, .int x1), (2, .int x2), (3, .int x3)] := hl
  refine bX1_move_0 (A := va_A (cw G σ) s.heap.size) hA ⟨⟨hx, hb, hml, hown, hts⟩, hK, hN⟩ ⟨Nat.le_of_ble_eq_true rfl, Nat.le_of_ble_eq_true rfl⟩ (o := o) (fun τ pc H locs ls ho w d => ?_) σ x1 x2 x3 _ _ _ hf ⟨hP, hD, hS⟩ hl
  exact W.vret hx hb hr (fun t ht hW => ⟨⟨τ, rfl, by rw [ho], by have h9 := w.1; rw [← ht] at h9; exact h9⟩, w.2.2.F ht⟩) w.2.2.2.2 d
theorem in_X1_weight_X1 : ∀ w ∈ u_ws RX1 TX1 8, w ∈ wsX1_weight := fun _ h => xt1 (xl (xr (h)))
theorem in_X1_weight_X2 : ∀ w ∈ u_ws RX2 TX2 4, w ∈ wsX1_weight := fun _ h => xt1 (xr (h))
noncomputable def fX1_weight (σ : hy_S) (x1 : Int32) : Option (hy_S × Int32) := hy_ga σ 5 60 x1 (fun v1 => hy_ga σ 2 8 v1 (fun v4 => hy_ga σ 8 60 x1 (fun v7 => some (σ, (v4 + v7)))))
set_option maxHeartbeats 4000000 in
set_option maxRecDepth 100000 in
theorem bX1_weight_0 (hA : ∀ q : Nat, s.heap.size ≤ q → A q) (B : hy_B RX1 cX1_weight 2 wsX1_weight G A p s m args c) (hR : 0 ≤ R.frames ∧ 0 ≤ R.locals) {o : hy_S × Int32}  (hret : ∀ (σ : hy_S) (v : Int32) (pc : Nat) (H : Heap) (locs : List Loc) (ls : Array Slot), o = (σ, v) → hy_w cw G A s σ H locs → decode cX1_weight pc = .ok (.ireturn, 1) → W p l e R s m args below meth c H locs 0 0 Q (F0 m pc ls [.int v])) (σ : hy_S) (x1 : Int32) (H : Heap) (locs : List Loc) (ls : Array Slot) (hf : fX1_weight σ x1 = some o) (w : hy_w cw G A s σ H locs) (hl : lv_has ls 2 [(0, .ref (G.2.2.2.1 4)), (1, .int x1)]) : W p l e R s m args below meth c H locs 0 0 Q (F0 m 0 ls []) := by
  unfold fX1_weight at hf
  refine lv_aload_n B.1.1 B.1.2.1 dX1_weight_0 rfl (lv_at hl 0 rfl) ?_
  refine hy_get (k := 0) (v := .ref (G.2.2.2.1 3)) B w (cwq_4 G) rfl in_X1_weight_X1 (by decide) (by decide +kernel) rfl dX1_weight_1 ?_
  refine hy_getN (k := 0) (v := .ref (G.2.2.2.1 12)) B w (cwq_3 G) rfl in_X1_weight_X2 (by decide) (by decide +kernel) rfl dX1_weight_4 ?_
  refine lv_aload_n B.1.1 B.1.2.1 dX1_weight_7 rfl (lv_at hl 0 rfl) ?_
  refine hy_get (k := 1) (v := .ref (G.2.2.2.1 15)) B w (cwq_4 G) rfl in_X1_weight_X1 (by decide) (by decide +kernel) rfl dX1_weight_8 ?_
  refine lv_iload_n B.1.1 B.1.2.1 dX1_weight_11 rfl (lv_at hl 1 rfl) ?_
  obtain ⟨h3, v1, e2, hf⟩ := hy_ga_some hf
  refine hy_iald B w (cwq_15 G) h3 e2 dX1_weight_12 ?_
  obtain ⟨h6, v4, e5, hf⟩ := hy_ga_some hf
  refine hy_iald B w (cwq_12 G) h6 e5 dX1_weight_13 ?_
  refine lv_aload_n B.1.1 B.1.2.1 dX1_weight_14 rfl (lv_at hl 0 rfl) ?_
  refine hy_get (k := 4) (v := .ref (G.2.2.2.1 18)) B w (cwq_4 G) rfl in_X1_weight_X1 (by decide) (by decide +kernel) rfl dX1_weight_15 ?_
  refine lv_iload_n B.1.1 B.1.2.1 dX1_weight_18 rfl (lv_at hl 1 rfl) ?_
  obtain ⟨h9, v7, e8, hf⟩ := hy_ga_some hf
  refine hy_iald B w (cwq_18 G) h9 e8 dX1_weight_19 ?_
  refine lv_iadd B.1.1 B.1.2.1 dX1_weight_20 ?_
  exact hret _ _ _ _ _ _ (Option.some.inj hf).symm w dX1_weight_21
set_option maxHeartbeats 4000000 in
set_option maxRecDepth 100000 in
theorem mX1_weight (l : Launch) (G : hy_G) (sz : Nat) (σ : hy_S) (x1 : Int32) (o : hy_S × Int32) (hf : fX1_weight σ x1 = some o) : hy_M l yX1_weight wsX1_weight ({ frames := 0, cells := 0, slots := 0, locals := 0 }) cw G σ sz [.ref (G.2.2.2.1 4), .int x1] o := by
  refine Met.ofW (cc := cX1_weight) (maxL := 2) (ret := (some .int)) (by decide +kernel) rfl ?_
  intro p e s m args below meth c s₁ B hml hv
  obtain ⟨rfl, hsz, hP, hK, hD0, hN⟩ := hv
  have hx := B.exec
  have hb := B.bytes
  have hr := B.returns
  have hts := atoms_spec (ws := wsX1_weight) B.pre
  have hown : s.vm.findClass RX1 = some m.cls := findClass_of_methodNamed B.named
  have hlocks := B.notSynchronized
  subst hsz
  have hD := hD0.self (sz := s.heap.size)
  have hA : ∀ q : Nat, s.heap.size ≤ q → va_A (cw G σ) s.heap.size q := fun q h => Or.inr h
  have hS : va_S (va_A (cw G σ) s.heap.size) s.heap s.heap [] := va_S.rf
  have hl := lv_entry ([.ref (G.2.2.2.1 4), .int x1]) (n := 2) (Nat.le_of_ble_eq_true rfl)
  rw [lg_entry_eq]
  generalize (lg_sl ([.ref (G.2.2.2.1 4), .int x1]) ++ List.replicate (2 - (lg_sl ([.ref (G.2.2.2.1 4), .int x1])).length) Slot.unset).toArray = ls at hl ⊢
  have hl : lv_has ls 2 [(0, .ref (G.2.2.2.1 4)), (1, .int x1)] := hl
  refine bX1_weight_0 (A := va_A (cw G σ) s.heap.size) hA ⟨⟨hx, hb, hml, hown, hts⟩, hK, hN⟩ ⟨Nat.le_of_ble_eq_true rfl, Nat.le_of_ble_eq_true rfl⟩ (o := o) (fun τ v pc H locs ls ho w d => ?_) σ x1 _ _ _ hf ⟨hP, hD, hS⟩ hl
  exact W.iret hx hb hr (fun t ht hW => ⟨⟨v, τ, rfl, ⟨by rw [ho], by rw [ho]⟩, by have h9 := w.1; rw [← ht] at h9; exact h9⟩, w.2.2.F ht⟩) w.2.2.2.2 d
theorem in_X1_bears_X1 : ∀ w ∈ u_ws RX1 TX1 8, w ∈ wsX1_bears := fun _ h => xt1 (xl (xr (h)))
theorem in_X1_bears_X2 : ∀ w ∈ u_ws RX2 TX2 4, w ∈ wsX1_bears := fun _ h => xt1 (xr (h))
noncomputable def fX1_bears (σ : hy_S) (x1 : Int32) : Option (hy_S × Int32) := hy_ga σ 5 60 x1 (fun v1 => hy_ga σ 4 8 v1 (fun v4 => some (σ, v4)))
set_option maxHeartbeats 4000000 in
set_option maxRecDepth 100000 in
theorem bX1_bears_0 (hA : ∀ q : Nat, s.heap.size ≤ q → A q) (B : hy_B RX1 cX1_bears 2 wsX1_bears G A p s m args c) (hR : 0 ≤ R.frames ∧ 0 ≤ R.locals) {o : hy_S × Int32}  (hret : ∀ (σ : hy_S) (v : Int32) (pc : Nat) (H : Heap) (locs : List Loc) (ls : Array Slot), o = (σ, v) → hy_w cw G A s σ H locs → decode cX1_bears pc = .ok (.ireturn, 1) → W p l e R s m args below meth c H locs 0 0 Q (F0 m pc ls [.int v])) (σ : hy_S) (x1 : Int32) (H : Heap) (locs : List Loc) (ls : Array Slot) (hf : fX1_bears σ x1 = some o) (w : hy_w cw G A s σ H locs) (hl : lv_has ls 2 [(0, .ref (G.2.2.2.1 4)), (1, .int x1)]) : W p l e R s m args below meth c H locs 0 0 Q (F0 m 0 ls []) := by
  unfold fX1_bears at hf
  refine lv_aload_n B.1.1 B.1.2.1 dX1_bears_0 rfl (lv_at hl 0 rfl) ?_
  refine hy_get (k := 0) (v := .ref (G.2.2.2.1 3)) B w (cwq_4 G) rfl in_X1_bears_X1 (by decide) (by decide +kernel) rfl dX1_bears_1 ?_
  refine hy_getN (k := 2) (v := .ref (G.2.2.2.1 14)) B w (cwq_3 G) rfl in_X1_bears_X2 (by decide) (by decide +kernel) rfl dX1_bears_4 ?_
  refine lv_aload_n B.1.1 B.1.2.1 dX1_bears_7 rfl (lv_at hl 0 rfl) ?_
  refine hy_get (k := 1) (v := .ref (G.2.2.2.1 15)) B w (cwq_4 G) rfl in_X1_bears_X1 (by decide) (by decide +kernel) rfl dX1_bears_8 ?_
  refine lv_iload_n B.1.1 B.1.2.1 dX1_bears_11 rfl (lv_at hl 1 rfl) ?_
  obtain ⟨h3, v1, e2, hf⟩ := hy_ga_some hf
  refine hy_iald B w (cwq_15 G) h3 e2 dX1_bears_12 ?_
  obtain ⟨h6, v4, e5, hf⟩ := hy_ga_some hf
  refine hy_iald B w (cwq_14 G) h6 e5 dX1_bears_13 ?_
  exact hret _ _ _ _ _ _ (Option.some.inj hf).symm w dX1_bears_14
set_option maxHeartbeats 4000000 in
set_option maxRecDepth 100000 in
theorem mX1_bears (l : Launch) (G : hy_G) (sz : Nat) (σ : hy_S) (x1 : Int32) (o : hy_S × Int32) (hf : fX1_bears σ x1 = some o) : hy_M l yX1_bears wsX1_bears ({ frames := 0, cells := 0, slots := 0, locals := 0 }) cw G σ sz [.ref (G.2.2.2.1 4), .int x1] o := by
  refine Met.ofW (cc := cX1_bears) (maxL := 2) (ret := (some .int)) (by decide +kernel) rfl ?_
  intro p e s m args below meth c s₁ B hml hv
  obtain ⟨rfl, hsz, hP, hK, hD0, hN⟩ := hv
  have hx := B.exec
  have hb := B.bytes
  have hr := B.returns
  have hts := atoms_spec (ws := wsX1_bears) B.pre
  have hown : s.vm.findClass RX1 = some m.cls := findClass_of_methodNamed B.named
  have hlocks := B.notSynchronized
  subst hsz
  have hD := hD0.self (sz := s.heap.size)
  have hA : ∀ q : Nat, s.heap.size ≤ q → va_A (cw G σ) s.heap.size q := fun q h => Or.inr h
  have hS : va_S (va_A (cw G σ) s.heap.size) s.heap s.heap [] := va_S.rf
  have hl := lv_entry ([.ref (G.2.2.2.1 4), .int x1]) (n := 2) (Nat.le_of_ble_eq_true rfl)
  rw [lg_entry_eq]
  generalize (lg_sl ([.ref (G.2.2.2.1 4), .int x1]) ++ List.replicate (2 - (lg_sl ([.ref (G.2.2.2.1 4), .int x1])).length) Slot.unset).toArray = ls at hl ⊢
  have hl : lv_has ls 2 [(0, .ref (G.2.2.2.1 4)), (1, .int x1)] := hl
  refine bX1_bears_0 (A := va_A (cw G σ) s.heap.size) hA ⟨⟨hx, hb, hml, hown, hts⟩, hK, hN⟩ ⟨Nat.le_of_ble_eq_true rfl, Nat.le_of_ble_eq_true rfl⟩ (o := o) (fun τ v pc H locs ls ho w d => ?_) σ x1 _ _ _ hf ⟨hP, hD, hS⟩ hl
  exact W.iret hx hb hr (fun t ht hW => ⟨⟨v, τ, rfl, ⟨by rw [ho], by rw [ho]⟩, by have h9 := w.1; rw [← ht] at h9; exact h9⟩, w.2.2.F ht⟩) w.2.2.2.2 d
theorem in_X1_countIn_X1 : ∀ w ∈ u_ws RX1 TX1 8, w ∈ wsX1_countIn := fun _ h => xt1 (xr (h))
noncomputable def fX1_countIn_25 (k4 : hy_S → Int32 → Int32 → Int32 → Option (hy_S × Int32)) (σ : hy_S) (x1 : Int32) (x2 : Int32) (x3 : Int32) : Option (hy_S × Int32) := k4 σ x1 x2 (x3 + 1)
noncomputable def fX1_countIn_4 : Nat → hy_S → Int32 → Int32 → Int32 → Option (hy_S × Int32)
  | 0, _, _, _, _ => none
  | n + 1, σ, x1, x2, x3 => (if (σ.2 4) ≤ x3 then some (σ, x2) else hy_ga σ 9 60 x3 (fun v2 => (if v2 = x1 then fX1_countIn_25 (fX1_countIn_4 n) σ x1 (x2 + 1) x3 else fX1_countIn_25 (fX1_countIn_4 n) σ x1 x2 x3)))
noncomputable def fX1_countIn (σ : hy_S) (x1 : Int32) : Option (hy_S × Int32) := fX1_countIn_4 hy_fu σ x1 0 0
set_option maxHeartbeats 4000000 in
set_option maxRecDepth 100000 in
theorem bX1_countIn_25 (hA : ∀ q : Nat, s.heap.size ≤ q → A q) (B : hy_B RX1 cX1_countIn 4 wsX1_countIn G A p s m args c) (hR : 0 ≤ R.frames ∧ 0 ≤ R.locals) {o : hy_S × Int32}  {k4 : hy_S → Int32 → Int32 → Int32 → Option (hy_S × Int32)} (hk4 : ∀ (σ : hy_S) (x1 : Int32) (x2 : Int32) (x3 : Int32) (H : Heap) (locs : List Loc) (ls : Array Slot), k4 σ x1 x2 x3 = some o → hy_w cw G A s σ H locs → lv_has ls 4 [(0, .ref (G.2.2.2.1 4)), (1, .int x1), (2, .int x2), (3, .int x3)] → W p l e R s m args below meth c H locs 0 0 Q (F0 m 4 ls [])) (hret : ∀ (σ : hy_S) (v : Int32) (pc : Nat) (H : Heap) (locs : List Loc) (ls : Array Slot), o = (σ, v) → hy_w cw G A s σ H locs → decode cX1_countIn pc = .ok (.ireturn, 1) → W p l e R s m args below meth c H locs 0 0 Q (F0 m pc ls [.int v])) (σ : hy_S) (x1 : Int32) (x2 : Int32) (x3 : Int32) (H : Heap) (locs : List Loc) (ls : Array Slot) (hf : fX1_countIn_25 k4 σ x1 x2 x3 = some o) (w : hy_w cw G A s σ H locs) (hl : lv_has ls 4 [(0, .ref (G.2.2.2.1 4)), (1, .int x1), (2, .int x2), (3, .int x3)]) : W p l e R s m args below meth c H locs 0 0 Q (F0 m 25 ls []) := by
  unfold fX1_countIn_25 at hf
  refine lv_iinc (v := (x3 + 1)) (lv' := [(3, .int (x3 + 1)), (0, .ref (G.2.2.2.1 4)), (1, .int x1), (2, .int x2)]) B.1.1 B.1.2.1 dX1_countIn_25 hl (k := 3) rfl rfl (by decide) rfl (fun ls hl => ?_)
  refine lv_goto (tgt := 4) B.1.1 B.1.2.1 dX1_countIn_28 (by decide) ?_
  exact hk4 _ _ _ _ _ _ _ hf w (lv_sub hl [1, 2, 3, 0] rfl)
set_option maxHeartbeats 4000000 in
set_option maxRecDepth 100000 in
theorem bX1_countIn_4 (hA : ∀ q : Nat, s.heap.size ≤ q → A q) (B : hy_B RX1 cX1_countIn 4 wsX1_countIn G A p s m args c) (hR : 0 ≤ R.frames ∧ 0 ≤ R.locals) {o : hy_S × Int32}  (hret : ∀ (σ : hy_S) (v : Int32) (pc : Nat) (H : Heap) (locs : List Loc) (ls : Array Slot), o = (σ, v) → hy_w cw G A s σ H locs → decode cX1_countIn pc = .ok (.ireturn, 1) → W p l e R s m args below meth c H locs 0 0 Q (F0 m pc ls [.int v])) : ∀ (n : Nat) (σ : hy_S) (x1 : Int32) (x2 : Int32) (x3 : Int32) (H : Heap) (locs : List Loc) (ls : Array Slot), fX1_countIn_4 n σ x1 x2 x3 = some o → hy_w cw G A s σ H locs → lv_has ls 4 [(0, .ref (G.2.2.2.1 4)), (1, .int x1), (2, .int x2), (3, .int x3)] → W p l e R s m args below meth c H locs 0 0 Q (F0 m 4 ls []) := by
  intro n
  induction n with
  | zero => intro σ x1 x2 x3 H locs ls hf; cases hf
  | succ n hk4 =>
    intro σ x1 x2 x3 H locs ls hf w hl
    unfold fX1_countIn_4 at hf
    refine lv_iload_n B.1.1 B.1.2.1 dX1_countIn_4 rfl (lv_at hl 3 rfl) ?_
    refine lv_aload_n B.1.1 B.1.2.1 dX1_countIn_5 rfl (lv_at hl 0 rfl) ?_
    refine hy_get (k := 7) (v := .int (σ.2 4)) B w (cwq_4 G) rfl in_X1_countIn_X1 (by decide) (by decide +kernel) rfl dX1_countIn_6 ?_
    refine lv_icmp_ge (tgt := 31) B.1.1 B.1.2.1 dX1_countIn_9 (by decide) (fun c1 => ?_) (fun c1 => ?_)
    · rw [if_pos c1] at hf
      refine lv_iload_n B.1.1 B.1.2.1 dX1_countIn_31 rfl (lv_at hl 2 rfl) ?_
      exact hret _ _ _ _ _ _ (Option.some.inj hf).symm w dX1_countIn_32
    · rw [if_neg c1] at hf
      refine lv_aload_n B.1.1 B.1.2.1 dX1_countIn_12 rfl (lv_at hl 0 rfl) ?_
      refine hy_get (k := 5) (v := .ref (G.2.2.2.1 19)) B w (cwq_4 G) rfl in_X1_countIn_X1 (by decide) (by decide +kernel) rfl dX1_countIn_13 ?_
      refine lv_iload_n B.1.1 B.1.2.1 dX1_countIn_16 rfl (lv_at hl 3 rfl) ?_
      obtain ⟨h4, v2, e3, hf⟩ := hy_ga_some hf
      refine hy_iald B w (cwq_19 G) h4 e3 dX1_countIn_17 ?_
      refine lv_iload_n B.1.1 B.1.2.1 dX1_countIn_18 rfl (lv_at hl 1 rfl) ?_
      refine lv_icmp_ne (tgt := 25) B.1.1 B.1.2.1 dX1_countIn_19 (by decide) (fun c5 => ?_) (fun c5 => ?_)
      · rw [if_neg c5] at hf
        exact bX1_countIn_25 hA B hR hk4 hret _ _ _ _ _ _ _ hf w (lv_sub hl [0, 1, 2, 3] rfl)
      · rw [if_pos c5] at hf
        refine lv_iinc (v := (x2 + 1)) (lv' := [(2, .int (x2 + 1)), (0, .ref (G.2.2.2.1 4)), (1, .int x1), (3, .int x3)]) B.1.1 B.1.2.1 dX1_countIn_22 hl (k := 2) rfl rfl (by decide) rfl (fun ls hl => ?_)
        exact bX1_countIn_25 hA B hR hk4 hret _ _ _ _ _ _ _ hf w (lv_sub hl [1, 2, 0, 3] rfl)
set_option maxHeartbeats 4000000 in
set_option maxRecDepth 100000 in
theorem bX1_countIn_0 (hA : ∀ q : Nat, s.heap.size ≤ q → A q) (B : hy_B RX1 cX1_countIn 4 wsX1_countIn G A p s m args c) (hR : 0 ≤ R.frames ∧ 0 ≤ R.locals) {o : hy_S × Int32}  (hret : ∀ (σ : hy_S) (v : Int32) (pc : Nat) (H : Heap) (locs : List Loc) (ls : Array Slot), o = (σ, v) → hy_w cw G A s σ H locs → decode cX1_countIn pc = .ok (.ireturn, 1) → W p l e R s m args below meth c H locs 0 0 Q (F0 m pc ls [.int v])) (σ : hy_S) (x1 : Int32) (H : Heap) (locs : List Loc) (ls : Array Slot) (hf : fX1_countIn σ x1 = some o) (w : hy_w cw G A s σ H locs) (hl : lv_has ls 4 [(0, .ref (G.2.2.2.1 4)), (1, .int x1)]) : W p l e R s m args below meth c H locs 0 0 Q (F0 m 0 ls []) := by
  unfold fX1_countIn at hf
  refine lv_iconst (v := 0) B.1.1 B.1.2.1 dX1_countIn_0 (by decide) ?_
  refine lv_istore_n (lv' := [(2, .int 0), (0, .ref (G.2.2.2.1 4)), (1, .int x1)]) B.1.1 B.1.2.1 dX1_countIn_1 rfl hl (by decide) rfl (fun ls hl => ?_)
  refine lv_iconst (v := 0) B.1.1 B.1.2.1 dX1_countIn_2 (by decide) ?_
  refine lv_istore_n (lv' := [(3, .int 0), (2, .int 0), (0, .ref (G.2.2.2.1 4)), (1, .int x1)]) B.1.1 B.1.2.1 dX1_countIn_3 rfl hl (by decide) rfl (fun ls hl => ?_)
  exact bX1_countIn_4 hA B hR  hret _ _ _ _ _ _ _ _ hf w (lv_sub hl [2, 3, 1, 0] rfl)
set_option maxHeartbeats 4000000 in
set_option maxRecDepth 100000 in
theorem mX1_countIn (l : Launch) (G : hy_G) (sz : Nat) (σ : hy_S) (x1 : Int32) (o : hy_S × Int32) (hf : fX1_countIn σ x1 = some o) : hy_M l yX1_countIn wsX1_countIn ({ frames := 0, cells := 0, slots := 0, locals := 0 }) cw G σ sz [.ref (G.2.2.2.1 4), .int x1] o := by
  refine Met.ofW (cc := cX1_countIn) (maxL := 4) (ret := (some .int)) (by decide +kernel) rfl ?_
  intro p e s m args below meth c s₁ B hml hv
  obtain ⟨rfl, hsz, hP, hK, hD0, hN⟩ := hv
  have hx := B.exec
  have hb := B.bytes
  have hr := B.returns
  have hts := atoms_spec (ws := wsX1_countIn) B.pre
  have hown : s.vm.findClass RX1 = some m.cls := findClass_of_methodNamed B.named
  have hlocks := B.notSynchronized
  subst hsz
  have hD := hD0.self (sz := s.heap.size)
  have hA : ∀ q : Nat, s.heap.size ≤ q → va_A (cw G σ) s.heap.size q := fun q h => Or.inr h
  have hS : va_S (va_A (cw G σ) s.heap.size) s.heap s.heap [] := va_S.rf
  have hl := lv_entry ([.ref (G.2.2.2.1 4), .int x1]) (n := 4) (Nat.le_of_ble_eq_true rfl)
  rw [lg_entry_eq]
  generalize (lg_sl ([.ref (G.2.2.2.1 4), .int x1]) ++ List.replicate (4 - (lg_sl ([.ref (G.2.2.2.1 4), .int x1])).length) Slot.unset).toArray = ls at hl ⊢
  have hl : lv_has ls 4 [(0, .ref (G.2.2.2.1 4)), (1, .int x1)] := hl
  refine bX1_countIn_0 (A := va_A (cw G σ) s.heap.size) hA ⟨⟨hx, hb, hml, hown, hts⟩, hK, hN⟩ ⟨Nat.le_of_ble_eq_true rfl, Nat.le_of_ble_eq_true rfl⟩ (o := o) (fun τ v pc H locs ls ho w d => ?_) σ x1 _ _ _ hf ⟨hP, hD, hS⟩ hl
  exact W.iret hx hb hr (fun t ht hW => ⟨⟨v, τ, rfl, ⟨by rw [ho], by rw [ho]⟩, by have h9 := w.1; rw [← ht] at h9; exact h9⟩, w.2.2.F ht⟩) w.2.2.2.2 d
theorem in_X1_oilUnbroken_X1 : ∀ w ∈ u_ws RX1 TX1 8, w ∈ wsX1_oilUnbroken := fun _ h => xt1 (xr (h))
noncomputable def fX1_oilUnbroken_31 (k4 : hy_S → Int32 → Int32 → Option (hy_S × Int32)) (σ : hy_S) (x1 : Int32) (x2 : Int32) : Option (hy_S × Int32) := k4 σ x1 (x2 + 1)
noncomputable def fX1_oilUnbroken_4 : Nat → hy_S → Int32 → Int32 → Option (hy_S × Int32)
  | 0, _, _, _ => none
  | n + 1, σ, x1, x2 => (if (σ.2 4) ≤ x2 then some (σ, x1) else hy_ga σ 9 60 x2 (fun v2 => (if v2 = 3 then fX1_oilUnbroken_31 (fX1_oilUnbroken_4 n) σ x1 x2 else hy_ga σ 8 60 x2 (fun v6 => fX1_oilUnbroken_31 (fX1_oilUnbroken_4 n) σ (x1 + v6) x2))))
noncomputable def fX1_oilUnbroken (σ : hy_S) : Option (hy_S × Int32) := fX1_oilUnbroken_4 hy_fu σ 0 0
set_option maxHeartbeats 4000000 in
set_option maxRecDepth 100000 in
theorem bX1_oilUnbroken_31 (hA : ∀ q : Nat, s.heap.size ≤ q → A q) (B : hy_B RX1 cX1_oilUnbroken 3 wsX1_oilUnbroken G A p s m args c) (hR : 0 ≤ R.frames ∧ 0 ≤ R.locals) {o : hy_S × Int32}  {k4 : hy_S → Int32 → Int32 → Option (hy_S × Int32)} (hk4 : ∀ (σ : hy_S) (x1 : Int32) (x2 : Int32) (H : Heap) (locs : List Loc) (ls : Array Slot), k4 σ x1 x2 = some o → hy_w cw G A s σ H locs → lv_has ls 3 [(0, .ref (G.2.2.2.1 4)), (1, .int x1), (2, .int x2)] → W p l e R s m args below meth c H locs 0 0 Q (F0 m 4 ls [])) (hret : ∀ (σ : hy_S) (v : Int32) (pc : Nat) (H : Heap) (locs : List Loc) (ls : Array Slot), o = (σ, v) → hy_w cw G A s σ H locs → decode cX1_oilUnbroken pc = .ok (.ireturn, 1) → W p l e R s m args below meth c H locs 0 0 Q (F0 m pc ls [.int v])) (σ : hy_S) (x1 : Int32) (x2 : Int32) (H : Heap) (locs : List Loc) (ls : Array Slot) (hf : fX1_oilUnbroken_31 k4 σ x1 x2 = some o) (w : hy_w cw G A s σ H locs) (hl : lv_has ls 3 [(0, .ref (G.2.2.2.1 4)), (1, .int x1), (2, .int x2)]) : W p l e R s m args below meth c H locs 0 0 Q (F0 m 31 ls []) := by
  unfold fX1_oilUnbroken_31 at hf
  refine lv_iinc (v := (x2 + 1)) (lv' := [(2, .int (x2 + 1)), (0, .ref (G.2.2.2.1 4)), (1, .int x1)]) B.1.1 B.1.2.1 dX1_oilUnbroken_31 hl (k := 2) rfl rfl (by decide) rfl (fun ls hl => ?_)
  refine lv_goto (tgt := 4) B.1.1 B.1.2.1 dX1_oilUnbroken_34 (by decide) ?_
  exact hk4 _ _ _ _ _ _ hf w (lv_sub hl [1, 2, 0] rfl)
set_option maxHeartbeats 4000000 in
set_option maxRecDepth 100000 in
theorem bX1_oilUnbroken_4 (hA : ∀ q : Nat, s.heap.size ≤ q → A q) (B : hy_B RX1 cX1_oilUnbroken 3 wsX1_oilUnbroken G A p s m args c) (hR : 0 ≤ R.frames ∧ 0 ≤ R.locals) {o : hy_S × Int32}  (hret : ∀ (σ : hy_S) (v : Int32) (pc : Nat) (H : Heap) (locs : List Loc) (ls : Array Slot), o = (σ, v) → hy_w cw G A s σ H locs → decode cX1_oilUnbroken pc = .ok (.ireturn, 1) → W p l e R s m args below meth c H locs 0 0 Q (F0 m pc ls [.int v])) : ∀ (n : Nat) (σ : hy_S) (x1 : Int32) (x2 : Int32) (H : Heap) (locs : List Loc) (ls : Array Slot), fX1_oilUnbroken_4 n σ x1 x2 = some o → hy_w cw G A s σ H locs → lv_has ls 3 [(0, .ref (G.2.2.2.1 4)), (1, .int x1), (2, .int x2)] → W p l e R s m args below meth c H locs 0 0 Q (F0 m 4 ls []) := by
  intro n
  induction n with
  | zero => intro σ x1 x2 H locs ls hf; cases hf
  | succ n hk4 =>
    intro σ x1 x2 H locs ls hf w hl
    unfold fX1_oilUnbroken_4 at hf
    refine lv_iload_n B.1.1 B.1.2.1 dX1_oilUnbroken_4 rfl (lv_at hl 2 rfl) ?_
    refine lv_aload_n B.1.1 B.1.2.1 dX1_oilUnbroken_5 rfl (lv_at hl 0 rfl) ?_
    refine hy_get (k := 7) (v := .int (σ.2 4)) B w (cwq_4 G) rfl in_X1_oilUnbroken_X1 (by decide) (by decide +kernel) rfl dX1_oilUnbroken_6 ?_
    refine lv_icmp_ge (tgt := 37) B.1.1 B.1.2.1 dX1_oilUnbroken_9 (by decide) (fun c1 => ?_) (fun c1 => ?_)
    · rw [if_pos c1] at hf
      refine lv_iload_n B.1.1 B.1.2.1 dX1_oilUnbroken_37 rfl (lv_at hl 1 rfl) ?_
      exact hret _ _ _ _ _ _ (Option.some.inj hf).symm w dX1_oilUnbroken_38
    · rw [if_neg c1] at hf
      refine lv_aload_n B.1.1 B.1.2.1 dX1_oilUnbroken_12 rfl (lv_at hl 0 rfl) ?_
      refine hy_get (k := 5) (v := .ref (G.2.2.2.1 19)) B w (cwq_4 G) rfl in_X1_oilUnbroken_X1 (by decide) (by decide +kernel) rfl dX1_oilUnbroken_13 ?_
      refine lv_iload_n B.1.1 B.1.2.1 dX1_oilUnbroken_16 rfl (lv_at hl 2 rfl) ?_
      obtain ⟨h4, v2, e3, hf⟩ := hy_ga_some hf
      refine hy_iald B w (cwq_19 G) h4 e3 dX1_oilUnbroken_17 ?_
      refine lv_iconst (v := 3) B.1.1 B.1.2.1 dX1_oilUnbroken_18 (by decide) ?_
      refine lv_icmp_eq (tgt := 31) B.1.1 B.1.2.1 dX1_oilUnbroken_19 (by decide) (fun c5 => ?_) (fun c5 => ?_)
      · rw [if_pos c5] at hf
        exact bX1_oilUnbroken_31 hA B hR hk4 hret _ _ _ _ _ _ hf w (lv_sub hl [0, 1, 2] rfl)
      · rw [if_neg c5] at hf
        refine lv_iload_n B.1.1 B.1.2.1 dX1_oilUnbroken_22 rfl (lv_at hl 1 rfl) ?_
        refine lv_aload_n B.1.1 B.1.2.1 dX1_oilUnbroken_23 rfl (lv_at hl 0 rfl) ?_
        refine hy_get (k := 4) (v := .ref (G.2.2.2.1 18)) B w (cwq_4 G) rfl in_X1_oilUnbroken_X1 (by decide) (by decide +kernel) rfl dX1_oilUnbroken_24 ?_
        refine lv_iload_n B.1.1 B.1.2.1 dX1_oilUnbroken_27 rfl (lv_at hl 2 rfl) ?_
        obtain ⟨h8, v6, e7, hf⟩ := hy_ga_some hf
        refine hy_iald B w (cwq_18 G) h8 e7 dX1_oilUnbroken_28 ?_
        refine lv_iadd B.1.1 B.1.2.1 dX1_oilUnbroken_29 ?_
        refine lv_istore_n (lv' := [(1, .int (x1 + v6)), (0, .ref (G.2.2.2.1 4)), (2, .int x2)]) B.1.1 B.1.2.1 dX1_oilUnbroken_30 rfl hl (by decide) rfl (fun ls hl => ?_)
        exact bX1_oilUnbroken_31 hA B hR hk4 hret _ _ _ _ _ _ hf w (lv_sub hl [1, 0, 2] rfl)
set_option maxHeartbeats 4000000 in
set_option maxRecDepth 100000 in
theorem bX1_oilUnbroken_0 (hA : ∀ q : Nat, s.heap.size ≤ q → A q) (B : hy_B RX1 cX1_oilUnbroken 3 wsX1_oilUnbroken G A p s m args c) (hR : 0 ≤ R.frames ∧ 0 ≤ R.locals) {o : hy_S × Int32}  (hret : ∀ (σ : hy_S) (v : Int32) (pc : Nat) (H : Heap) (locs : List Loc) (ls : Array Slot), o = (σ, v) → hy_w cw G A s σ H locs → decode cX1_oilUnbroken pc = .ok (.ireturn, 1) → W p l e R s m args below meth c H locs 0 0 Q (F0 m pc ls [.int v])) (σ : hy_S) (H : Heap) (locs : List Loc) (ls : Array Slot) (hf : fX1_oilUnbroken σ = some o) (w : hy_w cw G A s σ H locs) (hl : lv_has ls 3 [(0, .ref (G.2.2.2.1 4))]) : W p l e R s m args below meth c H locs 0 0 Q (F0 m 0 ls []) := by
  unfold fX1_oilUnbroken at hf
  refine lv_iconst (v := 0) B.1.1 B.1.2.1 dX1_oilUnbroken_0 (by decide) ?_
  refine lv_istore_n (lv' := [(1, .int 0), (0, .ref (G.2.2.2.1 4))]) B.1.1 B.1.2.1 dX1_oilUnbroken_1 rfl hl (by decide) rfl (fun ls hl => ?_)
  refine lv_iconst (v := 0) B.1.1 B.1.2.1 dX1_oilUnbroken_2 (by decide) ?_
  refine lv_istore_n (lv' := [(2, .int 0), (1, .int 0), (0, .ref (G.2.2.2.1 4))]) B.1.1 B.1.2.1 dX1_oilUnbroken_3 rfl hl (by decide) rfl (fun ls hl => ?_)
  exact bX1_oilUnbroken_4 hA B hR  hret _ _ _ _ _ _ _ hf w (lv_sub hl [2, 1, 0] rfl)
set_option maxHeartbeats 4000000 in
set_option maxRecDepth 100000 in
theorem mX1_oilUnbroken (l : Launch) (G : hy_G) (sz : Nat) (σ : hy_S) (o : hy_S × Int32) (hf : fX1_oilUnbroken σ = some o) : hy_M l yX1_oilUnbroken wsX1_oilUnbroken ({ frames := 0, cells := 0, slots := 0, locals := 0 }) cw G σ sz [.ref (G.2.2.2.1 4)] o := by
  refine Met.ofW (cc := cX1_oilUnbroken) (maxL := 3) (ret := (some .int)) (by decide +kernel) rfl ?_
  intro p e s m args below meth c s₁ B hml hv
  obtain ⟨rfl, hsz, hP, hK, hD0, hN⟩ := hv
  have hx := B.exec
  have hb := B.bytes
  have hr := B.returns
  have hts := atoms_spec (ws := wsX1_oilUnbroken) B.pre
  have hown : s.vm.findClass RX1 = some m.cls := findClass_of_methodNamed B.named
  have hlocks := B.notSynchronized
  subst hsz
  have hD := hD0.self (sz := s.heap.size)
  have hA : ∀ q : Nat, s.heap.size ≤ q → va_A (cw G σ) s.heap.size q := fun q h => Or.inr h
  have hS : va_S (va_A (cw G σ) s.heap.size) s.heap s.heap [] := va_S.rf
  have hl := lv_entry ([.ref (G.2.2.2.1 4)]) (n := 3) (Nat.le_of_ble_eq_true rfl)
  rw [lg_entry_eq]
  generalize (lg_sl ([.ref (G.2.2.2.1 4)]) ++ List.replicate (3 - (lg_sl ([.ref (G.2.2.2.1 4)])).length) Slot.unset).toArray = ls at hl ⊢
  have hl : lv_has ls 3 [(0, .ref (G.2.2.2.1 4))] := hl
  refine bX1_oilUnbroken_0 (A := va_A (cw G σ) s.heap.size) hA ⟨⟨hx, hb, hml, hown, hts⟩, hK, hN⟩ ⟨Nat.le_of_ble_eq_true rfl, Nat.le_of_ble_eq_true rfl⟩ (o := o) (fun τ v pc H locs ls ho w d => ?_) σ _ _ _ hf ⟨hP, hD, hS⟩ hl
  exact W.iret hx hb hr (fun t ht hW => ⟨⟨v, τ, rfl, ⟨by rw [ho], by rw [ho]⟩, by have h9 := w.1; rw [← ht] at h9; exact h9⟩, w.2.2.F ht⟩) w.2.2.2.2 d
end HK1
