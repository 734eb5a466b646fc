section HK4
variable {p : Program} {l : Launch} {e : Env} {R : Room} {s : State} {m : MethodId} {args : Array Value} {below : List Frame} {meth : Method} {c : Code} {Q : State → Prop} {G : hy_G} {A : Nat → Prop} {Qc : Array Value → State → Outcome → State → Prop}
theorem in_X4_due_X4 : ∀ w ∈ u_ws RX4 TX4 3, w ∈ wsX4_due := fun _ h => xt1 (xr (h))
noncomputable def fX4_due (σ : hy_S) (x1 : Int32) (x2 : Int32) : Option (hy_S × Int32) := hy_ga σ 15 8 x1 (fun v1 => some (σ, (((x2 * v1) + 9) / 10)))
set_option maxHeartbeats 4000000 in
set_option maxRecDepth 100000 in
theorem bX4_due_0 (hA : ∀ q : Nat, s.heap.size ≤ q → A q) (B : hy_B RX4 cX4_due 3 wsX4_due G A p s m args c) (hR : 0 ≤ R.frames ∧ 0 ≤ R.locals) {o : hy_S × Int32}  (hret : ∀ (σ : hy_S) (v : Int32) (pc : Nat) (H : Heap) (locs : List Loc) (ls : Array Slot), o = (σ, v) → hy_w cw G A s σ H locs → decode cX4_due pc = .ok (.ireturn, 1) → W p l e R s m args below meth c H locs 0 0 Q (F0 m pc ls [.int v])) (σ : hy_S) (x1 : Int32) (x2 : Int32) (H : Heap) (locs : List Loc) (ls : Array Slot) (hf : fX4_due σ x1 x2 = some o) (w : hy_w cw G A s σ H locs) (hl : lv_has ls 3 [(0, .ref (G.2.2.2.1 7)), (1, .int x1), (2, .int x2)]) : W p l e R s m args below meth c H locs 0 0 Q (F0 m 0 ls []) := by
  unfold fX4_due at hf
  refine lv_iload_n B.1.1 B.1.2.1 dX4_due_0 rfl (lv_at hl 2 rfl) ?_
  refine lv_aload_n B.1.1 B.1.2.1 dX4_due_1 rfl (lv_at hl 0 rfl) ?_
  refine hy_get (k := 0) (v := .ref (G.2.2.2.1 25)) B w (cwq_7 G) rfl in_X4_due_X4 (by decide) (by decide +kernel) rfl dX4_due_2 ?_
  refine lv_iload_n B.1.1 B.1.2.1 dX4_due_5 rfl (lv_at hl 1 rfl) ?_
  obtain ⟨h3, v1, e2, hf⟩ := hy_ga_some hf
  refine hy_iald B w (cwq_25 G) h3 e2 dX4_due_6 ?_
  refine lv_imul B.1.1 B.1.2.1 dX4_due_7 ?_
  refine lv_bipush (v := 9) B.1.1 B.1.2.1 dX4_due_8 (by decide) ?_
  refine lv_iadd B.1.1 B.1.2.1 dX4_due_10 ?_
  refine lv_bipush (v := 10) B.1.1 B.1.2.1 dX4_due_11 (by decide) ?_
  refine lv_idiv B.1.1 B.1.2.1 dX4_due_13 (by decide) ?_
  exact hret _ _ _ _ _ _ (Option.some.inj hf).symm w dX4_due_14
set_option maxHeartbeats 4000000 in
set_option maxRecDepth 100000 in
theorem mX4_due (l : Launch) (G : hy_G) (sz : Nat) (σ : hy_S) (x1 : Int32) (x2 : Int32) (o : hy_S × Int32) (hf : fX4_due σ x1 x2 = some o) : hy_M l yX4_due wsX4_due ({ frames := 0, cells := 0, slots := 0, locals := 0 }) cw G σ sz [.ref (G.2.2.2.1 7), .int x1, .int x2] o := by
  refine Met.ofW (cc := cX4_due) (maxL := 3) (ret := (some .int)) (by decide +kernel) rfl ?_
  intro p e s m args below meth c s₁ B hml hv
  obtain ⟨rfl, hsz, hP, hK, hD0, hN⟩ := hv
  have hx := B.exec
  have hb := B.bytes
  have hr := B.returns
  have hts := atoms_spec (ws := wsX4_due) B.pre
  have hown : s.vm.findClass RX4 = some m.cls := findClass_of_methodNamed B.named
  have hlocks := B.notSynchronized
  subst hsz
  have hD := hD0.self (sz := s.heap.size)
  have hA : ∀ q : Nat, s.heap.size ≤ q → va_A (cw G σ) s.heap.size q := fun q h => Or.inr h
  have hS : va_S (va_A (cw G σ) s.heap.size) s.heap s.heap [] := va_S.rf
  have hl := lv_entry ([.ref (G.2.2.2.1 7), .int x1, .int x2]) (n := 3) (Nat.le_of_ble_eq_true rfl)
  rw [lg_entry_eq]
  generalize (lg_sl ([.ref (G.2.2.2.1 7), .int x1, .int x2]) ++ List.replicate (3 - (lg_sl ([.ref (G.2.2.2.1 7), .int x1, .int x2])).length) Slot.unset).toArray = ls at hl ⊢
  have hl : lv_has ls 3 [(0, .ref (G.2.2.2.1 7)), (1, .int x1), (2, .int x2)] := hl
  refine bX4_due_0 (A := va_A (cw G σ) s.heap.size) hA ⟨⟨hx, hb, hml, hown, hts⟩, hK, hN⟩ ⟨Nat.le_of_ble_eq_true rfl, Nat.le_of_ble_eq_true rfl⟩ (o := o) (fun τ v pc H locs ls ho w d => ?_) σ x1 x2 _ _ _ hf ⟨hP, hD, hS⟩ hl
  exact W.iret hx hb hr (fun t ht hW => ⟨⟨v, τ, rfl, ⟨by rw [ho], by rw [ho]⟩, by have h9 := w.1; rw [← ht] at h9; exact h9⟩, w.2.2.F ht⟩) w.2.2.2.2 d
theorem in_X4_countNote_X4 : ∀ w ∈ u_ws RX4 TX4 3, w ∈ wsX4_countNote := fun _ h => xt1 (xr (h))
noncomputable def fX4_countNote (σ : hy_S) (x1 : Int32) (x2 : Int32) : Option (hy_S × Int32) := hy_ga σ 16 8 x1 (fun v1 => hy_pa σ 16 8 x1 (v1 + 1) (fun σ4 => (if x2 = 0 then some (σ4, 0) else hy_ga σ4 17 8 x1 (fun v8 => hy_pa σ4 17 8 x1 (v8 + 1) (fun σ11 => some (σ11, 0))))))
set_option maxHeartbeats 4000000 in
set_option maxRecDepth 100000 in
theorem bX4_countNote_0 (hA : ∀ q : Nat, s.heap.size ≤ q → A q) (B : hy_B RX4 cX4_countNote 3 wsX4_countNote G A p s m args c) (hR : 0 ≤ R.frames ∧ 0 ≤ R.locals) {o : hy_S × Int32}  (hret : ∀ (σ : hy_S) (pc : Nat) (H : Heap) (locs : List Loc) (ls : Array Slot), o = (σ, 0) → hy_w cw G A s σ H locs → decode cX4_countNote pc = .ok (.return_, 1) → W p l e R s m args below meth c H locs 0 0 Q (F0 m pc ls [])) (σ : hy_S) (x1 : Int32) (x2 : Int32) (H : Heap) (locs : List Loc) (ls : Array Slot) (hf : fX4_countNote σ x1 x2 = some o) (w : hy_w cw G A s σ H locs) (hl : lv_has ls 3 [(0, .ref (G.2.2.2.1 7)), (1, .int x1), (2, .int x2)]) : W p l e R s m args below meth c H locs 0 0 Q (F0 m 0 ls []) := by
  unfold fX4_countNote at hf
  refine lv_aload_n B.1.1 B.1.2.1 dX4_countNote_0 rfl (lv_at hl 0 rfl) ?_
  refine hy_get (k := 1) (v := .ref (G.2.2.2.1 26)) B w (cwq_7 G) rfl in_X4_countNote_X4 (by decide) (by decide +kernel) rfl dX4_countNote_1 ?_
  refine lv_iload_n B.1.1 B.1.2.1 dX4_countNote_4 rfl (lv_at hl 1 rfl) ?_
  refine lv_dup2_11 B.1.1 B.1.2.1 dX4_countNote_5 rfl rfl ?_
  obtain ⟨h3, v1, e2, hf⟩ := hy_ga_some hf
  refine hy_iald B w (cwq_26 G) h3 e2 dX4_countNote_6 ?_
  refine lv_iconst (v := 1) B.1.1 B.1.2.1 dX4_countNote_7 (by decide) ?_
  refine lv_iadd B.1.1 B.1.2.1 dX4_countNote_8 ?_
  obtain ⟨h6, σ4, e5, hf⟩ := hy_pa_some hf
  refine hy_iast B w (cwq_26 G) (cws_26 G) h6 e5 dX4_countNote_9 (fun H locs w => ?_)
  refine lv_iload_n B.1.1 B.1.2.1 dX4_countNote_10 rfl (lv_at hl 2 rfl) ?_
  refine lv_if_eq (tgt := 24) B.1.1 B.1.2.1 dX4_countNote_11 (by decide) (fun c7 => ?_) (fun c7 => ?_)
  · rw [if_pos c7] at hf
    exact hret _ _ _ _ _ (Option.some.inj hf).symm w dX4_countNote_24
  · rw [if_neg c7] at hf
    refine lv_aload_n B.1.1 B.1.2.1 dX4_countNote_14 rfl (lv_at hl 0 rfl) ?_
    refine hy_get (k := 2) (v := .ref (G.2.2.2.1 27)) B w (cwq_7 G) rfl in_X4_countNote_X4 (by decide) (by decide +kernel) rfl dX4_countNote_15 ?_
    refine lv_iload_n B.1.1 B.1.2.1 dX4_countNote_18 rfl (lv_at hl 1 rfl) ?_
    refine lv_dup2_11 B.1.1 B.1.2.1 dX4_countNote_19 rfl rfl ?_
    obtain ⟨h10, v8, e9, hf⟩ := hy_ga_some hf
    refine hy_iald B w (cwq_27 G) h10 e9 dX4_countNote_20 ?_
    refine lv_iconst (v := 1) B.1.1 B.1.2.1 dX4_countNote_21 (by decide) ?_
    refine lv_iadd B.1.1 B.1.2.1 dX4_countNote_22 ?_
    obtain ⟨h13, σ11, e12, hf⟩ := hy_pa_some hf
    refine hy_iast B w (cwq_27 G) (cws_27 G) h13 e12 dX4_countNote_23 (fun H locs w => ?_)
    exact hret _ _ _ _ _ (Option.some.inj hf).symm w dX4_countNote_24
set_option maxHeartbeats 4000000 in
set_option maxRecDepth 100000 in
theorem mX4_countNote (l : Launch) (G : hy_G) (sz : Nat) (σ : hy_S) (x1 : Int32) (x2 : Int32) (o : hy_S × Int32) (hf : fX4_countNote σ x1 x2 = some o) : hy_Mv l yX4_countNote wsX4_countNote ({ frames := 0, cells := 0, slots := 0, locals := 0 }) cw G σ sz [.ref (G.2.2.2.1 7), .int x1, .int x2] o := by
  refine Met.ofW (cc := cX4_countNote) (maxL := 3) (ret := none) (by decide +kernel) rfl ?_
  intro p e s m args below meth c s₁ B hml hv
  obtain ⟨rfl, hsz, hP, hK, hD0, hN⟩ := hv
  have hx := B.exec
  have hb := B.bytes
  have hr := B.returns
  have hts := atoms_spec (ws := wsX4_countNote) B.pre
  have hown : s.vm.findClass RX4 = some m.cls := findClass_of_methodNamed B.named
  have hlocks := B.notSynchronized
  subst hsz
  have hD := hD0.self (sz := s.heap.size)
  have hA : ∀ q : Nat, s.heap.size ≤ q → va_A (cw G σ) s.heap.size q := fun q h => Or.inr h
  have hS : va_S (va_A (cw G σ) s.heap.size) s.heap s.heap [] := va_S.rf
  have hl := lv_entry ([.ref (G.2.2.2.1 7), .int x1, .int x2]) (n := 3) (Nat.le_of_ble_eq_true rfl)
  rw [lg_entry_eq]
  generalize (lg_sl ([.ref (G.2.2.2.1 7), .int x1, .int x2]) ++ List.replicate (3 - (lg_sl ([.ref (G.2.2.2.1 7), .int x1, .int x2])).length) Slot.unset).toArray = ls at hl ⊢
  have hl : lv_has ls 3 [(0, .ref (G.2.2.2.1 7)), (1, .int x1), (2, .int x2)] := hl
  refine bX4_countNote_0 (A := va_A (cw G σ) s.heap.size) hA ⟨⟨hx, hb, hml, hown, hts⟩, hK, hN⟩ ⟨Nat.le_of_ble_eq_true rfl, Nat.le_of_ble_eq_true rfl⟩ (o := o) (fun τ pc H locs ls ho w d => ?_) σ x1 x2 _ _ _ hf ⟨hP, hD, hS⟩ hl
  exact W.vret hx hb hr (fun t ht hW => ⟨⟨τ, rfl, by rw [ho], by have h9 := w.1; rw [← ht] at h9; exact h9⟩, w.2.2.F ht⟩) w.2.2.2.2 d
theorem in_X5_add_X5 : ∀ w ∈ u_ws RX5 TX5 5, w ∈ wsX5_add := fun _ h => xt1 (xr (h))
noncomputable def fX5_add (σ : hy_S) (x1 : Int32) (x2 : Int32) : Option (hy_S × Int32) := hy_pa σ 18 60 (σ.2 7) (σ.2 7) (fun σ1 => hy_pa σ1 19 60 (σ1.2 7) 1 (fun σ4 => hy_pa σ4 20 60 (σ4.2 7) x1 (fun σ7 => hy_pa σ7 21 60 (σ7.2 7) x2 (fun σ10 => hy_pf σ10 7 ((σ10.2 7) + 1) (fun σ13 => some (σ13, ((σ13.2 7) - 1)))))))
set_option maxHeartbeats 4000000 in
set_option maxRecDepth 100000 in
theorem bX5_add_0 (hA : ∀ q : Nat, s.heap.size ≤ q → A q) (B : hy_B RX5 cX5_add 3 wsX5_add G A p s m args c) (hR : 0 ≤ R.frames ∧ 0 ≤ R.locals) {o : hy_S × Int32}  (hret : ∀ (σ : hy_S) (v : Int32) (pc : Nat) (H : Heap) (locs : List Loc) (ls : Array Slot), o = (σ, v) → hy_w cw G A s σ H locs → decode cX5_add pc = .ok (.ireturn, 1) → W p l e R s m args below meth c H locs 0 0 Q (F0 m pc ls [.int v])) (σ : hy_S) (x1 : Int32) (x2 : Int32) (H : Heap) (locs : List Loc) (ls : Array Slot) (hf : fX5_add σ x1 x2 = some o) (w : hy_w cw G A s σ H locs) (hl : lv_has ls 3 [(0, .ref (G.2.2.2.1 8)), (1, .int x1), (2, .int x2)]) : W p l e R s m args below meth c H locs 0 0 Q (F0 m 0 ls []) := by
  unfold fX5_add at hf
  refine lv_aload_n B.1.1 B.1.2.1 dX5_add_0 rfl (lv_at hl 0 rfl) ?_
  refine hy_get (k := 0) (v := .ref (G.2.2.2.1 28)) B w (cwq_8 G) rfl in_X5_add_X5 (by decide) (by decide +kernel) rfl dX5_add_1 ?_
  refine lv_aload_n B.1.1 B.1.2.1 dX5_add_4 rfl (lv_at hl 0 rfl) ?_
  refine hy_get (k := 4) (v := .int (σ.2 7)) B w (cwq_8 G) rfl in_X5_add_X5 (by decide) (by decide +kernel) rfl dX5_add_5 ?_
  refine lv_aload_n B.1.1 B.1.2.1 dX5_add_8 rfl (lv_at hl 0 rfl) ?_
  refine hy_get (k := 4) (v := .int (σ.2 7)) B w (cwq_8 G) rfl in_X5_add_X5 (by decide) (by decide +kernel) rfl dX5_add_9 ?_
  obtain ⟨h3, σ1, e2, hf⟩ := hy_pa_some hf
  refine hy_iast B w (cwq_28 G) (cws_28 G) h3 e2 dX5_add_12 (fun H locs w => ?_)
  refine lv_aload_n B.1.1 B.1.2.1 dX5_add_13 rfl (lv_at hl 0 rfl) ?_
  refine hy_get (k := 1) (v := .ref (G.2.2.2.1 29)) B w (cwq_8 G) rfl in_X5_add_X5 (by decide) (by decide +kernel) rfl dX5_add_14 ?_
  refine lv_aload_n B.1.1 B.1.2.1 dX5_add_17 rfl (lv_at hl 0 rfl) ?_
  refine hy_get (k := 4) (v := .int (σ1.2 7)) B w (cwq_8 G) rfl in_X5_add_X5 (by decide) (by decide +kernel) rfl dX5_add_18 ?_
  refine lv_iconst (v := 1) B.1.1 B.1.2.1 dX5_add_21 (by decide) ?_
  obtain ⟨h6, σ4, e5, hf⟩ := hy_pa_some hf
  refine hy_iast B w (cwq_29 G) (cws_29 G) h6 e5 dX5_add_22 (fun H locs w => ?_)
  refine lv_aload_n B.1.1 B.1.2.1 dX5_add_23 rfl (lv_at hl 0 rfl) ?_
  refine hy_get (k := 2) (v := .ref (G.2.2.2.1 30)) B w (cwq_8 G) rfl in_X5_add_X5 (by decide) (by decide +kernel) rfl dX5_add_24 ?_
  refine lv_aload_n B.1.1 B.1.2.1 dX5_add_27 rfl (lv_at hl 0 rfl) ?_
  refine hy_get (k := 4) (v := .int (σ4.2 7)) B w (cwq_8 G) rfl in_X5_add_X5 (by decide) (by decide +kernel) rfl dX5_add_28 ?_
  refine lv_iload_n B.1.1 B.1.2.1 dX5_add_31 rfl (lv_at hl 1 rfl) ?_
  obtain ⟨h9, σ7, e8, hf⟩ := hy_pa_some hf
  refine hy_iast B w (cwq_30 G) (cws_30 G) h9 e8 dX5_add_32 (fun H locs w => ?_)
  refine lv_aload_n B.1.1 B.1.2.1 dX5_add_33 rfl (lv_at hl 0 rfl) ?_
  refine hy_get (k := 3) (v := .ref (G.2.2.2.1 31)) B w (cwq_8 G) rfl in_X5_add_X5 (by decide) (by decide +kernel) rfl dX5_add_34 ?_
  refine lv_aload_n B.1.1 B.1.2.1 dX5_add_37 rfl (lv_at hl 0 rfl) ?_
  refine hy_get (k := 4) (v := .int (σ7.2 7)) B w (cwq_8 G) rfl in_X5_add_X5 (by decide) (by decide +kernel) rfl dX5_add_38 ?_
  refine lv_iload_n B.1.1 B.1.2.1 dX5_add_41 rfl (lv_at hl 2 rfl) ?_
  obtain ⟨h12, σ10, e11, hf⟩ := hy_pa_some hf
  refine hy_iast B w (cwq_31 G) (cws_31 G) h12 e11 dX5_add_42 (fun H locs w => ?_)
  refine lv_aload_n B.1.1 B.1.2.1 dX5_add_43 rfl (lv_at hl 0 rfl) ?_
  refine lv_dup B.1.1 B.1.2.1 dX5_add_44 rfl ?_
  refine hy_get (k := 4) (v := .int (σ10.2 7)) B w (cwq_8 G) rfl in_X5_add_X5 (by decide) (by decide +kernel) rfl dX5_add_45 ?_
  refine lv_iconst (v := 1) B.1.1 B.1.2.1 dX5_add_48 (by decide) ?_
  refine lv_iadd B.1.1 B.1.2.1 dX5_add_49 ?_
  obtain ⟨σ13, e14, hf⟩ := hy_pf_some hf
  refine hy_put (k := 4) B w (cwq_8 G) rfl in_X5_add_X5 tyX5 tyX5_ok nmX5 (by decide) (by decide +kernel) rfl rfl (by show 4 < 5; decide) (cwp_7 G) e14 dX5_add_50 (fun H locs w => ?_)
  refine lv_aload_n B.1.1 B.1.2.1 dX5_add_53 rfl (lv_at hl 0 rfl) ?_
  refine hy_get (k := 4) (v := .int (σ13.2 7)) B w (cwq_8 G) rfl in_X5_add_X5 (by decide) (by decide +kernel) rfl dX5_add_54 ?_
  refine lv_iconst (v := 1) B.1.1 B.1.2.1 dX5_add_57 (by decide) ?_
  refine lv_isub B.1.1 B.1.2.1 dX5_add_58 ?_
  exact hret _ _ _ _ _ _ (Option.some.inj hf).symm w dX5_add_59
set_option maxHeartbeats 4000000 in
set_option maxRecDepth 100000 in
theorem mX5_add (l : Launch) (G : hy_G) (sz : Nat) (σ : hy_S) (x1 : Int32) (x2 : Int32) (o : hy_S × Int32) (hf : fX5_add σ x1 x2 = some o) : hy_M l yX5_add wsX5_add ({ frames := 0, cells := 0, slots := 0, locals := 0 }) cw G σ sz [.ref (G.2.2.2.1 8), .int x1, .int x2] o := by
  refine Met.ofW (cc := cX5_add) (maxL := 3) (ret := (some .int)) (by decide +kernel) rfl ?_
  intro p e s m args below meth c s₁ B hml hv
  obtain ⟨rfl, hsz, hP, hK, hD0, hN⟩ := hv
  have hx := B.exec
  have hb := B.bytes
  have hr := B.returns
  have hts := atoms_spec (ws := wsX5_add) B.pre
  have hown : s.vm.findClass RX5 = some m.cls := findClass_of_methodNamed B.named
  have hlocks := B.notSynchronized
  subst hsz
  have hD := hD0.self (sz := s.heap.size)
  have hA : ∀ q : Nat, s.heap.size ≤ q → va_A (cw G σ) s.heap.size q := fun q h => Or.inr h
  have hS : va_S (va_A (cw G σ) s.heap.size) s.heap s.heap [] := va_S.rf
  have hl := lv_entry ([.ref (G.2.2.2.1 8), .int x1, .int x2]) (n := 3) (Nat.le_of_ble_eq_true rfl)
  rw [lg_entry_eq]
  generalize (lg_sl ([.ref (G.2.2.2.1 8), .int x1, .int x2]) ++ List.replicate (3 - (lg_sl ([.ref (G.2.2.2.1 8), .int x1, .int x2])).length) Slot.unset).toArray = ls at hl ⊢
  have hl : lv_has ls 3 [(0, .ref (G.2.2.2.1 8)), (1, .int x1), (2, .int x2)] := hl
  refine bX5_add_0 (A := va_A (cw G σ) s.heap.size) hA ⟨⟨hx, hb, hml, hown, hts⟩, hK, hN⟩ ⟨Nat.le_of_ble_eq_true rfl, Nat.le_of_ble_eq_true rfl⟩ (o := o) (fun τ v pc H locs ls ho w d => ?_) σ x1 x2 _ _ _ hf ⟨hP, hD, hS⟩ hl
  exact W.iret hx hb hr (fun t ht hW => ⟨⟨v, τ, rfl, ⟨by rw [ho], by rw [ho]⟩, by have h9 := w.1; rw [← ht] at h9; exact h9⟩, w.2.2.F ht⟩) w.2.2.2.2 d
theorem in_X5_fit_X5 : ∀ w ∈ u_ws RX5 TX5 5, w ∈ wsX5_fit := fun _ h => xt1 (xr (h))
noncomputable def fX5_fit_40 (σ : hy_S) (s0 : Int32) (x1 : Int32) (x2 : Int32) : Option (hy_S × Int32) := hy_ga σ 20 60 x1 (fun v1 => hy_ga σ 20 60 x2 (fun v4 => (if v1 = v4 then (if s0 = 0 then some (σ, 0) else some (σ, 1)) else some (σ, 0))))
noncomputable def fX5_fit_35 (σ : hy_S) (x1 : Int32) (x2 : Int32) : Option (hy_S × Int32) := fX5_fit_40 σ 1 x1 x2
noncomputable def fX5_fit (σ : hy_S) (x1 : Int32) (x2 : Int32) : Option (hy_S × Int32) := hy_ga σ 21 60 x1 (fun v1 => (if v1 = (-1) then fX5_fit_35 σ x1 x2 else hy_ga σ 21 60 x2 (fun v5 => (if v5 = (-1) then fX5_fit_35 σ x1 x2 else hy_ga σ 21 60 x1 (fun v9 => hy_ga σ 21 60 x2 (fun v12 => (if v9 = v12 then fX5_fit_35 σ x1 x2 else fX5_fit_40 σ 0 x1 x2)))))))
set_option maxHeartbeats 4000000 in
set_option maxRecDepth 100000 in
theorem bX5_fit_40 (hA : ∀ q : Nat, s.heap.size ≤ q → A q) (B : hy_B RX5 cX5_fit 4 wsX5_fit G A p s m args c) (hR : 0 ≤ R.frames ∧ 0 ≤ R.locals) {o : hy_S × Int32}  (hret : ∀ (σ : hy_S) (v : Int32) (pc : Nat) (H : Heap) (locs : List Loc) (ls : Array Slot), o = (σ, v) → (v = 0 ∨ v = 1) → hy_w cw G A s σ H locs → decode cX5_fit pc = .ok (.ireturn, 1) → W p l e R s m args below meth c H locs 0 0 Q (F0 m pc ls [.int v])) (σ : hy_S) (s0 : Int32) (x1 : Int32) (x2 : Int32) (H : Heap) (locs : List Loc) (ls : Array Slot) (hf : fX5_fit_40 σ s0 x1 x2 = some o) (w : hy_w cw G A s σ H locs) (hl : lv_has ls 4 [(0, .ref (G.2.2.2.1 8)), (1, .int x1), (2, .int x2)]) : W p l e R s m args below meth c H locs 0 0 Q (F0 m 40 ls [.int s0]) := by
  unfold fX5_fit_40 at hf
  refine lv_istore_n (lv' := [(3, .int s0), (0, .ref (G.2.2.2.1 8)), (1, .int x1), (2, .int x2)]) B.1.1 B.1.2.1 dX5_fit_40 rfl hl (by decide) rfl (fun ls hl => ?_)
  refine lv_aload_n B.1.1 B.1.2.1 dX5_fit_41 rfl (lv_at hl 1 rfl) ?_
  refine hy_get (k := 2) (v := .ref (G.2.2.2.1 30)) B w (cwq_8 G) rfl in_X5_fit_X5 (by decide) (by decide +kernel) rfl dX5_fit_42 ?_
  refine lv_iload_n B.1.1 B.1.2.1 dX5_fit_45 rfl (lv_at hl 2 rfl) ?_
  obtain ⟨h3, v1, e2, hf⟩ := hy_ga_some hf
  refine hy_iald B w (cwq_30 G) h3 e2 dX5_fit_46 ?_
  refine lv_aload_n B.1.1 B.1.2.1 dX5_fit_47 rfl (lv_at hl 1 rfl) ?_
  refine hy_get (k := 2) (v := .ref (G.2.2.2.1 30)) B w (cwq_8 G) rfl in_X5_fit_X5 (by decide) (by decide +kernel) rfl dX5_fit_48 ?_
  refine lv_iload_n B.1.1 B.1.2.1 dX5_fit_51 rfl (lv_at hl 3 rfl) ?_
  obtain ⟨h6, v4, e5, hf⟩ := hy_ga_some hf
  refine hy_iald B w (cwq_30 G) h6 e5 dX5_fit_52 ?_
  refine lv_icmp_ne (tgt := 64) B.1.1 B.1.2.1 dX5_fit_53 (by decide) (fun c7 => ?_) (fun c7 => ?_)
  · rw [if_neg c7] at hf
    refine lv_iconst (v := 0) B.1.1 B.1.2.1 dX5_fit_64 (by decide) ?_
    exact hret _ _ _ _ _ _ (Option.some.inj hf).symm (Or.inl rfl) w dX5_fit_65
  · rw [if_pos c7] at hf
    refine lv_iload_n B.1.1 B.1.2.1 dX5_fit_56 rfl (lv_at hl 0 rfl) ?_
    refine lv_if_eq (tgt := 64) B.1.1 B.1.2.1 dX5_fit_57 (by decide) (fun c8 => ?_) (fun c8 => ?_)
    · rw [if_pos c8] at hf
      refine lv_iconst (v := 0) B.1.1 B.1.2.1 dX5_fit_64 (by decide) ?_
      exact hret _ _ _ _ _ _ (Option.some.inj hf).symm (Or.inl rfl) w dX5_fit_65
    · rw [if_neg c8] at hf
      refine lv_iconst (v := 1) B.1.1 B.1.2.1 dX5_fit_60 (by decide) ?_
      refine lv_goto (tgt := 65) B.1.1 B.1.2.1 dX5_fit_61 (by decide) ?_
      exact hret _ _ _ _ _ _ (Option.some.inj hf).symm (Or.inr rfl) w dX5_fit_65
set_option maxHeartbeats 4000000 in
set_option maxRecDepth 100000 in
theorem bX5_fit_35 (hA : ∀ q : Nat, s.heap.size ≤ q → A q) (B : hy_B RX5 cX5_fit 4 wsX5_fit G A p s m args c) (hR : 0 ≤ R.frames ∧ 0 ≤ R.locals) {o : hy_S × Int32}  (hret : ∀ (σ : hy_S) (v : Int32) (pc : Nat) (H : Heap) (locs : List Loc) (ls : Array Slot), o = (σ, v) → (v = 0 ∨ v = 1) → hy_w cw G A s σ H locs → decode cX5_fit pc = .ok (.ireturn, 1) → W p l e R s m args below meth c H locs 0 0 Q (F0 m pc ls [.int v])) (σ : hy_S) (x1 : Int32) (x2 : Int32) (H : Heap) (locs : List Loc) (ls : Array Slot) (hf : fX5_fit_35 σ x1 x2 = some o) (w : hy_w cw G A s σ H locs) (hl : lv_has ls 4 [(0, .ref (G.2.2.2.1 8)), (1, .int x1), (2, .int x2)]) : W p l e R s m args below meth c H locs 0 0 Q (F0 m 35 ls []) := by
  unfold fX5_fit_35 at hf
  refine lv_iconst (v := 1) B.1.1 B.1.2.1 dX5_fit_35 (by decide) ?_
  refine lv_goto (tgt := 40) B.1.1 B.1.2.1 dX5_fit_36 (by decide) ?_
  exact bX5_fit_40 hA B hR  hret _ _ _ _ _ _ _ hf w (lv_sub hl [0, 1, 2] rfl)
set_option maxHeartbeats 4000000 in
set_option maxRecDepth 100000 in
theorem bX5_fit_0 (hA : ∀ q : Nat, s.heap.size ≤ q → A q) (B : hy_B RX5 cX5_fit 4 wsX5_fit G A p s m args c) (hR : 0 ≤ R.frames ∧ 0 ≤ R.locals) {o : hy_S × Int32}  (hret : ∀ (σ : hy_S) (v : Int32) (pc : Nat) (H : Heap) (locs : List Loc) (ls : Array Slot), o = (σ, v) → (v = 0 ∨ v = 1) → hy_w cw G A s σ H locs → decode cX5_fit pc = .ok (.ireturn, 1) → W p l e R s m args below meth c H locs 0 0 Q (F0 m pc ls [.int v])) (σ : hy_S) (x1 : Int32) (x2 : Int32) (H : Heap) (locs : List Loc) (ls : Array Slot) (hf : fX5_fit σ x1 x2 = some o) (w : hy_w cw G A s σ H locs) (hl : lv_has ls 4 [(0, .ref (G.2.2.2.1 8)), (1, .int x1), (2, .int x2)]) : W p l e R s m args below meth c H locs 0 0 Q (F0 m 0 ls []) := by
  unfold fX5_fit at hf
  refine lv_aload_n B.1.1 B.1.2.1 dX5_fit_0 rfl (lv_at hl 0 rfl) ?_
  refine hy_get (k := 3) (v := .ref (G.2.2.2.1 31)) B w (cwq_8 G) rfl in_X5_fit_X5 (by decide) (by decide +kernel) rfl dX5_fit_1 ?_
  refine lv_iload_n B.1.1 B.1.2.1 dX5_fit_4 rfl (lv_at hl 1 rfl) ?_
  obtain ⟨h3, v1, e2, hf⟩ := hy_ga_some hf
  refine hy_iald B w (cwq_31 G) h3 e2 dX5_fit_5 ?_
  refine lv_iconst (v := (-1)) B.1.1 B.1.2.1 dX5_fit_6 (by decide) ?_
  refine lv_icmp_eq (tgt := 35) B.1.1 B.1.2.1 dX5_fit_7 (by decide) (fun c4 => ?_) (fun c4 => ?_)
  · rw [if_pos c4] at hf
    exact bX5_fit_35 hA B hR  hret _ _ _ _ _ _ hf w (lv_sub hl [0, 1, 2] rfl)
  · rw [if_neg c4] at hf
    refine lv_aload_n B.1.1 B.1.2.1 dX5_fit_10 rfl (lv_at hl 0 rfl) ?_
    refine hy_get (k := 3) (v := .ref (G.2.2.2.1 31)) B w (cwq_8 G) rfl in_X5_fit_X5 (by decide) (by decide +kernel) rfl dX5_fit_11 ?_
    refine lv_iload_n B.1.1 B.1.2.1 dX5_fit_14 rfl (lv_at hl 2 rfl) ?_
    obtain ⟨h7, v5, e6, hf⟩ := hy_ga_some hf
    refine hy_iald B w (cwq_31 G) h7 e6 dX5_fit_15 ?_
    refine lv_iconst (v := (-1)) B.1.1 B.1.2.1 dX5_fit_16 (by decide) ?_
    refine lv_icmp_eq (tgt := 35) B.1.1 B.1.2.1 dX5_fit_17 (by decide) (fun c8 => ?_) (fun c8 => ?_)
    · rw [if_pos c8] at hf
      exact bX5_fit_35 hA B hR  hret _ _ _ _ _ _ hf w (lv_sub hl [0, 1, 2] rfl)
    · rw [if_neg c8] at hf
      refine lv_aload_n B.1.1 B.1.2.1 dX5_fit_20 rfl (lv_at hl 0 rfl) ?_
      refine hy_get (k := 3) (v := .ref (G.2.2.2.1 31)) B w (cwq_8 G) rfl in_X5_fit_X5 (by decide) (by decide +kernel) rfl dX5_fit_21 ?_
      refine lv_iload_n B.1.1 B.1.2.1 dX5_fit_24 rfl (lv_at hl 1 rfl) ?_
      obtain ⟨h11, v9, e10, hf⟩ := hy_ga_some hf
      refine hy_iald B w (cwq_31 G) h11 e10 dX5_fit_25 ?_
      refine lv_aload_n B.1.1 B.1.2.1 dX5_fit_26 rfl (lv_at hl 0 rfl) ?_
      refine hy_get (k := 3) (v := .ref (G.2.2.2.1 31)) B w (cwq_8 G) rfl in_X5_fit_X5 (by decide) (by decide +kernel) rfl dX5_fit_27 ?_
      refine lv_iload_n B.1.1 B.1.2.1 dX5_fit_30 rfl (lv_at hl 2 rfl) ?_
      obtain ⟨h14, v12, e13, hf⟩ := hy_ga_some hf
      refine hy_iald B w (cwq_31 G) h14 e13 dX5_fit_31 ?_
      refine lv_icmp_ne (tgt := 39) B.1.1 B.1.2.1 dX5_fit_32 (by decide) (fun c15 => ?_) (fun c15 => ?_)
      · rw [if_neg c15] at hf
        refine lv_iconst (v := 0) B.1.1 B.1.2.1 dX5_fit_39 (by decide) ?_
        exact bX5_fit_40 hA B hR  hret _ _ _ _ _ _ _ hf w (lv_sub hl [0, 1, 2] rfl)
      · rw [if_pos c15] at hf
        exact bX5_fit_35 hA B hR  hret _ _ _ _ _ _ hf w (lv_sub hl [0, 1, 2] rfl)
set_option maxHeartbeats 4000000 in
set_option maxRecDepth 100000 in
theorem mX5_fit (l : Launch) (G : hy_G) (sz : Nat) (σ : hy_S) (x1 : Int32) (x2 : Int32) (o : hy_S × Int32) (hf : fX5_fit σ x1 x2 = some o) : hy_M l yX5_fit wsX5_fit ({ frames := 0, cells := 0, slots := 0, locals := 0 }) cw G σ sz [.ref (G.2.2.2.1 8), .int x1, .int x2] o := by
  refine Met.ofW (cc := cX5_fit) (maxL := 4) (ret := (some .boolean)) (by decide +kernel) rfl ?_
  intro p e s m args below meth c s₁ B hml hv
  obtain ⟨rfl, hsz, hP, hK, hD0, hN⟩ := hv
  have hx := B.exec
  have hb := B.bytes
  have hr := B.returns
  have hts := atoms_spec (ws := wsX5_fit) B.pre
  have hown : s.vm.findClass RX5 = some m.cls := findClass_of_methodNamed B.named
  have hlocks := B.notSynchronized
  subst hsz
  have hD := hD0.self (sz := s.heap.size)
  have hA : ∀ q : Nat, s.heap.size ≤ q → va_A (cw G σ) s.heap.size q := fun q h => Or.inr h
  have hS : va_S (va_A (cw G σ) s.heap.size) s.heap s.heap [] := va_S.rf
  have hl := lv_entry ([.ref (G.2.2.2.1 8), .int x1, .int x2]) (n := 4) (Nat.le_of_ble_eq_true rfl)
  rw [lg_entry_eq]
  generalize (lg_sl ([.ref (G.2.2.2.1 8), .int x1, .int x2]) ++ List.replicate (4 - (lg_sl ([.ref (G.2.2.2.1 8), .int x1, .int x2])).length) Slot.unset).toArray = ls at hl ⊢
  have hl : lv_has ls 4 [(0, .ref (G.2.2.2.1 8)), (1, .int x1), (2, .int x2)] := hl
  refine bX5_fit_0 (A := va_A (cw G σ) s.heap.size) hA ⟨⟨hx, hb, hml, hown, hts⟩, hK, hN⟩ ⟨Nat.le_of_ble_eq_true rfl, Nat.le_of_ble_eq_true rfl⟩ (o := o) (fun τ v pc H locs ls ho hz w d => ?_) σ x1 x2 _ _ _ hf ⟨hP, hD, hS⟩ hl
  exact W.zret hx hb hr (hy_bool hz) (fun t ht hW => ⟨⟨v, τ, rfl, ⟨by rw [ho], by rw [ho]⟩, by have h9 := w.1; rw [← ht] at h9; exact h9⟩, w.2.2.F ht⟩) w.2.2.2.2 d
theorem in_X5_unite_X5 : ∀ w ∈ u_ws RX5 TX5 5, w ∈ wsX5_unite := fun _ h => xt1 (xr (h))
noncomputable def fX5_unite_84 (k55 : hy_S → Int32 → Int32 → Int32 → Option (hy_S × Int32)) (σ : hy_S) (x3 : Int32) (x4 : Int32) (x5 : Int32) : Option (hy_S × Int32) := k55 σ x3 x4 (x5 + 1)
noncomputable def fX5_unite_55 : Nat → hy_S → Int32 → Int32 → Int32 → Option (hy_S × Int32)
  | 0, _, _, _, _ => none
  | n + 1, σ, x3, x4, x5 => (if (σ.2 7) ≤ x5 then hy_ga σ 19 60 x3 (fun v2 => hy_ga σ 19 60 x4 (fun v5 => hy_pa σ 19 60 x3 (v2 + v5) (fun σ8 => hy_ga σ8 21 60 x3 (fun v11 => (if v11 = (-1) then hy_ga σ8 21 60 x4 (fun v15 => hy_pa σ8 21 60 x3 v15 (fun σ18 => some (σ18, 1))) else some (σ8, 1)))))) else hy_ga σ 18 60 x5 (fun v21 => (if v21 = x4 then hy_pa σ 18 60 x5 x3 (fun σ25 => fX5_unite_84 (fX5_unite_55 n) σ25 x3 x4 x5) else fX5_unite_84 (fX5_unite_55 n) σ x3 x4 x5)))
noncomputable def fX5_unite (σ : hy_S) (x1 : Int32) (x2 : Int32) : Option (hy_S × Int32) := hy_ga σ 18 60 x1 (fun v1 => hy_ga σ 18 60 x2 (fun v4 => hy_ga σ 18 60 x1 (fun v9 => hy_ga σ 18 60 x2 (fun v12 => (if (if v4 < v1 then v4 else v1) = (if v9 < v12 then v12 else v9) then some (σ, 0) else hy_bd (fX5_fit σ (if v4 < v1 then v4 else v1) (if v9 < v12 then v12 else v9)) (fun σ18 v19 => (if v19 = 0 then some (σ18, 0) else fX5_unite_55 hy_fu σ18 (if v4 < v1 then v4 else v1) (if v9 < v12 then v12 else v9) (if v9 < v12 then v12 else v9))))))))
set_option maxHeartbeats 4000000 in
set_option maxRecDepth 100000 in
theorem bX5_unite_84 (hA : ∀ q : Nat, s.heap.size ≤ q → A q) (B : hy_B RX5 cX5_unite 6 wsX5_unite G A p s m args c) (hR : 1 ≤ R.frames ∧ 30 ≤ R.locals) {o : hy_S × Int32}  {k55 : hy_S → Int32 → Int32 → Int32 → Option (hy_S × Int32)} (hk55 : ∀ (σ : hy_S) (x3 : Int32) (x4 : Int32) (x5 : Int32) (H : Heap) (locs : List Loc) (ls : Array Slot), k55 σ x3 x4 x5 = some o → hy_w cw G A s σ H locs → lv_has ls 6 [(0, .ref (G.2.2.2.1 8)), (3, .int x3), (4, .int x4), (5, .int x5)] → W p l e R s m args below meth c H locs 0 0 Q (F0 m 55 ls [])) (hret : ∀ (σ : hy_S) (v : Int32) (pc : Nat) (H : Heap) (locs : List Loc) (ls : Array Slot), o = (σ, v) → (v = 0 ∨ v = 1) → hy_w cw G A s σ H locs → decode cX5_unite pc = .ok (.ireturn, 1) → W p l e R s m args below meth c H locs 0 0 Q (F0 m pc ls [.int v])) (σ : hy_S) (x3 : Int32) (x4 : Int32) (x5 : Int32) (H : Heap) (locs : List Loc) (ls : Array Slot) (hf : fX5_unite_84 k55 σ x3 x4 x5 = some o) (w : hy_w cw G A s σ H locs) (hl : lv_has ls 6 [(0, .ref (G.2.2.2.1 8)), (3, .int x3), (4, .int x4), (5, .int x5)]) : W p l e R s m args below meth c H locs 0 0 Q (F0 m 84 ls []) := by
  unfold fX5_unite_84 at hf
  refine lv_iinc (v := (x5 + 1)) (lv' := [(5, .int (x5 + 1)), (0, .ref (G.2.2.2.1 8)), (3, .int x3), (4, .int x4)]) B.1.1 B.1.2.1 dX5_unite_84 hl (k := 3) rfl rfl (by decide) rfl (fun ls hl => ?_)
  refine lv_goto (tgt := 55) B.1.1 B.1.2.1 dX5_unite_87 (by decide) ?_
  exact hk55 _ _ _ _ _ _ _ hf w (lv_sub hl [1, 2, 3, 0] rfl)
set_option maxHeartbeats 4000000 in
set_option maxRecDepth 100000 in
theorem bX5_unite_55 (hA : ∀ q : Nat, s.heap.size ≤ q → A q) (B : hy_B RX5 cX5_unite 6 wsX5_unite G A p s m args c) (hR : 1 ≤ R.frames ∧ 30 ≤ R.locals) {o : hy_S × Int32}  (hret : ∀ (σ : hy_S) (v : Int32) (pc : Nat) (H : Heap) (locs : List Loc) (ls : Array Slot), o = (σ, v) → (v = 0 ∨ v = 1) → hy_w cw G A s σ H locs → decode cX5_unite pc = .ok (.ireturn, 1) → W p l e R s m args below meth c H locs 0 0 Q (F0 m pc ls [.int v])) : ∀ (n : Nat) (σ : hy_S) (x3 : Int32) (x4 : Int32) (x5 : Int32) (H : Heap) (locs : List Loc) (ls : Array Slot), fX5_unite_55 n σ x3 x4 x5 = some o → hy_w cw G A s σ H locs → lv_has ls 6 [(0, .ref (G.2.2.2.1 8)), (3, .int x3), (4, .int x4), (5, .int x5)] → W p l e R s m args below meth c H locs 0 0 Q (F0 m 55 ls []) := by
  intro n
  induction n with
  | zero => intro σ x3 x4 x5 H locs ls hf; cases hf
  | succ n hk55 =>
    intro σ x3 x4 x5 H locs ls hf w hl
    unfold fX5_unite_55 at hf
    refine lv_iload B.1.1 B.1.2.1 dX5_unite_55 (lv_at hl 3 rfl) ?_
    refine lv_aload_n B.1.1 B.1.2.1 dX5_unite_57 rfl (lv_at hl 0 rfl) ?_
    refine hy_get (k := 4) (v := .int (σ.2 7)) B w (cwq_8 G) rfl in_X5_unite_X5 (by decide) (by decide +kernel) rfl dX5_unite_58 ?_
    refine lv_icmp_ge (tgt := 90) B.1.1 B.1.2.1 dX5_unite_61 (by decide) (fun c1 => ?_) (fun c1 => ?_)
    · rw [if_pos c1] at hf
      refine lv_aload_n B.1.1 B.1.2.1 dX5_unite_90 rfl (lv_at hl 0 rfl) ?_
      refine hy_get (k := 1) (v := .ref (G.2.2.2.1 29)) B w (cwq_8 G) rfl in_X5_unite_X5 (by decide) (by decide +kernel) rfl dX5_unite_91 ?_
      refine lv_iload_n B.1.1 B.1.2.1 dX5_unite_94 rfl (lv_at hl 1 rfl) ?_
      refine lv_dup2_11 B.1.1 B.1.2.1 dX5_unite_95 rfl rfl ?_
      obtain ⟨h4, v2, e3, hf⟩ := hy_ga_some hf
      refine hy_iald B w (cwq_29 G) h4 e3 dX5_unite_96 ?_
      refine lv_aload_n B.1.1 B.1.2.1 dX5_unite_97 rfl (lv_at hl 0 rfl) ?_
      refine hy_get (k := 1) (v := .ref (G.2.2.2.1 29)) B w (cwq_8 G) rfl in_X5_unite_X5 (by decide) (by decide +kernel) rfl dX5_unite_98 ?_
      refine lv_iload B.1.1 B.1.2.1 dX5_unite_101 (lv_at hl 2 rfl) ?_
      obtain ⟨h7, v5, e6, hf⟩ := hy_ga_some hf
      refine hy_iald B w (cwq_29 G) h7 e6 dX5_unite_103 ?_
      refine lv_iadd B.1.1 B.1.2.1 dX5_unite_104 ?_
      obtain ⟨h10, σ8, e9, hf⟩ := hy_pa_some hf
      refine hy_iast B w (cwq_29 G) (cws_29 G) h10 e9 dX5_unite_105 (fun H locs w => ?_)
      refine lv_aload_n B.1.1 B.1.2.1 dX5_unite_106 rfl (lv_at hl 0 rfl) ?_
      refine hy_get (k := 3) (v := .ref (G.2.2.2.1 31)) B w (cwq_8 G) rfl in_X5_unite_X5 (by decide) (by decide +kernel) rfl dX5_unite_107 ?_
      refine lv_iload_n B.1.1 B.1.2.1 dX5_unite_110 rfl (lv_at hl 1 rfl) ?_
      obtain ⟨h13, v11, e12, hf⟩ := hy_ga_some hf
      refine hy_iald B w (cwq_31 G) h13 e12 dX5_unite_111 ?_
      refine lv_iconst (v := (-1)) B.1.1 B.1.2.1 dX5_unite_112 (by decide) ?_
      refine lv_icmp_ne (tgt := 129) B.1.1 B.1.2.1 dX5_unite_113 (by decide) (fun c14 => ?_) (fun c14 => ?_)
      · rw [if_neg c14] at hf
        refine lv_iconst (v := 1) B.1.1 B.1.2.1 dX5_unite_129 (by decide) ?_
        exact hret _ _ _ _ _ _ (Option.some.inj hf).symm (Or.inr rfl) w dX5_unite_130
      · rw [if_pos c14] at hf
        refine lv_aload_n B.1.1 B.1.2.1 dX5_unite_116 rfl (lv_at hl 0 rfl) ?_
        refine hy_get (k := 3) (v := .ref (G.2.2.2.1 31)) B w (cwq_8 G) rfl in_X5_unite_X5 (by decide) (by decide +kernel) rfl dX5_unite_117 ?_
        refine lv_iload_n B.1.1 B.1.2.1 dX5_unite_120 rfl (lv_at hl 1 rfl) ?_
        refine lv_aload_n B.1.1 B.1.2.1 dX5_unite_121 rfl (lv_at hl 0 rfl) ?_
        refine hy_get (k := 3) (v := .ref (G.2.2.2.1 31)) B w (cwq_8 G) rfl in_X5_unite_X5 (by decide) (by decide +kernel) rfl dX5_unite_122 ?_
        refine lv_iload B.1.1 B.1.2.1 dX5_unite_125 (lv_at hl 2 rfl) ?_
        obtain ⟨h17, v15, e16, hf⟩ := hy_ga_some hf
        refine hy_iald B w (cwq_31 G) h17 e16 dX5_unite_127 ?_
        obtain ⟨h20, σ18, e19, hf⟩ := hy_pa_some hf
        refine hy_iast B w (cwq_31 G) (cws_31 G) h20 e19 dX5_unite_128 (fun H locs w => ?_)
        refine lv_iconst (v := 1) B.1.1 B.1.2.1 dX5_unite_129 (by decide) ?_
        exact hret _ _ _ _ _ _ (Option.some.inj hf).symm (Or.inr rfl) w dX5_unite_130
    · rw [if_neg c1] at hf
      refine lv_aload_n B.1.1 B.1.2.1 dX5_unite_64 rfl (lv_at hl 0 rfl) ?_
      refine hy_get (k := 0) (v := .ref (G.2.2.2.1 28)) B w (cwq_8 G) rfl in_X5_unite_X5 (by decide) (by decide +kernel) rfl dX5_unite_65 ?_
      refine lv_iload B.1.1 B.1.2.1 dX5_unite_68 (lv_at hl 3 rfl) ?_
      obtain ⟨h23, v21, e22, hf⟩ := hy_ga_some hf
      refine hy_iald B w (cwq_28 G) h23 e22 dX5_unite_70 ?_
      refine lv_iload B.1.1 B.1.2.1 dX5_unite_71 (lv_at hl 2 rfl) ?_
      refine lv_icmp_ne (tgt := 84) B.1.1 B.1.2.1 dX5_unite_73 (by decide) (fun c24 => ?_) (fun c24 => ?_)
      · rw [if_neg c24] at hf
        exact bX5_unite_84 hA B hR hk55 hret _ _ _ _ _ _ _ hf w (lv_sub hl [0, 1, 2, 3] rfl)
      · rw [if_pos c24] at hf
        refine lv_aload_n B.1.1 B.1.2.1 dX5_unite_76 rfl (lv_at hl 0 rfl) ?_
        refine hy_get (k := 0) (v := .ref (G.2.2.2.1 28)) B w (cwq_8 G) rfl in_X5_unite_X5 (by decide) (by decide +kernel) rfl dX5_unite_77 ?_
        refine lv_iload B.1.1 B.1.2.1 dX5_unite_80 (lv_at hl 3 rfl) ?_
        refine lv_iload_n B.1.1 B.1.2.1 dX5_unite_82 rfl (lv_at hl 1 rfl) ?_
        obtain ⟨h27, σ25, e26, hf⟩ := hy_pa_some hf
        refine hy_iast B w (cwq_28 G) (cws_28 G) h27 e26 dX5_unite_83 (fun H locs w => ?_)
        exact bX5_unite_84 hA B hR hk55 hret _ _ _ _ _ _ _ hf w (lv_sub hl [0, 1, 2, 3] rfl)
set_option maxHeartbeats 4000000 in
set_option maxRecDepth 100000 in
theorem bX5_unite_0 (hA : ∀ q : Nat, s.heap.size ≤ q → A q) (B : hy_B RX5 cX5_unite 6 wsX5_unite G A p s m args c) (hR : 1 ≤ R.frames ∧ 30 ≤ R.locals) {o : hy_S × Int32}  (hret : ∀ (σ : hy_S) (v : Int32) (pc : Nat) (H : Heap) (locs : List Loc) (ls : Array Slot), o = (σ, v) → (v = 0 ∨ v = 1) → hy_w cw G A s σ H locs → decode cX5_unite pc = .ok (.ireturn, 1) → W p l e R s m args below meth c H locs 0 0 Q (F0 m pc ls [.int v])) (σ : hy_S) (x1 : Int32) (x2 : Int32) (H : Heap) (locs : List Loc) (ls : Array Slot) (hf : fX5_unite σ x1 x2 = some o) (w : hy_w cw G A s σ H locs) (hl : lv_has ls 6 [(0, .ref (G.2.2.2.1 8)), (1, .int x1), (2, .int x2)]) : W p l e R s m args below meth c H locs 0 0 Q (F0 m 0 ls []) := by
  unfold fX5_unite at hf
  refine lv_aload_n B.1.1 B.1.2.1 dX5_unite_0 rfl (lv_at hl 0 rfl) ?_
  refine hy_get (k := 0) (v := .ref (G.2.2.2.1 28)) B w (cwq_8 G) rfl in_X5_unite_X5 (by decide) (by decide +kernel) rfl dX5_unite_1 ?_
  refine lv_iload_n B.1.1 B.1.2.1 dX5_unite_4 rfl (lv_at hl 1 rfl) ?_
  obtain ⟨h3, v1, e2, hf⟩ := hy_ga_some hf
  refine hy_iald B w (cwq_28 G) h3 e2 dX5_unite_5 ?_
  refine lv_aload_n B.1.1 B.1.2.1 dX5_unite_6 rfl (lv_at hl 0 rfl) ?_
  refine hy_get (k := 0) (v := .ref (G.2.2.2.1 28)) B w (cwq_8 G) rfl in_X5_unite_X5 (by decide) (by decide +kernel) rfl dX5_unite_7 ?_
  refine lv_iload_n B.1.1 B.1.2.1 dX5_unite_10 rfl (lv_at hl 2 rfl) ?_
  obtain ⟨h6, v4, e5, hf⟩ := hy_ga_some hf
  refine hy_iald B w (cwq_28 G) h6 e5 dX5_unite_11 ?_
  refine va_mmin B.1.1 B.1.2.1 (B.1.2.2.1.trans hl.1.symm) B.1.2.2.2.1 (B.1.2.2.2.2 (.methodLink RX5 28 Lib.Math.min.name) (by decide +kernel)) (B.1.2.2.2.2 (.static Lib.Math.min.name) (by decide +kernel)) (B.1.2.2.2.2 (.initialized "java/lang/Math") (by decide +kernel)) (B.1.2.2.2.2 (.code Lib.Math.min.name Lib.Math.min.code 2 (some .int)) (by decide +kernel)) (by have := hR; omega) (by have := hR; show _ ≤ _; simp [Value.category]; omega) (Nat.zero_le _) (Nat.zero_le _) dX5_unite_12 ?_
  refine lv_istore_n (lv' := [(3, .int (if v4 < v1 then v4 else v1)), (0, .ref (G.2.2.2.1 8)), (1, .int x1), (2, .int x2)]) B.1.1 B.1.2.1 dX5_unite_15 rfl hl (by decide) rfl (fun ls hl => ?_)
  refine lv_aload_n B.1.1 B.1.2.1 dX5_unite_16 rfl (lv_at hl 1 rfl) ?_
  refine hy_get (k := 0) (v := .ref (G.2.2.2.1 28)) B w (cwq_8 G) rfl in_X5_unite_X5 (by decide) (by decide +kernel) rfl dX5_unite_17 ?_
  refine lv_iload_n B.1.1 B.1.2.1 dX5_unite_20 rfl (lv_at hl 2 rfl) ?_
  obtain ⟨h11, v9, e10, hf⟩ := hy_ga_some hf
  refine hy_iald B w (cwq_28 G) h11 e10 dX5_unite_21 ?_
  refine lv_aload_n B.1.1 B.1.2.1 dX5_unite_22 rfl (lv_at hl 1 rfl) ?_
  refine hy_get (k := 0) (v := .ref (G.2.2.2.1 28)) B w (cwq_8 G) rfl in_X5_unite_X5 (by decide) (by decide +kernel) rfl dX5_unite_23 ?_
  refine lv_iload_n B.1.1 B.1.2.1 dX5_unite_26 rfl (lv_at hl 3 rfl) ?_
  obtain ⟨h14, v12, e13, hf⟩ := hy_ga_some hf
  refine hy_iald B w (cwq_28 G) h14 e13 dX5_unite_27 ?_
  refine va_mmax B.1.1 B.1.2.1 (B.1.2.2.1.trans hl.1.symm) B.1.2.2.2.1 (B.1.2.2.2.2 (.methodLink RX5 34 Lib.Math.max.name) (by decide +kernel)) (B.1.2.2.2.2 (.static Lib.Math.max.name) (by decide +kernel)) (B.1.2.2.2.2 (.initialized "java/lang/Math") (by decide +kernel)) (B.1.2.2.2.2 (.code Lib.Math.max.name Lib.Math.max.code 2 (some .int)) (by decide +kernel)) (by have := hR; omega) (by have := hR; show _ ≤ _; simp [Value.category]; omega) (Nat.zero_le _) (Nat.zero_le _) dX5_unite_28 ?_
  refine lv_istore (lv' := [(4, .int (if v9 < v12 then v12 else v9)), (3, .int (if v4 < v1 then v4 else v1)), (0, .ref (G.2.2.2.1 8)), (1, .int x1), (2, .int x2)]) B.1.1 B.1.2.1 dX5_unite_31 hl (by decide) rfl (fun ls hl => ?_)
  refine lv_iload_n B.1.1 B.1.2.1 dX5_unite_33 rfl (lv_at hl 1 rfl) ?_
  refine lv_iload B.1.1 B.1.2.1 dX5_unite_34 (lv_at hl 0 rfl) ?_
  refine lv_icmp_eq (tgt := 49) B.1.1 B.1.2.1 dX5_unite_36 (by decide) (fun c17 => ?_) (fun c17 => ?_)
  · rw [if_pos c17] at hf
    refine lv_iconst (v := 0) B.1.1 B.1.2.1 dX5_unite_49 (by decide) ?_
    exact hret _ _ _ _ _ _ (Option.some.inj hf).symm (Or.inl rfl) w dX5_unite_50
  · rw [if_neg c17] at hf
    refine lv_aload_n B.1.1 B.1.2.1 dX5_unite_39 rfl (lv_at hl 2 rfl) ?_
    refine lv_iload_n B.1.1 B.1.2.1 dX5_unite_40 rfl (lv_at hl 1 rfl) ?_
    refine lv_iload B.1.1 B.1.2.1 dX5_unite_41 (lv_at hl 0 rfl) ?_
    obtain ⟨σ18, v19, h20, hf⟩ := hy_bd_some hf
    refine hy_cv (As := [.int (if v4 < v1 then v4 else v1), .int (if v9 < v12 then v12 else v9)]) (rest := []) (o := (σ18, v19)) cw_fix hA B w (fun sz => mX5_fit l G sz σ (if v4 < v1 then v4 else v1) (if v9 < v12 then v12 else v9) _ h20) (cwV 2 B.1.2.2.2.2 gX5_unite_X5_fit rfl rfl rfl (by decide +kernel) ⟨by have := hR.1; show 0 + 1 ≤ _; omega, by have := hR.2; show 8 + (4 + 11) + 0 ≤ _; omega⟩) rfl (cwq_8 G σ) rfl hl.1 rfl (Nat.le_of_ble_eq_true rfl) dX5_unite_43 ⟨Nat.zero_le _, Nat.zero_le _⟩ (fun H locs w => ?_)
    refine lv_if_ne (tgt := 51) B.1.1 B.1.2.1 dX5_unite_46 (by decide) (fun c21 => ?_) (fun c21 => ?_)
    · rw [if_neg c21] at hf
      refine lv_iload B.1.1 B.1.2.1 dX5_unite_51 (lv_at hl 0 rfl) ?_
      refine lv_istore (lv' := [(5, .int (if v9 < v12 then v12 else v9)), (4, .int (if v9 < v12 then v12 else v9)), (3, .int (if v4 < v1 then v4 else v1)), (0, .ref (G.2.2.2.1 8)), (1, .int x1), (2, .int x2)]) B.1.1 B.1.2.1 dX5_unite_53 hl (by decide) rfl (fun ls hl => ?_)
      exact bX5_unite_55 hA B hR  hret _ _ _ _ _ _ _ _ hf w (lv_sub hl [3, 2, 1, 0] rfl)
    · rw [if_pos c21] at hf
      refine lv_iconst (v := 0) B.1.1 B.1.2.1 dX5_unite_49 (by decide) ?_
      exact hret _ _ _ _ _ _ (Option.some.inj hf).symm (Or.inl rfl) w dX5_unite_50
set_option maxHeartbeats 4000000 in
set_option maxRecDepth 100000 in
theorem mX5_unite (l : Launch) (G : hy_G) (sz : Nat) (σ : hy_S) (x1 : Int32) (x2 : Int32) (o : hy_S × Int32) (hf : fX5_unite σ x1 x2 = some o) : hy_M l yX5_unite wsX5_unite ({ frames := 1, cells := 0, slots := 0, locals := 30 }) cw G σ sz [.ref (G.2.2.2.1 8), .int x1, .int x2] o := by
  refine Met.ofW (cc := cX5_unite) (maxL := 6) (ret := (some .boolean)) (by decide +kernel) rfl ?_
  intro p e s m args below meth c s₁ B hml hv
  obtain ⟨rfl, hsz, hP, hK, hD0, hN⟩ := hv
  have hx := B.exec
  have hb := B.bytes
  have hr := B.returns
  have hts := atoms_spec (ws := wsX5_unite) B.pre
  have hown : s.vm.findClass RX5 = some m.cls := findClass_of_methodNamed B.named
  have hlocks := B.notSynchronized
  subst hsz
  have hD := hD0.self (sz := s.heap.size)
  have hA : ∀ q : Nat, s.heap.size ≤ q → va_A (cw G σ) s.heap.size q := fun q h => Or.inr h
  have hS : va_S (va_A (cw G σ) s.heap.size) s.heap s.heap [] := va_S.rf
  have hl := lv_entry ([.ref (G.2.2.2.1 8), .int x1, .int x2]) (n := 6) (Nat.le_of_ble_eq_true rfl)
  rw [lg_entry_eq]
  generalize (lg_sl ([.ref (G.2.2.2.1 8), .int x1, .int x2]) ++ List.replicate (6 - (lg_sl ([.ref (G.2.2.2.1 8), .int x1, .int x2])).length) Slot.unset).toArray = ls at hl ⊢
  have hl : lv_has ls 6 [(0, .ref (G.2.2.2.1 8)), (1, .int x1), (2, .int x2)] := hl
  refine bX5_unite_0 (A := va_A (cw G σ) s.heap.size) hA ⟨⟨hx, hb, hml, hown, hts⟩, hK, hN⟩ ⟨Nat.le_of_ble_eq_true rfl, Nat.le_of_ble_eq_true rfl⟩ (o := o) (fun τ v pc H locs ls ho hz w d => ?_) σ x1 x2 _ _ _ hf ⟨hP, hD, hS⟩ hl
  exact W.zret hx hb hr (hy_bool hz) (fun t ht hW => ⟨⟨v, τ, rfl, ⟨by rw [ho], by rw [ho]⟩, by have h9 := w.1; rw [← ht] at h9; exact h9⟩, w.2.2.F ht⟩) w.2.2.2.2 d
theorem in_X5_allVessels_X5 : ∀ w ∈ u_ws RX5 TX5 5, w ∈ wsX5_allVessels := fun _ h => xt1 (xr (h))
noncomputable def fX5_allVessels_25 (k4 : hy_S → Int32 → Int32 → Option (hy_S × Int32)) (σ : hy_S) (x1 : Int32) (x2 : Int32) : Option (hy_S × Int32) := k4 σ x1 (x2 + 1)
noncomputable def fX5_allVessels_4 : Nat → hy_S → Int32 → Int32 → Option (hy_S × Int32)
  | 0, _, _, _ => none
  | n + 1, σ, x1, x2 => (if (σ.2 7) ≤ x2 then some (σ, x1) else hy_ga σ 18 60 x2 (fun v2 => (if v2 = x2 then fX5_allVessels_25 (fX5_allVessels_4 n) σ (x1 + 1) x2 else fX5_allVessels_25 (fX5_allVessels_4 n) σ x1 x2)))
noncomputable def fX5_allVessels (σ : hy_S) : Option (hy_S × Int32) := fX5_allVessels_4 hy_fu σ 0 0
set_option maxHeartbeats 4000000 in
set_option maxRecDepth 100000 in
theorem bX5_allVessels_25 (hA : ∀ q : Nat, s.heap.size ≤ q → A q) (B : hy_B RX5 cX5_allVessels 3 wsX5_allVessels G A p s m args c) (hR : 0 ≤ R.frames ∧ 0 ≤ R.locals) {o : hy_S × Int32}  {k4 : hy_S → Int32 → Int32 → Option (hy_S × Int32)} (hk4 : ∀ (σ : hy_S) (x1 : Int32) (x2 : Int32) (H : Heap) (locs : List Loc) (ls : Array Slot), k4 σ x1 x2 = some o → hy_w cw G A s σ H locs → lv_has ls 3 [(0, .ref (G.2.2.2.1 8)), (1, .int x1), (2, .int x2)] → W p l e R s m args below meth c H locs 0 0 Q (F0 m 4 ls [])) (hret : ∀ (σ : hy_S) (v : Int32) (pc : Nat) (H : Heap) (locs : List Loc) (ls : Array Slot), o = (σ, v) → hy_w cw G A s σ H locs → decode cX5_allVessels pc = .ok (.ireturn, 1) → W p l e R s m args below meth c H locs 0 0 Q (F0 m pc ls [.int v])) (σ : hy_S) (x1 : Int32) (x2 : Int32) (H : Heap) (locs : List Loc) (ls : Array Slot) (hf : fX5_allVessels_25 k4 σ x1 x2 = some o) (w : hy_w cw G A s σ H locs) (hl : lv_has ls 3 [(0, .ref (G.2.2.2.1 8)), (1, .int x1), (2, .int x2)]) : W p l e R s m args below meth c H locs 0 0 Q (F0 m 25 ls []) := by
  unfold fX5_allVessels_25 at hf
  refine lv_iinc (v := (x2 + 1)) (lv' := [(2, .int (x2 + 1)), (0, .ref (G.2.2.2.1 8)), (1, .int x1)]) B.1.1 B.1.2.1 dX5_allVessels_25 hl (k := 2) rfl rfl (by decide) rfl (fun ls hl => ?_)
  refine lv_goto (tgt := 4) B.1.1 B.1.2.1 dX5_allVessels_28 (by decide) ?_
  exact hk4 _ _ _ _ _ _ hf w (lv_sub hl [1, 2, 0] rfl)
set_option maxHeartbeats 4000000 in
set_option maxRecDepth 100000 in
theorem bX5_allVessels_4 (hA : ∀ q : Nat, s.heap.size ≤ q → A q) (B : hy_B RX5 cX5_allVessels 3 wsX5_allVessels G A p s m args c) (hR : 0 ≤ R.frames ∧ 0 ≤ R.locals) {o : hy_S × Int32}  (hret : ∀ (σ : hy_S) (v : Int32) (pc : Nat) (H : Heap) (locs : List Loc) (ls : Array Slot), o = (σ, v) → hy_w cw G A s σ H locs → decode cX5_allVessels pc = .ok (.ireturn, 1) → W p l e R s m args below meth c H locs 0 0 Q (F0 m pc ls [.int v])) : ∀ (n : Nat) (σ : hy_S) (x1 : Int32) (x2 : Int32) (H : Heap) (locs : List Loc) (ls : Array Slot), fX5_allVessels_4 n σ x1 x2 = some o → hy_w cw G A s σ H locs → lv_has ls 3 [(0, .ref (G.2.2.2.1 8)), (1, .int x1), (2, .int x2)] → W p l e R s m args below meth c H locs 0 0 Q (F0 m 4 ls []) := by
  intro n
  induction n with
  | zero => intro σ x1 x2 H locs ls hf; cases hf
  | succ n hk4 =>
    intro σ x1 x2 H locs ls hf w hl
    unfold fX5_allVessels_4 at hf
    refine lv_iload_n B.1.1 B.1.2.1 dX5_allVessels_4 rfl (lv_at hl 2 rfl) ?_
    refine lv_aload_n B.1.1 B.1.2.1 dX5_allVessels_5 rfl (lv_at hl 0 rfl) ?_
    refine hy_get (k := 4) (v := .int (σ.2 7)) B w (cwq_8 G) rfl in_X5_allVessels_X5 (by decide) (by decide +kernel) rfl dX5_allVessels_6 ?_
    refine lv_icmp_ge (tgt := 31) B.1.1 B.1.2.1 dX5_allVessels_9 (by decide) (fun c1 => ?_) (fun c1 => ?_)
    · rw [if_pos c1] at hf
      refine lv_iload_n B.1.1 B.1.2.1 dX5_allVessels_31 rfl (lv_at hl 1 rfl) ?_
      exact hret _ _ _ _ _ _ (Option.some.inj hf).symm w dX5_allVessels_32
    · rw [if_neg c1] at hf
      refine lv_aload_n B.1.1 B.1.2.1 dX5_allVessels_12 rfl (lv_at hl 0 rfl) ?_
      refine hy_get (k := 0) (v := .ref (G.2.2.2.1 28)) B w (cwq_8 G) rfl in_X5_allVessels_X5 (by decide) (by decide +kernel) rfl dX5_allVessels_13 ?_
      refine lv_iload_n B.1.1 B.1.2.1 dX5_allVessels_16 rfl (lv_at hl 2 rfl) ?_
      obtain ⟨h4, v2, e3, hf⟩ := hy_ga_some hf
      refine hy_iald B w (cwq_28 G) h4 e3 dX5_allVessels_17 ?_
      refine lv_iload_n B.1.1 B.1.2.1 dX5_allVessels_18 rfl (lv_at hl 2 rfl) ?_
      refine lv_icmp_ne (tgt := 25) B.1.1 B.1.2.1 dX5_allVessels_19 (by decide) (fun c5 => ?_) (fun c5 => ?_)
      · rw [if_neg c5] at hf
        exact bX5_allVessels_25 hA B hR hk4 hret _ _ _ _ _ _ hf w (lv_sub hl [0, 1, 2] rfl)
      · rw [if_pos c5] at hf
        refine lv_iinc (v := (x1 + 1)) (lv' := [(1, .int (x1 + 1)), (0, .ref (G.2.2.2.1 8)), (2, .int x2)]) B.1.1 B.1.2.1 dX5_allVessels_22 hl (k := 1) rfl rfl (by decide) rfl (fun ls hl => ?_)
        exact bX5_allVessels_25 hA B hR hk4 hret _ _ _ _ _ _ hf w (lv_sub hl [1, 0, 2] rfl)
set_option maxHeartbeats 4000000 in
set_option maxRecDepth 100000 in
theorem bX5_allVessels_0 (hA : ∀ q : Nat, s.heap.size ≤ q → A q) (B : hy_B RX5 cX5_allVessels 3 wsX5_allVessels G A p s m args c) (hR : 0 ≤ R.frames ∧ 0 ≤ R.locals) {o : hy_S × Int32}  (hret : ∀ (σ : hy_S) (v : Int32) (pc : Nat) (H : Heap) (locs : List Loc) (ls : Array Slot), o = (σ, v) → hy_w cw G A s σ H locs → decode cX5_allVessels pc = .ok (.ireturn, 1) → W p l e R s m args below meth c H locs 0 0 Q (F0 m pc ls [.int v])) (σ : hy_S) (H : Heap) (locs : List Loc) (ls : Array Slot) (hf : fX5_allVessels σ = some o) (w : hy_w cw G A s σ H locs) (hl : lv_has ls 3 [(0, .ref (G.2.2.2.1 8))]) : W p l e R s m args below meth c H locs 0 0 Q (F0 m 0 ls []) := by
  unfold fX5_allVessels at hf
  refine lv_iconst (v := 0) B.1.1 B.1.2.1 dX5_allVessels_0 (by decide) ?_
  refine lv_istore_n (lv' := [(1, .int 0), (0, .ref (G.2.2.2.1 8))]) B.1.1 B.1.2.1 dX5_allVessels_1 rfl hl (by decide) rfl (fun ls hl => ?_)
  refine lv_iconst (v := 0) B.1.1 B.1.2.1 dX5_allVessels_2 (by decide) ?_
  refine lv_istore_n (lv' := [(2, .int 0), (1, .int 0), (0, .ref (G.2.2.2.1 8))]) B.1.1 B.1.2.1 dX5_allVessels_3 rfl hl (by decide) rfl (fun ls hl => ?_)
  exact bX5_allVessels_4 hA B hR  hret _ _ _ _ _ _ _ hf w (lv_sub hl [2, 1, 0] rfl)
set_option maxHeartbeats 4000000 in
set_option maxRecDepth 100000 in
theorem mX5_allVessels (l : Launch) (G : hy_G) (sz : Nat) (σ : hy_S) (o : hy_S × Int32) (hf : fX5_allVessels σ = some o) : hy_M l yX5_allVessels wsX5_allVessels ({ frames := 0, cells := 0, slots := 0, locals := 0 }) cw G σ sz [.ref (G.2.2.2.1 8)] o := by
  refine Met.ofW (cc := cX5_allVessels) (maxL := 3) (ret := (some .int)) (by decide +kernel) rfl ?_
  intro p e s m args below meth c s₁ B hml hv
  obtain ⟨rfl, hsz, hP, hK, hD0, hN⟩ := hv
  have hx := B.exec
  have hb := B.bytes
  have hr := B.returns
  have hts := atoms_spec (ws := wsX5_allVessels) B.pre
  have hown : s.vm.findClass RX5 = some m.cls := findClass_of_methodNamed B.named
  have hlocks := B.notSynchronized
  subst hsz
  have hD := hD0.self (sz := s.heap.size)
  have hA : ∀ q : Nat, s.heap.size ≤ q → va_A (cw G σ) s.heap.size q := fun q h => Or.inr h
  have hS : va_S (va_A (cw G σ) s.heap.size) s.heap s.heap [] := va_S.rf
  have hl := lv_entry ([.ref (G.2.2.2.1 8)]) (n := 3) (Nat.le_of_ble_eq_true rfl)
  rw [lg_entry_eq]
  generalize (lg_sl ([.ref (G.2.2.2.1 8)]) ++ List.replicate (3 - (lg_sl ([.ref (G.2.2.2.1 8)])).length) Slot.unset).toArray = ls at hl ⊢
  have hl : lv_has ls 3 [(0, .ref (G.2.2.2.1 8))] := hl
  refine bX5_allVessels_0 (A := va_A (cw G σ) s.heap.size) hA ⟨⟨hx, hb, hml, hown, hts⟩, hK, hN⟩ ⟨Nat.le_of_ble_eq_true rfl, Nat.le_of_ble_eq_true rfl⟩ (o := o) (fun τ v pc H locs ls ho w d => ?_) σ _ _ _ hf ⟨hP, hD, hS⟩ hl
  exact W.iret hx hb hr (fun t ht hW => ⟨⟨v, τ, rfl, ⟨by rw [ho], by rw [ho]⟩, by have h9 := w.1; rw [← ht] at h9; exact h9⟩, w.2.2.F ht⟩) w.2.2.2.2 d
theorem in_X5_vesselsWith_X5 : ∀ w ∈ u_ws RX5 TX5 5, w ∈ wsX5_vesselsWith := fun _ h => xt1 (xr (h))
noncomputable def fX5_vesselsWith_35 (k4 : hy_S → Int32 → Int32 → Int32 → Option (hy_S × Int32)) (σ : hy_S) (x1 : Int32) (x2 : Int32) (x3 : Int32) : Option (hy_S × Int32) := k4 σ x1 x2 (x3 + 1)
noncomputable def fX5_vesselsWith_4 : Nat → hy_S → Int32 → Int32 → Int32 → Option (hy_S × Int32)
  | 0, _, _, _, _ => none
  | n + 1, σ, x1, x2, x3 => (if (σ.2 7) ≤ x3 then some (σ, x2) else hy_ga σ 18 60 x3 (fun v2 => (if v2 = x3 then hy_ga σ 21 60 x3 (fun v6 => (if v6 = x1 then fX5_vesselsWith_35 (fX5_vesselsWith_4 n) σ x1 (x2 + 1) x3 else fX5_vesselsWith_35 (fX5_vesselsWith_4 n) σ x1 x2 x3)) else fX5_vesselsWith_35 (fX5_vesselsWith_4 n) σ x1 x2 x3)))
noncomputable def fX5_vesselsWith (σ : hy_S) (x1 : Int32) : Option (hy_S × Int32) := fX5_vesselsWith_4 hy_fu σ x1 0 0
set_option maxHeartbeats 4000000 in
set_option maxRecDepth 100000 in
theorem bX5_vesselsWith_35 (hA : ∀ q : Nat, s.heap.size ≤ q → A q) (B : hy_B RX5 cX5_vesselsWith 4 wsX5_vesselsWith G A p s m args c) (hR : 0 ≤ R.frames ∧ 0 ≤ R.locals) {o : hy_S × Int32}  {k4 : hy_S → Int32 → Int32 → Int32 → Option (hy_S × Int32)} (hk4 : ∀ (σ : hy_S) (x1 : Int32) (x2 : Int32) (x3 : Int32) (H : Heap) (locs : List Loc) (ls : Array Slot), k4 σ x1 x2 x3 = some o → hy_w cw G A s σ H locs → lv_has ls 4 [(0, .ref (G.2.2.2.1 8)), (1, .int x1), (2, .int x2), (3, .int x3)] → W p l e R s m args below meth c H locs 0 0 Q (F0 m 4 ls [])) (hret : ∀ (σ : hy_S) (v : Int32) (pc : Nat) (H : Heap) (locs : List Loc) (ls : Array Slot), o = (σ, v) → hy_w cw G A s σ H locs → decode cX5_vesselsWith pc = .ok (.ireturn, 1) → W p l e R s m args below meth c H locs 0 0 Q (F0 m pc ls [.int v])) (σ : hy_S) (x1 : Int32) (x2 : Int32) (x3 : Int32) (H : Heap) (locs : List Loc) (ls : Array Slot) (hf : fX5_vesselsWith_35 k4 σ x1 x2 x3 = some o) (w : hy_w cw G A s σ H locs) (hl : lv_has ls 4 [(0, .ref (G.2.2.2.1 8)), (1, .int x1), (2, .int x2), (3, .int x3)]) : W p l e R s m args below meth c H locs 0 0 Q (F0 m 35 ls []) := by
  unfold fX5_vesselsWith_35 at hf
  refine lv_iinc (v := (x3 + 1)) (lv' := [(3, .int (x3 + 1)), (0, .ref (G.2.2.2.1 8)), (1, .int x1), (2, .int x2)]) B.1.1 B.1.2.1 dX5_vesselsWith_35 hl (k := 3) rfl rfl (by decide) rfl (fun ls hl => ?_)
  refine lv_goto (tgt := 4) B.1.1 B.1.2.1 dX5_vesselsWith_38 (by decide) ?_
  exact hk4 _ _ _ _ _ _ _ hf w (lv_sub hl [1, 2, 3, 0] rfl)
set_option maxHeartbeats 4000000 in
set_option maxRecDepth 100000 in
theorem bX5_vesselsWith_4 (hA : ∀ q : Nat, s.heap.size ≤ q → A q) (B : hy_B RX5 cX5_vesselsWith 4 wsX5_vesselsWith G A p s m args c) (hR : 0 ≤ R.frames ∧ 0 ≤ R.locals) {o : hy_S × Int32}  (hret : ∀ (σ : hy_S) (v : Int32) (pc : Nat) (H : Heap) (locs : List Loc) (ls : Array Slot), o = (σ, v) → hy_w cw G A s σ H locs → decode cX5_vesselsWith pc = .ok (.ireturn, 1) → W p l e R s m args below meth c H locs 0 0 Q (F0 m pc ls [.int v])) : ∀ (n : Nat) (σ : hy_S) (x1 : Int32) (x2 : Int32) (x3 : Int32) (H : Heap) (locs : List Loc) (ls : Array Slot), fX5_vesselsWith_4 n σ x1 x2 x3 = some o → hy_w cw G A s σ H locs → lv_has ls 4 [(0, .ref (G.2.2.2.1 8)), (1, .int x1), (2, .int x2), (3, .int x3)] → W p l e R s m args below meth c H locs 0 0 Q (F0 m 4 ls []) := by
  intro n
  induction n with
  | zero => intro σ x1 x2 x3 H locs ls hf; cases hf
  | succ n hk4 =>
    intro σ x1 x2 x3 H locs ls hf w hl
    unfold fX5_vesselsWith_4 at hf
    refine lv_iload_n B.1.1 B.1.2.1 dX5_vesselsWith_4 rfl (lv_at hl 3 rfl) ?_
    refine lv_aload_n B.1.1 B.1.2.1 dX5_vesselsWith_5 rfl (lv_at hl 0 rfl) ?_
    refine hy_get (k := 4) (v := .int (σ.2 7)) B w (cwq_8 G) rfl in_X5_vesselsWith_X5 (by decide) (by decide +kernel) rfl dX5_vesselsWith_6 ?_
    refine lv_icmp_ge (tgt := 41) B.1.1 B.1.2.1 dX5_vesselsWith_9 (by decide) (fun c1 => ?_) (fun c1 => ?_)
    · rw [if_pos c1] at hf
      refine lv_iload_n B.1.1 B.1.2.1 dX5_vesselsWith_41 rfl (lv_at hl 2 rfl) ?_
      exact hret _ _ _ _ _ _ (Option.some.inj hf).symm w dX5_vesselsWith_42
    · rw [if_neg c1] at hf
      refine lv_aload_n B.1.1 B.1.2.1 dX5_vesselsWith_12 rfl (lv_at hl 0 rfl) ?_
      refine hy_get (k := 0) (v := .ref (G.2.2.2.1 28)) B w (cwq_8 G) rfl in_X5_vesselsWith_X5 (by decide) (by decide +kernel) rfl dX5_vesselsWith_13 ?_
      refine lv_iload_n B.1.1 B.1.2.1 dX5_vesselsWith_16 rfl (lv_at hl 3 rfl) ?_
      obtain ⟨h4, v2, e3, hf⟩ := hy_ga_some hf
      refine hy_iald B w (cwq_28 G) h4 e3 dX5_vesselsWith_17 ?_
      refine lv_iload_n B.1.1 B.1.2.1 dX5_vesselsWith_18 rfl (lv_at hl 3 rfl) ?_
      refine lv_icmp_ne (tgt := 35) B.1.1 B.1.2.1 dX5_vesselsWith_19 (by decide) (fun c5 => ?_) (fun c5 => ?_)
      · rw [if_neg c5] at hf
        exact bX5_vesselsWith_35 hA B hR hk4 hret _ _ _ _ _ _ _ hf w (lv_sub hl [0, 1, 2, 3] rfl)
      · rw [if_pos c5] at hf
        refine lv_aload_n B.1.1 B.1.2.1 dX5_vesselsWith_22 rfl (lv_at hl 0 rfl) ?_
        refine hy_get (k := 3) (v := .ref (G.2.2.2.1 31)) B w (cwq_8 G) rfl in_X5_vesselsWith_X5 (by decide) (by decide +kernel) rfl dX5_vesselsWith_23 ?_
        refine lv_iload_n B.1.1 B.1.2.1 dX5_vesselsWith_26 rfl (lv_at hl 3 rfl) ?_
        obtain ⟨h8, v6, e7, hf⟩ := hy_ga_some hf
        refine hy_iald B w (cwq_31 G) h8 e7 dX5_vesselsWith_27 ?_
        refine lv_iload_n B.1.1 B.1.2.1 dX5_vesselsWith_28 rfl (lv_at hl 1 rfl) ?_
        refine lv_icmp_ne (tgt := 35) B.1.1 B.1.2.1 dX5_vesselsWith_29 (by decide) (fun c9 => ?_) (fun c9 => ?_)
        · rw [if_neg c9] at hf
          exact bX5_vesselsWith_35 hA B hR hk4 hret _ _ _ _ _ _ _ hf w (lv_sub hl [0, 1, 2, 3] rfl)
        · rw [if_pos c9] at hf
          refine lv_iinc (v := (x2 + 1)) (lv' := [(2, .int (x2 + 1)), (0, .ref (G.2.2.2.1 8)), (1, .int x1), (3, .int x3)]) B.1.1 B.1.2.1 dX5_vesselsWith_32 hl (k := 2) rfl rfl (by decide) rfl (fun ls hl => ?_)
          exact bX5_vesselsWith_35 hA B hR hk4 hret _ _ _ _ _ _ _ hf w (lv_sub hl [1, 2, 0, 3] rfl)
set_option maxHeartbeats 4000000 in
set_option maxRecDepth 100000 in
theorem bX5_vesselsWith_0 (hA : ∀ q : Nat, s.heap.size ≤ q → A q) (B : hy_B RX5 cX5_vesselsWith 4 wsX5_vesselsWith G A p s m args c) (hR : 0 ≤ R.frames ∧ 0 ≤ R.locals) {o : hy_S × Int32}  (hret : ∀ (σ : hy_S) (v : Int32) (pc : Nat) (H : Heap) (locs : List Loc) (ls : Array Slot), o = (σ, v) → hy_w cw G A s σ H locs → decode cX5_vesselsWith pc = .ok (.ireturn, 1) → W p l e R s m args below meth c H locs 0 0 Q (F0 m pc ls [.int v])) (σ : hy_S) (x1 : Int32) (H : Heap) (locs : List Loc) (ls : Array Slot) (hf : fX5_vesselsWith σ x1 = some o) (w : hy_w cw G A s σ H locs) (hl : lv_has ls 4 [(0, .ref (G.2.2.2.1 8)), (1, .int x1)]) : W p l e R s m args below meth c H locs 0 0 Q (F0 m 0 ls []) := by
  unfold fX5_vesselsWith at hf
  refine lv_iconst (v := 0) B.1.1 B.1.2.1 dX5_vesselsWith_0 (by decide) ?_
  refine lv_istore_n (lv' := [(2, .int 0), (0, .ref (G.2.2.2.1 8)), (1, .int x1)]) B.1.1 B.1.2.1 dX5_vesselsWith_1 rfl hl (by decide) rfl (fun ls hl => ?_)
  refine lv_iconst (v := 0) B.1.1 B.1.2.1 dX5_vesselsWith_2 (by decide) ?_
  refine lv_istore_n (lv' := [(3, .int 0), (2, .int 0), (0, .ref (G.2.2.2.1 8)), (1, .int x1)]) B.1.1 B.1.2.1 dX5_vesselsWith_3 rfl hl (by decide) rfl (fun ls hl => ?_)
  exact bX5_vesselsWith_4 hA B hR  hret _ _ _ _ _ _ _ _ hf w (lv_sub hl [2, 3, 1, 0] rfl)
set_option maxHeartbeats 4000000 in
set_option maxRecDepth 100000 in
theorem mX5_vesselsWith (l : Launch) (G : hy_G) (sz : Nat) (σ : hy_S) (x1 : Int32) (o : hy_S × Int32) (hf : fX5_vesselsWith σ x1 = some o) : hy_M l yX5_vesselsWith wsX5_vesselsWith ({ frames := 0, cells := 0, slots := 0, locals := 0 }) cw G σ sz [.ref (G.2.2.2.1 8), .int x1] o := by
  refine Met.ofW (cc := cX5_vesselsWith) (maxL := 4) (ret := (some .int)) (by decide +kernel) rfl ?_
  intro p e s m args below meth c s₁ B hml hv
  obtain ⟨rfl, hsz, hP, hK, hD0, hN⟩ := hv
  have hx := B.exec
  have hb := B.bytes
  have hr := B.returns
  have hts := atoms_spec (ws := wsX5_vesselsWith) B.pre
  have hown : s.vm.findClass RX5 = some m.cls := findClass_of_methodNamed B.named
  have hlocks := B.notSynchronized
  subst hsz
  have hD := hD0.self (sz := s.heap.size)
  have hA : ∀ q : Nat, s.heap.size ≤ q → va_A (cw G σ) s.heap.size q := fun q h => Or.inr h
  have hS : va_S (va_A (cw G σ) s.heap.size) s.heap s.heap [] := va_S.rf
  have hl := lv_entry ([.ref (G.2.2.2.1 8), .int x1]) (n := 4) (Nat.le_of_ble_eq_true rfl)
  rw [lg_entry_eq]
  generalize (lg_sl ([.ref (G.2.2.2.1 8), .int x1]) ++ List.replicate (4 - (lg_sl ([.ref (G.2.2.2.1 8), .int x1])).length) Slot.unset).toArray = ls at hl ⊢
  have hl : lv_has ls 4 [(0, .ref (G.2.2.2.1 8)), (1, .int x1)] := hl
  refine bX5_vesselsWith_0 (A := va_A (cw G σ) s.heap.size) hA ⟨⟨hx, hb, hml, hown, hts⟩, hK, hN⟩ ⟨Nat.le_of_ble_eq_true rfl, Nat.le_of_ble_eq_true rfl⟩ (o := o) (fun τ v pc H locs ls ho w d => ?_) σ x1 _ _ _ hf ⟨hP, hD, hS⟩ hl
  exact W.iret hx hb hr (fun t ht hW => ⟨⟨v, τ, rfl, ⟨by rw [ho], by rw [ho]⟩, by have h9 := w.1; rw [← ht] at h9; exact h9⟩, w.2.2.F ht⟩) w.2.2.2.2 d
end HK4
