section HK2
variable {p : Program} {l : Launch} {e : Env} {R : Room} {s : State} {m : MethodId} {args : Array Value} {below : List Frame} {meth : Method} {c : Code} {Q : State → Prop} {G : hy_G} {A : Nat → Prop} {Qc : Array Value → State → Outcome → State → Prop}
noncomputable def fX0_pileOf (σ : hy_S) (x0 : Int32) (x1 : Int32) : Option (hy_S × Int32) := some (σ, ((x0 * 6) + x1))
set_option maxHeartbeats 4000000 in
set_option maxRecDepth 100000 in
theorem bX0_pileOf_0 (hA : ∀ q : Nat, s.heap.size ≤ q → A q) (B : hy_B RX0 cX0_pileOf 2 wsX0_pileOf G A p s m args c) (hR : 0 ≤ R.frames ∧ 0 ≤ R.locals) {o : hy_S × Int32}  (hret : ∀ (σ : hy_S) (v : Int32) (pc : Nat) (H : Heap) (locs : List Loc) (ls : Array Slot), o = (σ, v) → hy_w cw G A s σ H locs → decode cX0_pileOf pc = .ok (.ireturn, 1) → W p l e R s m args below meth c H locs 0 0 Q (F0 m pc ls [.int v])) (σ : hy_S) (x0 : Int32) (x1 : Int32) (H : Heap) (locs : List Loc) (ls : Array Slot) (hf : fX0_pileOf σ x0 x1 = some o) (w : hy_w cw G A s σ H locs) (hl : lv_has ls 2 [(0, .int x0), (1, .int x1)]) : W p l e R s m args below meth c H locs 0 0 Q (F0 m 0 ls []) := by
  unfold fX0_pileOf at hf
  refine lv_iload_n B.1.1 B.1.2.1 dX0_pileOf_0 rfl (lv_at hl 0 rfl) ?_
  refine lv_bipush (v := 6) B.1.1 B.1.2.1 dX0_pileOf_1 (by decide) ?_
  refine lv_imul B.1.1 B.1.2.1 dX0_pileOf_3 ?_
  refine lv_iload_n B.1.1 B.1.2.1 dX0_pileOf_4 rfl (lv_at hl 1 rfl) ?_
  refine lv_iadd B.1.1 B.1.2.1 dX0_pileOf_5 ?_
  exact hret _ _ _ _ _ _ (Option.some.inj hf).symm w dX0_pileOf_6
set_option maxHeartbeats 4000000 in
set_option maxRecDepth 100000 in
theorem mX0_pileOf (l : Launch) (G : hy_G) (sz : Nat) (σ : hy_S) (x0 : Int32) (x1 : Int32) (o : hy_S × Int32) (hf : fX0_pileOf σ x0 x1 = some o) : hy_M l yX0_pileOf wsX0_pileOf ({ frames := 0, cells := 0, slots := 0, locals := 0 }) cw G σ sz [.int x0, .int x1] o := by
  refine Met.ofW (cc := cX0_pileOf) (maxL := 2) (ret := (some .int)) (by decide +kernel) rfl ?_
  intro p e s m args below meth c s₁ B hml hv
  obtain ⟨rfl, hsz, hP, hK, hD0, hN⟩ := hv
  have hx := B.exec
  have hb := B.bytes
  have hr := B.returns
  have hts := atoms_spec (ws := wsX0_pileOf) B.pre
  have hown : s.vm.findClass RX0 = some m.cls := findClass_of_methodNamed B.named
  have hlocks := B.notSynchronized
  subst hsz
  have hD := hD0.self (sz := s.heap.size)
  have hA : ∀ q : Nat, s.heap.size ≤ q → va_A (cw G σ) s.heap.size q := fun q h => Or.inr h
  have hS : va_S (va_A (cw G σ) s.heap.size) s.heap s.heap [] := va_S.rf
  have hl := lv_entry ([.int x0, .int x1]) (n := 2) (Nat.le_of_ble_eq_true rfl)
  rw [lg_entry_eq]
  generalize (lg_sl ([.int x0, .int x1]) ++ List.replicate (2 - (lg_sl ([.int x0, .int x1])).length) Slot.unset).toArray = ls at hl ⊢
  have hl : lv_has ls 2 [(0, .int x0), (1, .int x1)] := hl
  refine bX0_pileOf_0 (A := va_A (cw G σ) s.heap.size) hA ⟨⟨hx, hb, hml, hown, hts⟩, hK, hN⟩ ⟨Nat.le_of_ble_eq_true rfl, Nat.le_of_ble_eq_true rfl⟩ (o := o) (fun τ v pc H locs ls ho w d => ?_) σ x0 x1 _ _ _ hf ⟨hP, hD, hS⟩ hl
  exact W.iret hx hb hr (fun t ht hW => ⟨⟨v, τ, rfl, ⟨by rw [ho], by rw [ho]⟩, by have h9 := w.1; rw [← ht] at h9; exact h9⟩, w.2.2.F ht⟩) w.2.2.2.2 d
noncomputable def fX0_shipOf (σ : hy_S) (x0 : Int32) : Option (hy_S × Int32) := (if x0 = (-1) then some (σ, (-1)) else some (σ, (x0 / 6)))
set_option maxHeartbeats 4000000 in
set_option maxRecDepth 100000 in
theorem bX0_shipOf_0 (hA : ∀ q : Nat, s.heap.size ≤ q → A q) (B : hy_B RX0 cX0_shipOf 1 wsX0_shipOf G A p s m args c) (hR : 0 ≤ R.frames ∧ 0 ≤ R.locals) {o : hy_S × Int32}  (hret : ∀ (σ : hy_S) (v : Int32) (pc : Nat) (H : Heap) (locs : List Loc) (ls : Array Slot), o = (σ, v) → hy_w cw G A s σ H locs → decode cX0_shipOf pc = .ok (.ireturn, 1) → W p l e R s m args below meth c H locs 0 0 Q (F0 m pc ls [.int v])) (σ : hy_S) (x0 : Int32) (H : Heap) (locs : List Loc) (ls : Array Slot) (hf : fX0_shipOf σ x0 = some o) (w : hy_w cw G A s σ H locs) (hl : lv_has ls 1 [(0, .int x0)]) : W p l e R s m args below meth c H locs 0 0 Q (F0 m 0 ls []) := by
  unfold fX0_shipOf at hf
  refine lv_iload_n B.1.1 B.1.2.1 dX0_shipOf_0 rfl (lv_at hl 0 rfl) ?_
  refine lv_iconst (v := (-1)) B.1.1 B.1.2.1 dX0_shipOf_1 (by decide) ?_
  refine lv_icmp_ne (tgt := 9) B.1.1 B.1.2.1 dX0_shipOf_2 (by decide) (fun c1 => ?_) (fun c1 => ?_)
  · rw [if_neg c1] at hf
    refine lv_iload_n B.1.1 B.1.2.1 dX0_shipOf_9 rfl (lv_at hl 0 rfl) ?_
    refine lv_bipush (v := 6) B.1.1 B.1.2.1 dX0_shipOf_10 (by decide) ?_
    refine lv_idiv B.1.1 B.1.2.1 dX0_shipOf_12 (by decide) ?_
    exact hret _ _ _ _ _ _ (Option.some.inj hf).symm w dX0_shipOf_13
  · rw [if_pos c1] at hf
    refine lv_iconst (v := (-1)) B.1.1 B.1.2.1 dX0_shipOf_5 (by decide) ?_
    refine lv_goto (tgt := 13) B.1.1 B.1.2.1 dX0_shipOf_6 (by decide) ?_
    exact hret _ _ _ _ _ _ (Option.some.inj hf).symm w dX0_shipOf_13
set_option maxHeartbeats 4000000 in
set_option maxRecDepth 100000 in
theorem mX0_shipOf (l : Launch) (G : hy_G) (sz : Nat) (σ : hy_S) (x0 : Int32) (o : hy_S × Int32) (hf : fX0_shipOf σ x0 = some o) : hy_M l yX0_shipOf wsX0_shipOf ({ frames := 0, cells := 0, slots := 0, locals := 0 }) cw G σ sz [.int x0] o := by
  refine Met.ofW (cc := cX0_shipOf) (maxL := 1) (ret := (some .int)) (by decide +kernel) rfl ?_
  intro p e s m args below meth c s₁ B hml hv
  obtain ⟨rfl, hsz, hP, hK, hD0, hN⟩ := hv
  have hx := B.exec
  have hb := B.bytes
  have hr := B.returns
  have hts := atoms_spec (ws := wsX0_shipOf) B.pre
  have hown : s.vm.findClass RX0 = some m.cls := findClass_of_methodNamed B.named
  have hlocks := B.notSynchronized
  subst hsz
  have hD := hD0.self (sz := s.heap.size)
  have hA : ∀ q : Nat, s.heap.size ≤ q → va_A (cw G σ) s.heap.size q := fun q h => Or.inr h
  have hS : va_S (va_A (cw G σ) s.heap.size) s.heap s.heap [] := va_S.rf
  have hl := lv_entry ([.int x0]) (n := 1) (Nat.le_of_ble_eq_true rfl)
  rw [lg_entry_eq]
  generalize (lg_sl ([.int x0]) ++ List.replicate (1 - (lg_sl ([.int x0])).length) Slot.unset).toArray = ls at hl ⊢
  have hl : lv_has ls 1 [(0, .int x0)] := hl
  refine bX0_shipOf_0 (A := va_A (cw G σ) s.heap.size) hA ⟨⟨hx, hb, hml, hown, hts⟩, hK, hN⟩ ⟨Nat.le_of_ble_eq_true rfl, Nat.le_of_ble_eq_true rfl⟩ (o := o) (fun τ v pc H locs ls ho w d => ?_) σ x0 _ _ _ hf ⟨hP, hD, hS⟩ hl
  exact W.iret hx hb hr (fun t ht hW => ⟨⟨v, τ, rfl, ⟨by rw [ho], by rw [ho]⟩, by have h9 := w.1; rw [← ht] at h9; exact h9⟩, w.2.2.F ht⟩) w.2.2.2.2 d
noncomputable def fX0_holdOf (σ : hy_S) (x0 : Int32) : Option (hy_S × Int32) := (if x0 = (-1) then some (σ, (-1)) else some (σ, (x0 - x0 / 6 * 6)))
set_option maxHeartbeats 4000000 in
set_option maxRecDepth 100000 in
theorem bX0_holdOf_0 (hA : ∀ q : Nat, s.heap.size ≤ q → A q) (B : hy_B RX0 cX0_holdOf 1 wsX0_holdOf G A p s m args c) (hR : 0 ≤ R.frames ∧ 0 ≤ R.locals) {o : hy_S × Int32}  (hret : ∀ (σ : hy_S) (v : Int32) (pc : Nat) (H : Heap) (locs : List Loc) (ls : Array Slot), o = (σ, v) → hy_w cw G A s σ H locs → decode cX0_holdOf pc = .ok (.ireturn, 1) → W p l e R s m args below meth c H locs 0 0 Q (F0 m pc ls [.int v])) (σ : hy_S) (x0 : Int32) (H : Heap) (locs : List Loc) (ls : Array Slot) (hf : fX0_holdOf σ x0 = some o) (w : hy_w cw G A s σ H locs) (hl : lv_has ls 1 [(0, .int x0)]) : W p l e R s m args below meth c H locs 0 0 Q (F0 m 0 ls []) := by
  unfold fX0_holdOf at hf
  refine lv_iload_n B.1.1 B.1.2.1 dX0_holdOf_0 rfl (lv_at hl 0 rfl) ?_
  refine lv_iconst (v := (-1)) B.1.1 B.1.2.1 dX0_holdOf_1 (by decide) ?_
  refine lv_icmp_ne (tgt := 9) B.1.1 B.1.2.1 dX0_holdOf_2 (by decide) (fun c1 => ?_) (fun c1 => ?_)
  · rw [if_neg c1] at hf
    refine lv_iload_n B.1.1 B.1.2.1 dX0_holdOf_9 rfl (lv_at hl 0 rfl) ?_
    refine lv_bipush (v := 6) B.1.1 B.1.2.1 dX0_holdOf_10 (by decide) ?_
    refine lv_irem B.1.1 B.1.2.1 dX0_holdOf_12 (by decide) ?_
    exact hret _ _ _ _ _ _ (Option.some.inj hf).symm w dX0_holdOf_13
  · rw [if_pos c1] at hf
    refine lv_iconst (v := (-1)) B.1.1 B.1.2.1 dX0_holdOf_5 (by decide) ?_
    refine lv_goto (tgt := 13) B.1.1 B.1.2.1 dX0_holdOf_6 (by decide) ?_
    exact hret _ _ _ _ _ _ (Option.some.inj hf).symm w dX0_holdOf_13
set_option maxHeartbeats 4000000 in
set_option maxRecDepth 100000 in
theorem mX0_holdOf (l : Launch) (G : hy_G) (sz : Nat) (σ : hy_S) (x0 : Int32) (o : hy_S × Int32) (hf : fX0_holdOf σ x0 = some o) : hy_M l yX0_holdOf wsX0_holdOf ({ frames := 0, cells := 0, slots := 0, locals := 0 }) cw G σ sz [.int x0] o := by
  refine Met.ofW (cc := cX0_holdOf) (maxL := 1) (ret := (some .int)) (by decide +kernel) rfl ?_
  intro p e s m args below meth c s₁ B hml hv
  obtain ⟨rfl, hsz, hP, hK, hD0, hN⟩ := hv
  have hx := B.exec
  have hb := B.bytes
  have hr := B.returns
  have hts := atoms_spec (ws := wsX0_holdOf) B.pre
  have hown : s.vm.findClass RX0 = some m.cls := findClass_of_methodNamed B.named
  have hlocks := B.notSynchronized
  subst hsz
  have hD := hD0.self (sz := s.heap.size)
  have hA : ∀ q : Nat, s.heap.size ≤ q → va_A (cw G σ) s.heap.size q := fun q h => Or.inr h
  have hS : va_S (va_A (cw G σ) s.heap.size) s.heap s.heap [] := va_S.rf
  have hl := lv_entry ([.int x0]) (n := 1) (Nat.le_of_ble_eq_true rfl)
  rw [lg_entry_eq]
  generalize (lg_sl ([.int x0]) ++ List.replicate (1 - (lg_sl ([.int x0])).length) Slot.unset).toArray = ls at hl ⊢
  have hl : lv_has ls 1 [(0, .int x0)] := hl
  refine bX0_holdOf_0 (A := va_A (cw G σ) s.heap.size) hA ⟨⟨hx, hb, hml, hown, hts⟩, hK, hN⟩ ⟨Nat.le_of_ble_eq_true rfl, Nat.le_of_ble_eq_true rfl⟩ (o := o) (fun τ v pc H locs ls ho w d => ?_) σ x0 _ _ _ hf ⟨hP, hD, hS⟩ hl
  exact W.iret hx hb hr (fun t ht hW => ⟨⟨v, τ, rfl, ⟨by rw [ho], by rw [ho]⟩, by have h9 := w.1; rw [← ht] at h9; exact h9⟩, w.2.2.F ht⟩) w.2.2.2.2 d
theorem in_X0_add_X0 : ∀ w ∈ u_ws RX0 TX0 4, w ∈ wsX0_add := fun _ h => xt1 (xr (h))
noncomputable def fX0_add (σ : hy_S) : Option (hy_S × Int32) := hy_pf σ 5 ((σ.2 5) + 1) (fun σ1 => some (σ1, ((σ1.2 5) - 1)))
set_option maxHeartbeats 4000000 in
set_option maxRecDepth 100000 in
theorem bX0_add_0 (hA : ∀ q : Nat, s.heap.size ≤ q → A q) (B : hy_B RX0 cX0_add 1 wsX0_add G A p s m args c) (hR : 0 ≤ R.frames ∧ 0 ≤ R.locals) {o : hy_S × Int32}  (hret : ∀ (σ : hy_S) (v : Int32) (pc : Nat) (H : Heap) (locs : List Loc) (ls : Array Slot), o = (σ, v) → hy_w cw G A s σ H locs → decode cX0_add pc = .ok (.ireturn, 1) → W p l e R s m args below meth c H locs 0 0 Q (F0 m pc ls [.int v])) (σ : hy_S) (H : Heap) (locs : List Loc) (ls : Array Slot) (hf : fX0_add σ = some o) (w : hy_w cw G A s σ H locs) (hl : lv_has ls 1 [(0, .ref (G.2.2.2.1 5))]) : W p l e R s m args below meth c H locs 0 0 Q (F0 m 0 ls []) := by
  unfold fX0_add at hf
  refine lv_aload_n B.1.1 B.1.2.1 dX0_add_0 rfl (lv_at hl 0 rfl) ?_
  refine lv_dup B.1.1 B.1.2.1 dX0_add_1 rfl ?_
  refine hy_get (k := 3) (v := .int (σ.2 5)) B w (cwq_5 G) rfl in_X0_add_X0 (by decide) (by decide +kernel) rfl dX0_add_2 ?_
  refine lv_iconst (v := 1) B.1.1 B.1.2.1 dX0_add_5 (by decide) ?_
  refine lv_iadd B.1.1 B.1.2.1 dX0_add_6 ?_
  obtain ⟨σ1, e2, hf⟩ := hy_pf_some hf
  refine hy_put (k := 3) B w (cwq_5 G) rfl in_X0_add_X0 tyX0 tyX0_ok nmX0 (by decide) (by decide +kernel) rfl rfl (by show 3 < 4; decide) (cwp_5 G) e2 dX0_add_7 (fun H locs w => ?_)
  refine lv_aload_n B.1.1 B.1.2.1 dX0_add_10 rfl (lv_at hl 0 rfl) ?_
  refine hy_get (k := 3) (v := .int (σ1.2 5)) B w (cwq_5 G) rfl in_X0_add_X0 (by decide) (by decide +kernel) rfl dX0_add_11 ?_
  refine lv_iconst (v := 1) B.1.1 B.1.2.1 dX0_add_14 (by decide) ?_
  refine lv_isub B.1.1 B.1.2.1 dX0_add_15 ?_
  exact hret _ _ _ _ _ _ (Option.some.inj hf).symm w dX0_add_16
set_option maxHeartbeats 4000000 in
set_option maxRecDepth 100000 in
theorem mX0_add (l : Launch) (G : hy_G) (sz : Nat) (σ : hy_S) (o : hy_S × Int32) (hf : fX0_add σ = some o) : hy_M l yX0_add wsX0_add ({ frames := 0, cells := 0, slots := 0, locals := 0 }) cw G σ sz [.ref (G.2.2.2.1 5)] o := by
  refine Met.ofW (cc := cX0_add) (maxL := 1) (ret := (some .int)) (by decide +kernel) rfl ?_
  intro p e s m args below meth c s₁ B hml hv
  obtain ⟨rfl, hsz, hP, hK, hD0, hN⟩ := hv
  have hx := B.exec
  have hb := B.bytes
  have hr := B.returns
  have hts := atoms_spec (ws := wsX0_add) B.pre
  have hown : s.vm.findClass RX0 = some m.cls := findClass_of_methodNamed B.named
  have hlocks := B.notSynchronized
  subst hsz
  have hD := hD0.self (sz := s.heap.size)
  have hA : ∀ q : Nat, s.heap.size ≤ q → va_A (cw G σ) s.heap.size q := fun q h => Or.inr h
  have hS : va_S (va_A (cw G σ) s.heap.size) s.heap s.heap [] := va_S.rf
  have hl := lv_entry ([.ref (G.2.2.2.1 5)]) (n := 1) (Nat.le_of_ble_eq_true rfl)
  rw [lg_entry_eq]
  generalize (lg_sl ([.ref (G.2.2.2.1 5)]) ++ List.replicate (1 - (lg_sl ([.ref (G.2.2.2.1 5)])).length) Slot.unset).toArray = ls at hl ⊢
  have hl : lv_has ls 1 [(0, .ref (G.2.2.2.1 5))] := hl
  refine bX0_add_0 (A := va_A (cw G σ) s.heap.size) hA ⟨⟨hx, hb, hml, hown, hts⟩, hK, hN⟩ ⟨Nat.le_of_ble_eq_true rfl, Nat.le_of_ble_eq_true rfl⟩ (o := o) (fun τ v pc H locs ls ho w d => ?_) σ _ _ _ hf ⟨hP, hD, hS⟩ hl
  exact W.iret hx hb hr (fun t ht hW => ⟨⟨v, τ, rfl, ⟨by rw [ho], by rw [ho]⟩, by have h9 := w.1; rw [← ht] at h9; exact h9⟩, w.2.2.F ht⟩) w.2.2.2.2 d
theorem in_X0_jarAt_X0 : ∀ w ∈ u_ws RX0 TX0 4, w ∈ wsX0_jarAt := fun _ h => xt1 (xr (h))
noncomputable def fX0_jarAt_14 (σ : hy_S) : Option (hy_S × Int32) := some (σ, (-1))
noncomputable def fX0_jarAt (σ : hy_S) (x1 : Int32) (x2 : Int32) : Option (hy_S × Int32) := (if x2 < 0 then fX0_jarAt_14 σ else hy_ga σ 12 24 x1 (fun v2 => (if x2 < v2 then hy_ga σ 11 240 ((x1 * 10) + x2) (fun v6 => some (σ, v6)) else fX0_jarAt_14 σ)))
set_option maxHeartbeats 4000000 in
set_option maxRecDepth 100000 in
theorem bX0_jarAt_14 (hA : ∀ q : Nat, s.heap.size ≤ q → A q) (B : hy_B RX0 cX0_jarAt 3 wsX0_jarAt G A p s m args c) (hR : 0 ≤ R.frames ∧ 0 ≤ R.locals) {o : hy_S × Int32}  (hret : ∀ (σ : hy_S) (v : Int32) (pc : Nat) (H : Heap) (locs : List Loc) (ls : Array Slot), o = (σ, v) → hy_w cw G A s σ H locs → decode cX0_jarAt pc = .ok (.ireturn, 1) → W p l e R s m args below meth c H locs 0 0 Q (F0 m pc ls [.int v])) (σ : hy_S) (H : Heap) (locs : List Loc) (ls : Array Slot) (hf : fX0_jarAt_14 σ = some o) (w : hy_w cw G A s σ H locs) (hl : lv_has ls 3 []) : W p l e R s m args below meth c H locs 0 0 Q (F0 m 14 ls []) := by
  unfold fX0_jarAt_14 at hf
  refine lv_iconst (v := (-1)) B.1.1 B.1.2.1 dX0_jarAt_14 (by decide) ?_
  refine lv_goto (tgt := 29) B.1.1 B.1.2.1 dX0_jarAt_15 (by decide) ?_
  exact hret _ _ _ _ _ _ (Option.some.inj hf).symm w dX0_jarAt_29
set_option maxHeartbeats 4000000 in
set_option maxRecDepth 100000 in
theorem bX0_jarAt_0 (hA : ∀ q : Nat, s.heap.size ≤ q → A q) (B : hy_B RX0 cX0_jarAt 3 wsX0_jarAt G A p s m args c) (hR : 0 ≤ R.frames ∧ 0 ≤ R.locals) {o : hy_S × Int32}  (hret : ∀ (σ : hy_S) (v : Int32) (pc : Nat) (H : Heap) (locs : List Loc) (ls : Array Slot), o = (σ, v) → hy_w cw G A s σ H locs → decode cX0_jarAt pc = .ok (.ireturn, 1) → W p l e R s m args below meth c H locs 0 0 Q (F0 m pc ls [.int v])) (σ : hy_S) (x1 : Int32) (x2 : Int32) (H : Heap) (locs : List Loc) (ls : Array Slot) (hf : fX0_jarAt σ x1 x2 = some o) (w : hy_w cw G A s σ H locs) (hl : lv_has ls 3 [(0, .ref (G.2.2.2.1 5)), (1, .int x1), (2, .int x2)]) : W p l e R s m args below meth c H locs 0 0 Q (F0 m 0 ls []) := by
  unfold fX0_jarAt at hf
  refine lv_iload_n B.1.1 B.1.2.1 dX0_jarAt_0 rfl (lv_at hl 2 rfl) ?_
  refine lv_if_lt (tgt := 14) B.1.1 B.1.2.1 dX0_jarAt_1 (by decide) (fun c1 => ?_) (fun c1 => ?_)
  · rw [if_pos c1] at hf
    exact bX0_jarAt_14 hA B hR  hret _ _ _ _ hf w (lv_sub hl [] rfl)
  · rw [if_neg c1] at hf
    refine lv_iload_n B.1.1 B.1.2.1 dX0_jarAt_4 rfl (lv_at hl 2 rfl) ?_
    refine lv_aload_n B.1.1 B.1.2.1 dX0_jarAt_5 rfl (lv_at hl 0 rfl) ?_
    refine hy_get (k := 2) (v := .ref (G.2.2.2.1 22)) B w (cwq_5 G) rfl in_X0_jarAt_X0 (by decide) (by decide +kernel) rfl dX0_jarAt_6 ?_
    refine lv_iload_n B.1.1 B.1.2.1 dX0_jarAt_9 rfl (lv_at hl 1 rfl) ?_
    obtain ⟨h4, v2, e3, hf⟩ := hy_ga_some hf
    refine hy_iald B w (cwq_22 G) h4 e3 dX0_jarAt_10 ?_
    refine lv_icmp_lt (tgt := 18) B.1.1 B.1.2.1 dX0_jarAt_11 (by decide) (fun c5 => ?_) (fun c5 => ?_)
    · rw [if_pos c5] at hf
      refine lv_aload_n B.1.1 B.1.2.1 dX0_jarAt_18 rfl (lv_at hl 0 rfl) ?_
      refine hy_get (k := 1) (v := .ref (G.2.2.2.1 21)) B w (cwq_5 G) rfl in_X0_jarAt_X0 (by decide) (by decide +kernel) rfl dX0_jarAt_19 ?_
      refine lv_iload_n B.1.1 B.1.2.1 dX0_jarAt_22 rfl (lv_at hl 1 rfl) ?_
      refine lv_bipush (v := 10) B.1.1 B.1.2.1 dX0_jarAt_23 (by decide) ?_
      refine lv_imul B.1.1 B.1.2.1 dX0_jarAt_25 ?_
      refine lv_iload_n B.1.1 B.1.2.1 dX0_jarAt_26 rfl (lv_at hl 2 rfl) ?_
      refine lv_iadd B.1.1 B.1.2.1 dX0_jarAt_27 ?_
      obtain ⟨h8, v6, e7, hf⟩ := hy_ga_some hf
      refine hy_iald B w (cwq_21 G) h8 e7 dX0_jarAt_28 ?_
      exact hret _ _ _ _ _ _ (Option.some.inj hf).symm w dX0_jarAt_29
    · rw [if_neg c5] at hf
      exact bX0_jarAt_14 hA B hR  hret _ _ _ _ hf w (lv_sub hl [] rfl)
set_option maxHeartbeats 4000000 in
set_option maxRecDepth 100000 in
theorem mX0_jarAt (l : Launch) (G : hy_G) (sz : Nat) (σ : hy_S) (x1 : Int32) (x2 : Int32) (o : hy_S × Int32) (hf : fX0_jarAt σ x1 x2 = some o) : hy_M l yX0_jarAt wsX0_jarAt ({ frames := 0, cells := 0, slots := 0, locals := 0 }) cw G σ sz [.ref (G.2.2.2.1 5), .int x1, .int x2] o := by
  refine Met.ofW (cc := cX0_jarAt) (maxL := 3) (ret := (some .int)) (by decide +kernel) rfl ?_
  intro p e s m args below meth c s₁ B hml hv
  obtain ⟨rfl, hsz, hP, hK, hD0, hN⟩ := hv
  have hx := B.exec
  have hb := B.bytes
  have hr := B.returns
  have hts := atoms_spec (ws := wsX0_jarAt) B.pre
  have hown : s.vm.findClass RX0 = some m.cls := findClass_of_methodNamed B.named
  have hlocks := B.notSynchronized
  subst hsz
  have hD := hD0.self (sz := s.heap.size)
  have hA : ∀ q : Nat, s.heap.size ≤ q → va_A (cw G σ) s.heap.size q := fun q h => Or.inr h
  have hS : va_S (va_A (cw G σ) s.heap.size) s.heap s.heap [] := va_S.rf
  have hl := lv_entry ([.ref (G.2.2.2.1 5), .int x1, .int x2]) (n := 3) (Nat.le_of_ble_eq_true rfl)
  rw [lg_entry_eq]
  generalize (lg_sl ([.ref (G.2.2.2.1 5), .int x1, .int x2]) ++ List.replicate (3 - (lg_sl ([.ref (G.2.2.2.1 5), .int x1, .int x2])).length) Slot.unset).toArray = ls at hl ⊢
  have hl : lv_has ls 3 [(0, .ref (G.2.2.2.1 5)), (1, .int x1), (2, .int x2)] := hl
  refine bX0_jarAt_0 (A := va_A (cw G σ) s.heap.size) hA ⟨⟨hx, hb, hml, hown, hts⟩, hK, hN⟩ ⟨Nat.le_of_ble_eq_true rfl, Nat.le_of_ble_eq_true rfl⟩ (o := o) (fun τ v pc H locs ls ho w d => ?_) σ x1 x2 _ _ _ hf ⟨hP, hD, hS⟩ hl
  exact W.iret hx hb hr (fun t ht hW => ⟨⟨v, τ, rfl, ⟨by rw [ho], by rw [ho]⟩, by have h9 := w.1; rw [← ht] at h9; exact h9⟩, w.2.2.F ht⟩) w.2.2.2.2 d
theorem in_X0_setTop_X0 : ∀ w ∈ u_ws RX0 TX0 4, w ∈ wsX0_setTop := fun _ h => xt1 (xr (h))
noncomputable def fX0_setTop (σ : hy_S) (x1 : Int32) (x2 : Int32) : Option (hy_S × Int32) := hy_ga σ 12 24 x1 (fun v1 => hy_pa σ 11 240 ((x1 * 10) + v1) x2 (fun σ4 => hy_ga σ4 12 24 x1 (fun v7 => hy_pa σ4 12 24 x1 (v7 + 1) (fun σ10 => some (σ10, 0)))))
set_option maxHeartbeats 4000000 in
set_option maxRecDepth 100000 in
theorem bX0_setTop_0 (hA : ∀ q : Nat, s.heap.size ≤ q → A q) (B : hy_B RX0 cX0_setTop 3 wsX0_setTop G A p s m args c) (hR : 0 ≤ R.frames ∧ 0 ≤ R.locals) {o : hy_S × Int32}  (hret : ∀ (σ : hy_S) (pc : Nat) (H : Heap) (locs : List Loc) (ls : Array Slot), o = (σ, 0) → hy_w cw G A s σ H locs → decode cX0_setTop pc = .ok (.return_, 1) → W p l e R s m args below meth c H locs 0 0 Q (F0 m pc ls [])) (σ : hy_S) (x1 : Int32) (x2 : Int32) (H : Heap) (locs : List Loc) (ls : Array Slot) (hf : fX0_setTop σ x1 x2 = some o) (w : hy_w cw G A s σ H locs) (hl : lv_has ls 3 [(0, .ref (G.2.2.2.1 5)), (1, .int x1), (2, .int x2)]) : W p l e R s m args below meth c H locs 0 0 Q (F0 m 0 ls []) := by
  unfold fX0_setTop at hf
  refine lv_aload_n B.1.1 B.1.2.1 dX0_setTop_0 rfl (lv_at hl 0 rfl) ?_
  refine hy_get (k := 1) (v := .ref (G.2.2.2.1 21)) B w (cwq_5 G) rfl in_X0_setTop_X0 (by decide) (by decide +kernel) rfl dX0_setTop_1 ?_
  refine lv_iload_n B.1.1 B.1.2.1 dX0_setTop_4 rfl (lv_at hl 1 rfl) ?_
  refine lv_bipush (v := 10) B.1.1 B.1.2.1 dX0_setTop_5 (by decide) ?_
  refine lv_imul B.1.1 B.1.2.1 dX0_setTop_7 ?_
  refine lv_aload_n B.1.1 B.1.2.1 dX0_setTop_8 rfl (lv_at hl 0 rfl) ?_
  refine hy_get (k := 2) (v := .ref (G.2.2.2.1 22)) B w (cwq_5 G) rfl in_X0_setTop_X0 (by decide) (by decide +kernel) rfl dX0_setTop_9 ?_
  refine lv_iload_n B.1.1 B.1.2.1 dX0_setTop_12 rfl (lv_at hl 1 rfl) ?_
  obtain ⟨h3, v1, e2, hf⟩ := hy_ga_some hf
  refine hy_iald B w (cwq_22 G) h3 e2 dX0_setTop_13 ?_
  refine lv_iadd B.1.1 B.1.2.1 dX0_setTop_14 ?_
  refine lv_iload_n B.1.1 B.1.2.1 dX0_setTop_15 rfl (lv_at hl 2 rfl) ?_
  obtain ⟨h6, σ4, e5, hf⟩ := hy_pa_some hf
  refine hy_iast B w (cwq_21 G) (cws_21 G) h6 e5 dX0_setTop_16 (fun H locs w => ?_)
  refine lv_aload_n B.1.1 B.1.2.1 dX0_setTop_17 rfl (lv_at hl 0 rfl) ?_
  refine hy_get (k := 2) (v := .ref (G.2.2.2.1 22)) B w (cwq_5 G) rfl in_X0_setTop_X0 (by decide) (by decide +kernel) rfl dX0_setTop_18 ?_
  refine lv_iload_n B.1.1 B.1.2.1 dX0_setTop_21 rfl (lv_at hl 1 rfl) ?_
  refine lv_dup2_11 B.1.1 B.1.2.1 dX0_setTop_22 rfl rfl ?_
  obtain ⟨h9, v7, e8, hf⟩ := hy_ga_some hf
  refine hy_iald B w (cwq_22 G) h9 e8 dX0_setTop_23 ?_
  refine lv_iconst (v := 1) B.1.1 B.1.2.1 dX0_setTop_24 (by decide) ?_
  refine lv_iadd B.1.1 B.1.2.1 dX0_setTop_25 ?_
  obtain ⟨h12, σ10, e11, hf⟩ := hy_pa_some hf
  refine hy_iast B w (cwq_22 G) (cws_22 G) h12 e11 dX0_setTop_26 (fun H locs w => ?_)
  exact hret _ _ _ _ _ (Option.some.inj hf).symm w dX0_setTop_27
set_option maxHeartbeats 4000000 in
set_option maxRecDepth 100000 in
theorem mX0_setTop (l : Launch) (G : hy_G) (sz : Nat) (σ : hy_S) (x1 : Int32) (x2 : Int32) (o : hy_S × Int32) (hf : fX0_setTop σ x1 x2 = some o) : hy_Mv l yX0_setTop wsX0_setTop ({ frames := 0, cells := 0, slots := 0, locals := 0 }) cw G σ sz [.ref (G.2.2.2.1 5), .int x1, .int x2] o := by
  refine Met.ofW (cc := cX0_setTop) (maxL := 3) (ret := none) (by decide +kernel) rfl ?_
  intro p e s m args below meth c s₁ B hml hv
  obtain ⟨rfl, hsz, hP, hK, hD0, hN⟩ := hv
  have hx := B.exec
  have hb := B.bytes
  have hr := B.returns
  have hts := atoms_spec (ws := wsX0_setTop) B.pre
  have hown : s.vm.findClass RX0 = some m.cls := findClass_of_methodNamed B.named
  have hlocks := B.notSynchronized
  subst hsz
  have hD := hD0.self (sz := s.heap.size)
  have hA : ∀ q : Nat, s.heap.size ≤ q → va_A (cw G σ) s.heap.size q := fun q h => Or.inr h
  have hS : va_S (va_A (cw G σ) s.heap.size) s.heap s.heap [] := va_S.rf
  have hl := lv_entry ([.ref (G.2.2.2.1 5), .int x1, .int x2]) (n := 3) (Nat.le_of_ble_eq_true rfl)
  rw [lg_entry_eq]
  generalize (lg_sl ([.ref (G.2.2.2.1 5), .int x1, .int x2]) ++ List.replicate (3 - (lg_sl ([.ref (G.2.2.2.1 5), .int x1, .int x2])).length) Slot.unset).toArray = ls at hl ⊢
  have hl : lv_has ls 3 [(0, .ref (G.2.2.2.1 5)), (1, .int x1), (2, .int x2)] := hl
  refine bX0_setTop_0 (A := va_A (cw G σ) s.heap.size) hA ⟨⟨hx, hb, hml, hown, hts⟩, hK, hN⟩ ⟨Nat.le_of_ble_eq_true rfl, Nat.le_of_ble_eq_true rfl⟩ (o := o) (fun τ pc H locs ls ho w d => ?_) σ x1 x2 _ _ _ hf ⟨hP, hD, hS⟩ hl
  exact W.vret hx hb hr (fun t ht hW => ⟨⟨τ, rfl, by rw [ho], by have h9 := w.1; rw [← ht] at h9; exact h9⟩, w.2.2.F ht⟩) w.2.2.2.2 d
theorem in_X0_canBear_X0 : ∀ w ∈ u_ws RX0 TX0 4, w ∈ wsX0_canBear := fun _ h => xt1 (xl (xl (xr (h))))
noncomputable def fX0_canBear_19 : Nat → hy_S → Int32 → Int32 → Int32 → Option (hy_S × Int32)
  | 0, _, _, _, _ => none
  | n + 1, σ, x1, x3, x4 => (if x4 < 0 then some (σ, 1) else hy_ga σ 11 240 ((x1 * 10) + x4) (fun v2 => hy_bd (fX1_bears σ v2) (fun σ5 v6 => (if x3 ≤ v6 then hy_bd (fX1_weight σ5 v2) (fun σ9 v10 => (fX0_canBear_19 n) σ9 x1 (x3 + v10) (x4 + (-1))) else some (σ5, 0)))))
noncomputable def fX0_canBear (σ : hy_S) (x1 : Int32) (x2 : Int32) : Option (hy_S × Int32) := hy_bd (fX1_weight σ x2) (fun σ1 v2 => hy_ga σ1 12 24 x1 (fun v4 => fX0_canBear_19 hy_fu σ1 x1 v2 (v4 - 1)))
set_option maxHeartbeats 4000000 in
set_option maxRecDepth 100000 in
theorem bX0_canBear_19 (hA : ∀ q : Nat, s.heap.size ≤ q → A q) (B : hy_B RX0 cX0_canBear 6 wsX0_canBear G A p s m args c) (hR : 1 ≤ R.frames ∧ 21 ≤ R.locals) {o : hy_S × Int32}  (hret : ∀ (σ : hy_S) (v : Int32) (pc : Nat) (H : Heap) (locs : List Loc) (ls : Array Slot), o = (σ, v) → (v = 0 ∨ v = 1) → hy_w cw G A s σ H locs → decode cX0_canBear pc = .ok (.ireturn, 1) → W p l e R s m args below meth c H locs 0 0 Q (F0 m pc ls [.int v])) : ∀ (n : Nat) (σ : hy_S) (x1 : Int32) (x3 : Int32) (x4 : Int32) (H : Heap) (locs : List Loc) (ls : Array Slot), fX0_canBear_19 n σ x1 x3 x4 = some o → hy_w cw G A s σ H locs → lv_has ls 6 [(0, .ref (G.2.2.2.1 5)), (1, .int x1), (3, .int x3), (4, .int x4)] → W p l e R s m args below meth c H locs 0 0 Q (F0 m 19 ls []) := by
  intro n
  induction n with
  | zero => intro σ x1 x3 x4 H locs ls hf; cases hf
  | succ n hk19 =>
    intro σ x1 x3 x4 H locs ls hf w hl
    unfold fX0_canBear_19 at hf
    refine lv_iload B.1.1 B.1.2.1 dX0_canBear_19 (lv_at hl 3 rfl) ?_
    refine lv_if_lt (tgt := 71) B.1.1 B.1.2.1 dX0_canBear_21 (by decide) (fun c1 => ?_) (fun c1 => ?_)
    · rw [if_pos c1] at hf
      refine lv_iconst (v := 1) B.1.1 B.1.2.1 dX0_canBear_71 (by decide) ?_
      exact hret _ _ _ _ _ _ (Option.some.inj hf).symm (Or.inr rfl) w dX0_canBear_72
    · rw [if_neg c1] at hf
      refine lv_aload_n B.1.1 B.1.2.1 dX0_canBear_24 rfl (lv_at hl 0 rfl) ?_
      refine hy_get (k := 1) (v := .ref (G.2.2.2.1 21)) B w (cwq_5 G) rfl in_X0_canBear_X0 (by decide) (by decide +kernel) rfl dX0_canBear_25 ?_
      refine lv_iload_n B.1.1 B.1.2.1 dX0_canBear_28 rfl (lv_at hl 1 rfl) ?_
      refine lv_bipush (v := 10) B.1.1 B.1.2.1 dX0_canBear_29 (by decide) ?_
      refine lv_imul B.1.1 B.1.2.1 dX0_canBear_31 ?_
      refine lv_iload B.1.1 B.1.2.1 dX0_canBear_32 (lv_at hl 3 rfl) ?_
      refine lv_iadd B.1.1 B.1.2.1 dX0_canBear_34 ?_
      obtain ⟨h4, v2, e3, hf⟩ := hy_ga_some hf
      refine hy_iald B w (cwq_21 G) h4 e3 dX0_canBear_35 ?_
      refine lv_istore (lv' := [(5, .int v2), (0, .ref (G.2.2.2.1 5)), (1, .int x1), (3, .int x3), (4, .int x4)]) B.1.1 B.1.2.1 dX0_canBear_36 hl (by decide) rfl (fun ls hl => ?_)
      refine lv_iload_n B.1.1 B.1.2.1 dX0_canBear_38 rfl (lv_at hl 3 rfl) ?_
      refine lv_aload_n B.1.1 B.1.2.1 dX0_canBear_39 rfl (lv_at hl 1 rfl) ?_
      refine hy_get (k := 0) (v := .ref (G.2.2.2.1 4)) B w (cwq_5 G) rfl in_X0_canBear_X0 (by decide) (by decide +kernel) rfl dX0_canBear_40 ?_
      refine lv_iload B.1.1 B.1.2.1 dX0_canBear_43 (lv_at hl 0 rfl) ?_
      obtain ⟨σ5, v6, h7, hf⟩ := hy_bd_some hf
      refine hy_cv (As := [.int v2]) (rest := [.int x3]) (o := (σ5, v6)) cw_fix hA B w (fun sz => mX1_bears l G sz σ v2 _ h7) (cwV 1 B.1.2.2.2.2 gX0_canBear_X1_bears rfl rfl rfl (by decide +kernel) ⟨by have := hR.1; show 0 + 1 ≤ _; omega, by have := hR.2; show 8 + (2 + 11) + 0 ≤ _; omega⟩) rfl (cwq_4 G σ) rfl hl.1 rfl (Nat.le_of_ble_eq_true rfl) dX0_canBear_45 ⟨Nat.zero_le _, Nat.zero_le _⟩ (fun H locs w => ?_)
      refine lv_icmp_le (tgt := 53) B.1.1 B.1.2.1 dX0_canBear_48 (by decide) (fun c8 => ?_) (fun c8 => ?_)
      · rw [if_pos c8] at hf
        refine lv_iload_n B.1.1 B.1.2.1 dX0_canBear_53 rfl (lv_at hl 3 rfl) ?_
        refine lv_aload_n B.1.1 B.1.2.1 dX0_canBear_54 rfl (lv_at hl 1 rfl) ?_
        refine hy_get (k := 0) (v := .ref (G.2.2.2.1 4)) B w (cwq_5 G) rfl in_X0_canBear_X0 (by decide) (by decide +kernel) rfl dX0_canBear_55 ?_
        refine lv_iload B.1.1 B.1.2.1 dX0_canBear_58 (lv_at hl 0 rfl) ?_
        obtain ⟨σ9, v10, h11, hf⟩ := hy_bd_some hf
        refine hy_cv (As := [.int v2]) (rest := [.int x3]) (o := (σ9, v10)) cw_fix hA B w (fun sz => mX1_weight l G sz σ5 v2 _ h11) (cwV 1 B.1.2.2.2.2 gX0_canBear_X1_weight rfl rfl rfl (by decide +kernel) ⟨by have := hR.1; show 0 + 1 ≤ _; omega, by have := hR.2; show 8 + (2 + 11) + 0 ≤ _; omega⟩) rfl (cwq_4 G σ5) rfl hl.1 rfl (Nat.le_of_ble_eq_true rfl) dX0_canBear_60 ⟨Nat.zero_le _, Nat.zero_le _⟩ (fun H locs w => ?_)
        refine lv_iadd B.1.1 B.1.2.1 dX0_canBear_63 ?_
        refine lv_istore_n (lv' := [(3, .int (x3 + v10)), (5, .int v2), (0, .ref (G.2.2.2.1 5)), (1, .int x1), (4, .int x4)]) B.1.1 B.1.2.1 dX0_canBear_64 rfl hl (by decide) rfl (fun ls hl => ?_)
        refine lv_iinc (v := (x4 + (-1))) (lv' := [(4, .int (x4 + (-1))), (3, .int (x3 + v10)), (5, .int v2), (0, .ref (G.2.2.2.1 5)), (1, .int x1)]) B.1.1 B.1.2.1 dX0_canBear_65 hl (k := 4) rfl rfl (by decide) rfl (fun ls hl => ?_)
        refine lv_goto (tgt := 19) B.1.1 B.1.2.1 dX0_canBear_68 (by decide) ?_
        exact hk19 _ _ _ _ _ _ _ hf w (lv_sub hl [3, 4, 1, 0] rfl)
      · rw [if_neg c8] at hf
        refine lv_iconst (v := 0) B.1.1 B.1.2.1 dX0_canBear_51 (by decide) ?_
        exact hret _ _ _ _ _ _ (Option.some.inj hf).symm (Or.inl rfl) w dX0_canBear_52
set_option maxHeartbeats 4000000 in
set_option maxRecDepth 100000 in
theorem bX0_canBear_0 (hA : ∀ q : Nat, s.heap.size ≤ q → A q) (B : hy_B RX0 cX0_canBear 6 wsX0_canBear G A p s m args c) (hR : 1 ≤ R.frames ∧ 21 ≤ R.locals) {o : hy_S × Int32}  (hret : ∀ (σ : hy_S) (v : Int32) (pc : Nat) (H : Heap) (locs : List Loc) (ls : Array Slot), o = (σ, v) → (v = 0 ∨ v = 1) → hy_w cw G A s σ H locs → decode cX0_canBear pc = .ok (.ireturn, 1) → W p l e R s m args below meth c H locs 0 0 Q (F0 m pc ls [.int v])) (σ : hy_S) (x1 : Int32) (x2 : Int32) (H : Heap) (locs : List Loc) (ls : Array Slot) (hf : fX0_canBear σ x1 x2 = some o) (w : hy_w cw G A s σ H locs) (hl : lv_has ls 6 [(0, .ref (G.2.2.2.1 5)), (1, .int x1), (2, .int x2)]) : W p l e R s m args below meth c H locs 0 0 Q (F0 m 0 ls []) := by
  unfold fX0_canBear at hf
  refine lv_aload_n B.1.1 B.1.2.1 dX0_canBear_0 rfl (lv_at hl 0 rfl) ?_
  refine hy_get (k := 0) (v := .ref (G.2.2.2.1 4)) B w (cwq_5 G) rfl in_X0_canBear_X0 (by decide) (by decide +kernel) rfl dX0_canBear_1 ?_
  refine lv_iload_n B.1.1 B.1.2.1 dX0_canBear_4 rfl (lv_at hl 2 rfl) ?_
  obtain ⟨σ1, v2, h3, hf⟩ := hy_bd_some hf
  refine hy_cv (As := [.int x2]) (rest := []) (o := (σ1, v2)) cw_fix hA B w (fun sz => mX1_weight l G sz σ x2 _ h3) (cwV 1 B.1.2.2.2.2 gX0_canBear_X1_weight rfl rfl rfl (by decide +kernel) ⟨by have := hR.1; show 0 + 1 ≤ _; omega, by have := hR.2; show 8 + (2 + 11) + 0 ≤ _; omega⟩) rfl (cwq_4 G σ) rfl hl.1 rfl (Nat.le_of_ble_eq_true rfl) dX0_canBear_5 ⟨Nat.zero_le _, Nat.zero_le _⟩ (fun H locs w => ?_)
  refine lv_istore_n (lv' := [(3, .int v2), (0, .ref (G.2.2.2.1 5)), (1, .int x1), (2, .int x2)]) B.1.1 B.1.2.1 dX0_canBear_8 rfl hl (by decide) rfl (fun ls hl => ?_)
  refine lv_aload_n B.1.1 B.1.2.1 dX0_canBear_9 rfl (lv_at hl 1 rfl) ?_
  refine hy_get (k := 2) (v := .ref (G.2.2.2.1 22)) B w (cwq_5 G) rfl in_X0_canBear_X0 (by decide) (by decide +kernel) rfl dX0_canBear_10 ?_
  refine lv_iload_n B.1.1 B.1.2.1 dX0_canBear_13 rfl (lv_at hl 2 rfl) ?_
  obtain ⟨h6, v4, e5, hf⟩ := hy_ga_some hf
  refine hy_iald B w (cwq_22 G) h6 e5 dX0_canBear_14 ?_
  refine lv_iconst (v := 1) B.1.1 B.1.2.1 dX0_canBear_15 (by decide) ?_
  refine lv_isub B.1.1 B.1.2.1 dX0_canBear_16 ?_
  refine lv_istore (lv' := [(4, .int (v4 - 1)), (3, .int v2), (0, .ref (G.2.2.2.1 5)), (1, .int x1), (2, .int x2)]) B.1.1 B.1.2.1 dX0_canBear_17 hl (by decide) rfl (fun ls hl => ?_)
  exact bX0_canBear_19 hA B hR  hret _ _ _ _ _ _ _ _ hf w (lv_sub hl [2, 3, 1, 0] rfl)
set_option maxHeartbeats 4000000 in
set_option maxRecDepth 100000 in
theorem mX0_canBear (l : Launch) (G : hy_G) (sz : Nat) (σ : hy_S) (x1 : Int32) (x2 : Int32) (o : hy_S × Int32) (hf : fX0_canBear σ x1 x2 = some o) : hy_M l yX0_canBear wsX0_canBear ({ frames := 1, cells := 0, slots := 0, locals := 21 }) cw G σ sz [.ref (G.2.2.2.1 5), .int x1, .int x2] o := by
  refine Met.ofW (cc := cX0_canBear) (maxL := 6) (ret := (some .boolean)) (by decide +kernel) rfl ?_
  intro p e s m args below meth c s₁ B hml hv
  obtain ⟨rfl, hsz, hP, hK, hD0, hN⟩ := hv
  have hx := B.exec
  have hb := B.bytes
  have hr := B.returns
  have hts := atoms_spec (ws := wsX0_canBear) B.pre
  have hown : s.vm.findClass RX0 = some m.cls := findClass_of_methodNamed B.named
  have hlocks := B.notSynchronized
  subst hsz
  have hD := hD0.self (sz := s.heap.size)
  have hA : ∀ q : Nat, s.heap.size ≤ q → va_A (cw G σ) s.heap.size q := fun q h => Or.inr h
  have hS : va_S (va_A (cw G σ) s.heap.size) s.heap s.heap [] := va_S.rf
  have hl := lv_entry ([.ref (G.2.2.2.1 5), .int x1, .int x2]) (n := 6) (Nat.le_of_ble_eq_true rfl)
  rw [lg_entry_eq]
  generalize (lg_sl ([.ref (G.2.2.2.1 5), .int x1, .int x2]) ++ List.replicate (6 - (lg_sl ([.ref (G.2.2.2.1 5), .int x1, .int x2])).length) Slot.unset).toArray = ls at hl ⊢
  have hl : lv_has ls 6 [(0, .ref (G.2.2.2.1 5)), (1, .int x1), (2, .int x2)] := hl
  refine bX0_canBear_0 (A := va_A (cw G σ) s.heap.size) hA ⟨⟨hx, hb, hml, hown, hts⟩, hK, hN⟩ ⟨Nat.le_of_ble_eq_true rfl, Nat.le_of_ble_eq_true rfl⟩ (o := o) (fun τ v pc H locs ls ho hz w d => ?_) σ x1 x2 _ _ _ hf ⟨hP, hD, hS⟩ hl
  exact W.zret hx hb hr (hy_bool hz) (fun t ht hW => ⟨⟨v, τ, rfl, ⟨by rw [ho], by rw [ho]⟩, by have h9 := w.1; rw [← ht] at h9; exact h9⟩, w.2.2.F ht⟩) w.2.2.2.2 d
theorem in_X0_put_X0 : ∀ w ∈ u_ws RX0 TX0 4, w ∈ wsX0_put := fun _ h => xt1 (xl (xl (xr (h))))
theorem in_X0_put_X1 : ∀ w ∈ u_ws RX1 TX1 8, w ∈ wsX0_put := fun _ h => xt1 (xl (xr (h)))
noncomputable def fX0_put (σ : hy_S) (x1 : Int32) (x2 : Int32) : Option (hy_S × Int32) := hy_ga σ 9 60 x1 (fun v1 => (if v1 = 0 then hy_ga σ 12 24 x2 (fun v5 => (if 10 ≤ v5 then some (σ, 0) else hy_bd (fX0_canBear σ x2 x1) (fun σ9 v10 => (if v10 = 0 then some (σ9, 0) else hy_bd (fX0_setTop σ9 x2 x1) (fun σ13 v14 => hy_bd (fX1_move σ13 x1 1 x2) (fun σ16 v17 => some (σ16, 1))))))) else some (σ, 0)))
set_option maxHeartbeats 4000000 in
set_option maxRecDepth 100000 in
theorem bX0_put_0 (hA : ∀ q : Nat, s.heap.size ≤ q → A q) (B : hy_B RX0 cX0_put 3 wsX0_put G A p s m args c) (hR : 2 ≤ R.frames ∧ 46 ≤ R.locals) {o : hy_S × Int32}  (hret : ∀ (σ : hy_S) (v : Int32) (pc : Nat) (H : Heap) (locs : List Loc) (ls : Array Slot), o = (σ, v) → (v = 0 ∨ v = 1) → hy_w cw G A s σ H locs → decode cX0_put pc = .ok (.ireturn, 1) → W p l e R s m args below meth c H locs 0 0 Q (F0 m pc ls [.int v])) (σ : hy_S) (x1 : Int32) (x2 : Int32) (H : Heap) (locs : List Loc) (ls : Array Slot) (hf : fX0_put σ x1 x2 = some o) (w : hy_w cw G A s σ H locs) (hl : lv_has ls 3 [(0, .ref (G.2.2.2.1 5)), (1, .int x1), (2, .int x2)]) : W p l e R s m args below meth c H locs 0 0 Q (F0 m 0 ls []) := by
  unfold fX0_put at hf
  refine lv_aload_n B.1.1 B.1.2.1 dX0_put_0 rfl (lv_at hl 0 rfl) ?_
  refine hy_get (k := 0) (v := .ref (G.2.2.2.1 4)) B w (cwq_5 G) rfl in_X0_put_X0 (by decide) (by decide +kernel) rfl dX0_put_1 ?_
  refine hy_getN (k := 5) (v := .ref (G.2.2.2.1 19)) B w (cwq_4 G) rfl in_X0_put_X1 (by decide) (by decide +kernel) rfl dX0_put_4 ?_
  refine lv_iload_n B.1.1 B.1.2.1 dX0_put_7 rfl (lv_at hl 1 rfl) ?_
  obtain ⟨h3, v1, e2, hf⟩ := hy_ga_some hf
  refine hy_iald B w (cwq_19 G) h3 e2 dX0_put_8 ?_
  refine lv_if_ne (tgt := 32) B.1.1 B.1.2.1 dX0_put_9 (by decide) (fun c4 => ?_) (fun c4 => ?_)
  · rw [if_neg c4] at hf
    refine lv_iconst (v := 0) B.1.1 B.1.2.1 dX0_put_32 (by decide) ?_
    exact hret _ _ _ _ _ _ (Option.some.inj hf).symm (Or.inl rfl) w dX0_put_33
  · rw [if_pos c4] at hf
    refine lv_aload_n B.1.1 B.1.2.1 dX0_put_12 rfl (lv_at hl 0 rfl) ?_
    refine hy_get (k := 2) (v := .ref (G.2.2.2.1 22)) B w (cwq_5 G) rfl in_X0_put_X0 (by decide) (by decide +kernel) rfl dX0_put_13 ?_
    refine lv_iload_n B.1.1 B.1.2.1 dX0_put_16 rfl (lv_at hl 2 rfl) ?_
    obtain ⟨h7, v5, e6, hf⟩ := hy_ga_some hf
    refine hy_iald B w (cwq_22 G) h7 e6 dX0_put_17 ?_
    refine lv_bipush (v := 10) B.1.1 B.1.2.1 dX0_put_18 (by decide) ?_
    refine lv_icmp_ge (tgt := 32) B.1.1 B.1.2.1 dX0_put_20 (by decide) (fun c8 => ?_) (fun c8 => ?_)
    · rw [if_pos c8] at hf
      refine lv_iconst (v := 0) B.1.1 B.1.2.1 dX0_put_32 (by decide) ?_
      exact hret _ _ _ _ _ _ (Option.some.inj hf).symm (Or.inl rfl) w dX0_put_33
    · rw [if_neg c8] at hf
      refine lv_aload_n B.1.1 B.1.2.1 dX0_put_23 rfl (lv_at hl 0 rfl) ?_
      refine lv_iload_n B.1.1 B.1.2.1 dX0_put_24 rfl (lv_at hl 2 rfl) ?_
      refine lv_iload_n B.1.1 B.1.2.1 dX0_put_25 rfl (lv_at hl 1 rfl) ?_
      obtain ⟨σ9, v10, h11, hf⟩ := hy_bd_some hf
      refine hy_cv (As := [.int x2, .int x1]) (rest := []) (o := (σ9, v10)) cw_fix hA B w (fun sz => mX0_canBear l G sz σ x2 x1 _ h11) (cwV 2 B.1.2.2.2.2 gX0_put_X0_canBear rfl rfl rfl (by decide +kernel) ⟨by have := hR.1; show 1 + 1 ≤ _; omega, by have := hR.2; show 8 + (6 + 11) + 21 ≤ _; omega⟩) rfl (cwq_5 G σ) rfl hl.1 rfl (Nat.le_of_ble_eq_true rfl) dX0_put_26 ⟨Nat.zero_le _, Nat.zero_le _⟩ (fun H locs w => ?_)
      refine lv_if_ne (tgt := 34) B.1.1 B.1.2.1 dX0_put_29 (by decide) (fun c12 => ?_) (fun c12 => ?_)
      · rw [if_neg c12] at hf
        refine lv_aload_n B.1.1 B.1.2.1 dX0_put_34 rfl (lv_at hl 0 rfl) ?_
        refine lv_iload_n B.1.1 B.1.2.1 dX0_put_35 rfl (lv_at hl 2 rfl) ?_
        refine lv_iload_n B.1.1 B.1.2.1 dX0_put_36 rfl (lv_at hl 1 rfl) ?_
        obtain ⟨σ13, v14, h15, hf⟩ := hy_bd_some hf
        refine hy_cvv (As := [.int x2, .int x1]) (rest := []) (o := (σ13, v14)) cw_fix hA B w (fun sz => mX0_setTop l G sz σ9 x2 x1 _ h15) (cwV 2 B.1.2.2.2.2 gX0_put_X0_setTop rfl rfl rfl (by decide +kernel) ⟨by have := hR.1; show 0 + 1 ≤ _; omega, by have := hR.2; show 8 + (3 + 11) + 0 ≤ _; omega⟩) rfl (cwq_5 G σ9) rfl hl.1 rfl (Nat.le_of_ble_eq_true rfl) dX0_put_37 ⟨Nat.zero_le _, Nat.zero_le _⟩ (fun H locs w => ?_)
        refine lv_aload_n B.1.1 B.1.2.1 dX0_put_40 rfl (lv_at hl 0 rfl) ?_
        refine hy_get (k := 0) (v := .ref (G.2.2.2.1 4)) B w (cwq_5 G) rfl in_X0_put_X0 (by decide) (by decide +kernel) rfl dX0_put_41 ?_
        refine lv_iload_n B.1.1 B.1.2.1 dX0_put_44 rfl (lv_at hl 1 rfl) ?_
        refine lv_iconst (v := 1) B.1.1 B.1.2.1 dX0_put_45 (by decide) ?_
        refine lv_iload_n B.1.1 B.1.2.1 dX0_put_46 rfl (lv_at hl 2 rfl) ?_
        obtain ⟨σ16, v17, h18, hf⟩ := hy_bd_some hf
        refine hy_cvv (As := [.int x1, .int 1, .int x2]) (rest := []) (o := (σ16, v17)) cw_fix hA B w (fun sz => mX1_move l G sz σ13 x1 1 x2 _ h18) (cwV 3 B.1.2.2.2.2 gX0_put_X1_move rfl rfl rfl (by decide +kernel) ⟨by have := hR.1; show 0 + 1 ≤ _; omega, by have := hR.2; show 8 + (4 + 11) + 0 ≤ _; omega⟩) rfl (cwq_4 G σ13) rfl hl.1 rfl (Nat.le_of_ble_eq_true rfl) dX0_put_47 ⟨Nat.zero_le _, Nat.zero_le _⟩ (fun H locs w => ?_)
        refine lv_iconst (v := 1) B.1.1 B.1.2.1 dX0_put_50 (by decide) ?_
        exact hret _ _ _ _ _ _ (Option.some.inj hf).symm (Or.inr rfl) w dX0_put_51
      · rw [if_pos c12] at hf
        refine lv_iconst (v := 0) B.1.1 B.1.2.1 dX0_put_32 (by decide) ?_
        exact hret _ _ _ _ _ _ (Option.some.inj hf).symm (Or.inl rfl) w dX0_put_33
set_option maxHeartbeats 4000000 in
set_option maxRecDepth 100000 in
theorem mX0_put (l : Launch) (G : hy_G) (sz : Nat) (σ : hy_S) (x1 : Int32) (x2 : Int32) (o : hy_S × Int32) (hf : fX0_put σ x1 x2 = some o) : hy_M l yX0_put wsX0_put ({ frames := 2, cells := 0, slots := 0, locals := 46 }) cw G σ sz [.ref (G.2.2.2.1 5), .int x1, .int x2] o := by
  refine Met.ofW (cc := cX0_put) (maxL := 3) (ret := (some .boolean)) (by decide +kernel) rfl ?_
  intro p e s m args below meth c s₁ B hml hv
  obtain ⟨rfl, hsz, hP, hK, hD0, hN⟩ := hv
  have hx := B.exec
  have hb := B.bytes
  have hr := B.returns
  have hts := atoms_spec (ws := wsX0_put) B.pre
  have hown : s.vm.findClass RX0 = some m.cls := findClass_of_methodNamed B.named
  have hlocks := B.notSynchronized
  subst hsz
  have hD := hD0.self (sz := s.heap.size)
  have hA : ∀ q : Nat, s.heap.size ≤ q → va_A (cw G σ) s.heap.size q := fun q h => Or.inr h
  have hS : va_S (va_A (cw G σ) s.heap.size) s.heap s.heap [] := va_S.rf
  have hl := lv_entry ([.ref (G.2.2.2.1 5), .int x1, .int x2]) (n := 3) (Nat.le_of_ble_eq_true rfl)
  rw [lg_entry_eq]
  generalize (lg_sl ([.ref (G.2.2.2.1 5), .int x1, .int x2]) ++ List.replicate (3 - (lg_sl ([.ref (G.2.2.2.1 5), .int x1, .int x2])).length) Slot.unset).toArray = ls at hl ⊢
  have hl : lv_has ls 3 [(0, .ref (G.2.2.2.1 5)), (1, .int x1), (2, .int x2)] := hl
  refine bX0_put_0 (A := va_A (cw G σ) s.heap.size) hA ⟨⟨hx, hb, hml, hown, hts⟩, hK, hN⟩ ⟨Nat.le_of_ble_eq_true rfl, Nat.le_of_ble_eq_true rfl⟩ (o := o) (fun τ v pc H locs ls ho hz w d => ?_) σ x1 x2 _ _ _ hf ⟨hP, hD, hS⟩ hl
  exact W.zret hx hb hr (hy_bool hz) (fun t ht hW => ⟨⟨v, τ, rfl, ⟨by rw [ho], by rw [ho]⟩, by have h9 := w.1; rw [← ht] at h9; exact h9⟩, w.2.2.F ht⟩) w.2.2.2.2 d
theorem in_X0_takeTop_X0 : ∀ w ∈ u_ws RX0 TX0 4, w ∈ wsX0_takeTop := fun _ h => xt1 (xl (xr (h)))
noncomputable def fX0_takeTop_39 (σ : hy_S) (x2 : Int32) : Option (hy_S × Int32) := some (σ, x2)
noncomputable def fX0_takeTop (σ : hy_S) (x1 : Int32) : Option (hy_S × Int32) := hy_ga σ 12 24 x1 (fun v1 => hy_bd (fX0_jarAt σ x1 (v1 - 1)) (fun σ4 v5 => (if v5 = (-1) then fX0_takeTop_39 σ4 v5 else hy_ga σ4 12 24 x1 (fun v8 => hy_pa σ4 12 24 x1 (v8 - 1) (fun σ11 => hy_bd (fX1_move σ11 v5 2 (-1)) (fun σ14 v15 => fX0_takeTop_39 σ14 v5))))))
set_option maxHeartbeats 4000000 in
set_option maxRecDepth 100000 in
theorem bX0_takeTop_39 (hA : ∀ q : Nat, s.heap.size ≤ q → A q) (B : hy_B RX0 cX0_takeTop 3 wsX0_takeTop G A p s m args c) (hR : 1 ≤ R.frames ∧ 23 ≤ R.locals) {o : hy_S × Int32}  (hret : ∀ (σ : hy_S) (v : Int32) (pc : Nat) (H : Heap) (locs : List Loc) (ls : Array Slot), o = (σ, v) → hy_w cw G A s σ H locs → decode cX0_takeTop pc = .ok (.ireturn, 1) → W p l e R s m args below meth c H locs 0 0 Q (F0 m pc ls [.int v])) (σ : hy_S) (x2 : Int32) (H : Heap) (locs : List Loc) (ls : Array Slot) (hf : fX0_takeTop_39 σ x2 = some o) (w : hy_w cw G A s σ H locs) (hl : lv_has ls 3 [(2, .int x2)]) : W p l e R s m args below meth c H locs 0 0 Q (F0 m 39 ls []) := by
  unfold fX0_takeTop_39 at hf
  refine lv_iload_n B.1.1 B.1.2.1 dX0_takeTop_39 rfl (lv_at hl 0 rfl) ?_
  exact hret _ _ _ _ _ _ (Option.some.inj hf).symm w dX0_takeTop_40
set_option maxHeartbeats 4000000 in
set_option maxRecDepth 100000 in
theorem bX0_takeTop_0 (hA : ∀ q : Nat, s.heap.size ≤ q → A q) (B : hy_B RX0 cX0_takeTop 3 wsX0_takeTop G A p s m args c) (hR : 1 ≤ R.frames ∧ 23 ≤ R.locals) {o : hy_S × Int32}  (hret : ∀ (σ : hy_S) (v : Int32) (pc : Nat) (H : Heap) (locs : List Loc) (ls : Array Slot), o = (σ, v) → hy_w cw G A s σ H locs → decode cX0_takeTop pc = .ok (.ireturn, 1) → W p l e R s m args below meth c H locs 0 0 Q (F0 m pc ls [.int v])) (σ : hy_S) (x1 : Int32) (H : Heap) (locs : List Loc) (ls : Array Slot) (hf : fX0_takeTop σ x1 = some o) (w : hy_w cw G A s σ H locs) (hl : lv_has ls 3 [(0, .ref (G.2.2.2.1 5)), (1, .int x1)]) : W p l e R s m args below meth c H locs 0 0 Q (F0 m 0 ls []) := by
  unfold fX0_takeTop at hf
  refine lv_aload_n B.1.1 B.1.2.1 dX0_takeTop_0 rfl (lv_at hl 0 rfl) ?_
  refine lv_iload_n B.1.1 B.1.2.1 dX0_takeTop_1 rfl (lv_at hl 1 rfl) ?_
  refine lv_aload_n B.1.1 B.1.2.1 dX0_takeTop_2 rfl (lv_at hl 0 rfl) ?_
  refine hy_get (k := 2) (v := .ref (G.2.2.2.1 22)) B w (cwq_5 G) rfl in_X0_takeTop_X0 (by decide) (by decide +kernel) rfl dX0_takeTop_3 ?_
  refine lv_iload_n B.1.1 B.1.2.1 dX0_takeTop_6 rfl (lv_at hl 1 rfl) ?_
  obtain ⟨h3, v1, e2, hf⟩ := hy_ga_some hf
  refine hy_iald B w (cwq_22 G) h3 e2 dX0_takeTop_7 ?_
  refine lv_iconst (v := 1) B.1.1 B.1.2.1 dX0_takeTop_8 (by decide) ?_
  refine lv_isub B.1.1 B.1.2.1 dX0_takeTop_9 ?_
  obtain ⟨σ4, v5, h6, hf⟩ := hy_bd_some hf
  refine hy_cv (As := [.int x1, .int (v1 - 1)]) (rest := []) (o := (σ4, v5)) cw_fix hA B w (fun sz => mX0_jarAt l G sz σ x1 (v1 - 1) _ h6) (cwV 2 B.1.2.2.2.2 gX0_takeTop_X0_jarAt rfl rfl rfl (by decide +kernel) ⟨by have := hR.1; show 0 + 1 ≤ _; omega, by have := hR.2; show 8 + (3 + 11) + 0 ≤ _; omega⟩) rfl (cwq_5 G σ) rfl hl.1 rfl (Nat.le_of_ble_eq_true rfl) dX0_takeTop_10 ⟨Nat.zero_le _, Nat.zero_le _⟩ (fun H locs w => ?_)
  refine lv_istore_n (lv' := [(2, .int v5), (0, .ref (G.2.2.2.1 5)), (1, .int x1)]) B.1.1 B.1.2.1 dX0_takeTop_13 rfl hl (by decide) rfl (fun ls hl => ?_)
  refine lv_iload_n B.1.1 B.1.2.1 dX0_takeTop_14 rfl (lv_at hl 0 rfl) ?_
  refine lv_iconst (v := (-1)) B.1.1 B.1.2.1 dX0_takeTop_15 (by decide) ?_
  refine lv_icmp_eq (tgt := 39) B.1.1 B.1.2.1 dX0_takeTop_16 (by decide) (fun c7 => ?_) (fun c7 => ?_)
  · rw [if_pos c7] at hf
    exact bX0_takeTop_39 hA B hR  hret _ _ _ _ _ hf w (lv_sub hl [0] rfl)
  · rw [if_neg c7] at hf
    refine lv_aload_n B.1.1 B.1.2.1 dX0_takeTop_19 rfl (lv_at hl 1 rfl) ?_
    refine hy_get (k := 2) (v := .ref (G.2.2.2.1 22)) B w (cwq_5 G) rfl in_X0_takeTop_X0 (by decide) (by decide +kernel) rfl dX0_takeTop_20 ?_
    refine lv_iload_n B.1.1 B.1.2.1 dX0_takeTop_23 rfl (lv_at hl 2 rfl) ?_
    refine lv_dup2_11 B.1.1 B.1.2.1 dX0_takeTop_24 rfl rfl ?_
    obtain ⟨h10, v8, e9, hf⟩ := hy_ga_some hf
    refine hy_iald B w (cwq_22 G) h10 e9 dX0_takeTop_25 ?_
    refine lv_iconst (v := 1) B.1.1 B.1.2.1 dX0_takeTop_26 (by decide) ?_
    refine lv_isub B.1.1 B.1.2.1 dX0_takeTop_27 ?_
    obtain ⟨h13, σ11, e12, hf⟩ := hy_pa_some hf
    refine hy_iast B w (cwq_22 G) (cws_22 G) h13 e12 dX0_takeTop_28 (fun H locs w => ?_)
    refine lv_aload_n B.1.1 B.1.2.1 dX0_takeTop_29 rfl (lv_at hl 1 rfl) ?_
    refine hy_get (k := 0) (v := .ref (G.2.2.2.1 4)) B w (cwq_5 G) rfl in_X0_takeTop_X0 (by decide) (by decide +kernel) rfl dX0_takeTop_30 ?_
    refine lv_iload_n B.1.1 B.1.2.1 dX0_takeTop_33 rfl (lv_at hl 0 rfl) ?_
    refine lv_iconst (v := 2) B.1.1 B.1.2.1 dX0_takeTop_34 (by decide) ?_
    refine lv_iconst (v := (-1)) B.1.1 B.1.2.1 dX0_takeTop_35 (by decide) ?_
    obtain ⟨σ14, v15, h16, hf⟩ := hy_bd_some hf
    refine hy_cvv (As := [.int v5, .int 2, .int (-1)]) (rest := []) (o := (σ14, v15)) cw_fix hA B w (fun sz => mX1_move l G sz σ11 v5 2 (-1) _ h16) (cwV 3 B.1.2.2.2.2 gX0_takeTop_X1_move rfl rfl rfl (by decide +kernel) ⟨by have := hR.1; show 0 + 1 ≤ _; omega, by have := hR.2; show 8 + (4 + 11) + 0 ≤ _; omega⟩) rfl (cwq_4 G σ11) rfl hl.1 rfl (Nat.le_of_ble_eq_true rfl) dX0_takeTop_36 ⟨Nat.zero_le _, Nat.zero_le _⟩ (fun H locs w => ?_)
    exact bX0_takeTop_39 hA B hR  hret _ _ _ _ _ hf w (lv_sub hl [0] rfl)
set_option maxHeartbeats 4000000 in
set_option maxRecDepth 100000 in
theorem mX0_takeTop (l : Launch) (G : hy_G) (sz : Nat) (σ : hy_S) (x1 : Int32) (o : hy_S × Int32) (hf : fX0_takeTop σ x1 = some o) : hy_M l yX0_takeTop wsX0_takeTop ({ frames := 1, cells := 0, slots := 0, locals := 23 }) cw G σ sz [.ref (G.2.2.2.1 5), .int x1] o := by
  refine Met.ofW (cc := cX0_takeTop) (maxL := 3) (ret := (some .int)) (by decide +kernel) rfl ?_
  intro p e s m args below meth c s₁ B hml hv
  obtain ⟨rfl, hsz, hP, hK, hD0, hN⟩ := hv
  have hx := B.exec
  have hb := B.bytes
  have hr := B.returns
  have hts := atoms_spec (ws := wsX0_takeTop) B.pre
  have hown : s.vm.findClass RX0 = some m.cls := findClass_of_methodNamed B.named
  have hlocks := B.notSynchronized
  subst hsz
  have hD := hD0.self (sz := s.heap.size)
  have hA : ∀ q : Nat, s.heap.size ≤ q → va_A (cw G σ) s.heap.size q := fun q h => Or.inr h
  have hS : va_S (va_A (cw G σ) s.heap.size) s.heap s.heap [] := va_S.rf
  have hl := lv_entry ([.ref (G.2.2.2.1 5), .int x1]) (n := 3) (Nat.le_of_ble_eq_true rfl)
  rw [lg_entry_eq]
  generalize (lg_sl ([.ref (G.2.2.2.1 5), .int x1]) ++ List.replicate (3 - (lg_sl ([.ref (G.2.2.2.1 5), .int x1])).length) Slot.unset).toArray = ls at hl ⊢
  have hl : lv_has ls 3 [(0, .ref (G.2.2.2.1 5)), (1, .int x1)] := hl
  refine bX0_takeTop_0 (A := va_A (cw G σ) s.heap.size) hA ⟨⟨hx, hb, hml, hown, hts⟩, hK, hN⟩ ⟨Nat.le_of_ble_eq_true rfl, Nat.le_of_ble_eq_true rfl⟩ (o := o) (fun τ v pc H locs ls ho w d => ?_) σ x1 _ _ _ hf ⟨hP, hD, hS⟩ hl
  exact W.iret hx hb hr (fun t ht hW => ⟨⟨v, τ, rfl, ⟨by rw [ho], by rw [ho]⟩, by have h9 := w.1; rw [← ht] at h9; exact h9⟩, w.2.2.F ht⟩) w.2.2.2.2 d
theorem in_X0_weightAbove_X0 : ∀ w ∈ u_ws RX0 TX0 4, w ∈ wsX0_weightAbove := fun _ h => xt1 (xl (xl (xr (h))))
theorem in_X0_weightAbove_X1 : ∀ w ∈ u_ws RX1 TX1 8, w ∈ wsX0_weightAbove := fun _ h => xt1 (xl (xr (h)))
noncomputable def fX0_weightAbove_75 (σ : hy_S) (x3 : Int32) : Option (hy_S × Int32) := some (σ, x3)
noncomputable def fX0_weightAbove_29 : Nat → hy_S → Int32 → Int32 → Int32 → Int32 → Option (hy_S × Int32)
  | 0, _, _, _, _, _ => none
  | n + 1, σ, x1, x2, x3, x4 => (if x4 < 0 then fX0_weightAbove_75 σ x3 else hy_ga σ 11 240 ((x2 * 10) + x4) (fun v2 => (if v2 = x1 then fX0_weightAbove_75 σ x3 else hy_bd (fX1_weight σ v2) (fun σ6 v7 => (fX0_weightAbove_29 n) σ6 x1 x2 (x3 + v7) (x4 + (-1))))))
noncomputable def fX0_weightAbove (σ : hy_S) (x1 : Int32) : Option (hy_S × Int32) := hy_ga σ 10 60 x1 (fun v1 => (if v1 = (-1) then some (σ, 0) else hy_ga σ 12 24 v1 (fun v5 => fX0_weightAbove_29 hy_fu σ x1 v1 0 (v5 - 1))))
set_option maxHeartbeats 4000000 in
set_option maxRecDepth 100000 in
theorem bX0_weightAbove_75 (hA : ∀ q : Nat, s.heap.size ≤ q → A q) (B : hy_B RX0 cX0_weightAbove 6 wsX0_weightAbove G A p s m args c) (hR : 1 ≤ R.frames ∧ 21 ≤ R.locals) {o : hy_S × Int32}  (hret : ∀ (σ : hy_S) (v : Int32) (pc : Nat) (H : Heap) (locs : List Loc) (ls : Array Slot), o = (σ, v) → hy_w cw G A s σ H locs → decode cX0_weightAbove pc = .ok (.ireturn, 1) → W p l e R s m args below meth c H locs 0 0 Q (F0 m pc ls [.int v])) (σ : hy_S) (x3 : Int32) (H : Heap) (locs : List Loc) (ls : Array Slot) (hf : fX0_weightAbove_75 σ x3 = some o) (w : hy_w cw G A s σ H locs) (hl : lv_has ls 6 [(3, .int x3)]) : W p l e R s m args below meth c H locs 0 0 Q (F0 m 75 ls []) := by
  unfold fX0_weightAbove_75 at hf
  refine lv_iload_n B.1.1 B.1.2.1 dX0_weightAbove_75 rfl (lv_at hl 0 rfl) ?_
  exact hret _ _ _ _ _ _ (Option.some.inj hf).symm w dX0_weightAbove_76
set_option maxHeartbeats 4000000 in
set_option maxRecDepth 100000 in
theorem bX0_weightAbove_29 (hA : ∀ q : Nat, s.heap.size ≤ q → A q) (B : hy_B RX0 cX0_weightAbove 6 wsX0_weightAbove G A p s m args c) (hR : 1 ≤ R.frames ∧ 21 ≤ R.locals) {o : hy_S × Int32}  (hret : ∀ (σ : hy_S) (v : Int32) (pc : Nat) (H : Heap) (locs : List Loc) (ls : Array Slot), o = (σ, v) → hy_w cw G A s σ H locs → decode cX0_weightAbove pc = .ok (.ireturn, 1) → W p l e R s m args below meth c H locs 0 0 Q (F0 m pc ls [.int v])) : ∀ (n : Nat) (σ : hy_S) (x1 : Int32) (x2 : Int32) (x3 : Int32) (x4 : Int32) (H : Heap) (locs : List Loc) (ls : Array Slot), fX0_weightAbove_29 n σ x1 x2 x3 x4 = some o → hy_w cw G A s σ H locs → lv_has ls 6 [(0, .ref (G.2.2.2.1 5)), (1, .int x1), (2, .int x2), (3, .int x3), (4, .int x4)] → W p l e R s m args below meth c H locs 0 0 Q (F0 m 29 ls []) := by
  intro n
  induction n with
  | zero => intro σ x1 x2 x3 x4 H locs ls hf; cases hf
  | succ n hk29 =>
    intro σ x1 x2 x3 x4 H locs ls hf w hl
    unfold fX0_weightAbove_29 at hf
    refine lv_iload B.1.1 B.1.2.1 dX0_weightAbove_29 (lv_at hl 4 rfl) ?_
    refine lv_if_lt (tgt := 75) B.1.1 B.1.2.1 dX0_weightAbove_31 (by decide) (fun c1 => ?_) (fun c1 => ?_)
    · rw [if_pos c1] at hf
      exact bX0_weightAbove_75 hA B hR  hret _ _ _ _ _ hf w (lv_sub hl [3] rfl)
    · rw [if_neg c1] at hf
      refine lv_aload_n B.1.1 B.1.2.1 dX0_weightAbove_34 rfl (lv_at hl 0 rfl) ?_
      refine hy_get (k := 1) (v := .ref (G.2.2.2.1 21)) B w (cwq_5 G) rfl in_X0_weightAbove_X0 (by decide) (by decide +kernel) rfl dX0_weightAbove_35 ?_
      refine lv_iload_n B.1.1 B.1.2.1 dX0_weightAbove_38 rfl (lv_at hl 2 rfl) ?_
      refine lv_bipush (v := 10) B.1.1 B.1.2.1 dX0_weightAbove_39 (by decide) ?_
      refine lv_imul B.1.1 B.1.2.1 dX0_weightAbove_41 ?_
      refine lv_iload B.1.1 B.1.2.1 dX0_weightAbove_42 (lv_at hl 4 rfl) ?_
      refine lv_iadd B.1.1 B.1.2.1 dX0_weightAbove_44 ?_
      obtain ⟨h4, v2, e3, hf⟩ := hy_ga_some hf
      refine hy_iald B w (cwq_21 G) h4 e3 dX0_weightAbove_45 ?_
      refine lv_istore (lv' := [(5, .int v2), (0, .ref (G.2.2.2.1 5)), (1, .int x1), (2, .int x2), (3, .int x3), (4, .int x4)]) B.1.1 B.1.2.1 dX0_weightAbove_46 hl (by decide) rfl (fun ls hl => ?_)
      refine lv_iload B.1.1 B.1.2.1 dX0_weightAbove_48 (lv_at hl 0 rfl) ?_
      refine lv_iload_n B.1.1 B.1.2.1 dX0_weightAbove_50 rfl (lv_at hl 2 rfl) ?_
      refine lv_icmp_ne (tgt := 57) B.1.1 B.1.2.1 dX0_weightAbove_51 (by decide) (fun c5 => ?_) (fun c5 => ?_)
      · rw [if_neg c5] at hf
        refine lv_iload_n B.1.1 B.1.2.1 dX0_weightAbove_57 rfl (lv_at hl 4 rfl) ?_
        refine lv_aload_n B.1.1 B.1.2.1 dX0_weightAbove_58 rfl (lv_at hl 1 rfl) ?_
        refine hy_get (k := 0) (v := .ref (G.2.2.2.1 4)) B w (cwq_5 G) rfl in_X0_weightAbove_X0 (by decide) (by decide +kernel) rfl dX0_weightAbove_59 ?_
        refine lv_iload B.1.1 B.1.2.1 dX0_weightAbove_62 (lv_at hl 0 rfl) ?_
        obtain ⟨σ6, v7, h8, hf⟩ := hy_bd_some hf
        refine hy_cv (As := [.int v2]) (rest := [.int x3]) (o := (σ6, v7)) cw_fix hA B w (fun sz => mX1_weight l G sz σ v2 _ h8) (cwV 1 B.1.2.2.2.2 gX0_weightAbove_X1_weight rfl rfl rfl (by decide +kernel) ⟨by have := hR.1; show 0 + 1 ≤ _; omega, by have := hR.2; show 8 + (2 + 11) + 0 ≤ _; omega⟩) rfl (cwq_4 G σ) rfl hl.1 rfl (Nat.le_of_ble_eq_true rfl) dX0_weightAbove_64 ⟨Nat.zero_le _, Nat.zero_le _⟩ (fun H locs w => ?_)
        refine lv_iadd B.1.1 B.1.2.1 dX0_weightAbove_67 ?_
        refine lv_istore_n (lv' := [(3, .int (x3 + v7)), (5, .int v2), (0, .ref (G.2.2.2.1 5)), (1, .int x1), (2, .int x2), (4, .int x4)]) B.1.1 B.1.2.1 dX0_weightAbove_68 rfl hl (by decide) rfl (fun ls hl => ?_)
        refine lv_iinc (v := (x4 + (-1))) (lv' := [(4, .int (x4 + (-1))), (3, .int (x3 + v7)), (5, .int v2), (0, .ref (G.2.2.2.1 5)), (1, .int x1), (2, .int x2)]) B.1.1 B.1.2.1 dX0_weightAbove_69 hl (k := 5) rfl rfl (by decide) rfl (fun ls hl => ?_)
        refine lv_goto (tgt := 29) B.1.1 B.1.2.1 dX0_weightAbove_72 (by decide) ?_
        exact hk29 _ _ _ _ _ _ _ _ hf w (lv_sub hl [3, 4, 5, 1, 0] rfl)
      · rw [if_pos c5] at hf
        refine lv_goto (tgt := 75) B.1.1 B.1.2.1 dX0_weightAbove_54 (by decide) ?_
        exact bX0_weightAbove_75 hA B hR  hret _ _ _ _ _ hf w (lv_sub hl [4] rfl)
set_option maxHeartbeats 4000000 in
set_option maxRecDepth 100000 in
theorem bX0_weightAbove_0 (hA : ∀ q : Nat, s.heap.size ≤ q → A q) (B : hy_B RX0 cX0_weightAbove 6 wsX0_weightAbove G A p s m args c) (hR : 1 ≤ R.frames ∧ 21 ≤ R.locals) {o : hy_S × Int32}  (hret : ∀ (σ : hy_S) (v : Int32) (pc : Nat) (H : Heap) (locs : List Loc) (ls : Array Slot), o = (σ, v) → hy_w cw G A s σ H locs → decode cX0_weightAbove pc = .ok (.ireturn, 1) → W p l e R s m args below meth c H locs 0 0 Q (F0 m pc ls [.int v])) (σ : hy_S) (x1 : Int32) (H : Heap) (locs : List Loc) (ls : Array Slot) (hf : fX0_weightAbove σ x1 = some o) (w : hy_w cw G A s σ H locs) (hl : lv_has ls 6 [(0, .ref (G.2.2.2.1 5)), (1, .int x1)]) : W p l e R s m args below meth c H locs 0 0 Q (F0 m 0 ls []) := by
  unfold fX0_weightAbove at hf
  refine lv_aload_n B.1.1 B.1.2.1 dX0_weightAbove_0 rfl (lv_at hl 0 rfl) ?_
  refine hy_get (k := 0) (v := .ref (G.2.2.2.1 4)) B w (cwq_5 G) rfl in_X0_weightAbove_X0 (by decide) (by decide +kernel) rfl dX0_weightAbove_1 ?_
  refine hy_getN (k := 6) (v := .ref (G.2.2.2.1 20)) B w (cwq_4 G) rfl in_X0_weightAbove_X1 (by decide) (by decide +kernel) rfl dX0_weightAbove_4 ?_
  refine lv_iload_n B.1.1 B.1.2.1 dX0_weightAbove_7 rfl (lv_at hl 1 rfl) ?_
  obtain ⟨h3, v1, e2, hf⟩ := hy_ga_some hf
  refine hy_iald B w (cwq_20 G) h3 e2 dX0_weightAbove_8 ?_
  refine lv_istore_n (lv' := [(2, .int v1), (0, .ref (G.2.2.2.1 5)), (1, .int x1)]) B.1.1 B.1.2.1 dX0_weightAbove_9 rfl hl (by decide) rfl (fun ls hl => ?_)
  refine lv_iload_n B.1.1 B.1.2.1 dX0_weightAbove_10 rfl (lv_at hl 0 rfl) ?_
  refine lv_iconst (v := (-1)) B.1.1 B.1.2.1 dX0_weightAbove_11 (by decide) ?_
  refine lv_icmp_ne (tgt := 17) B.1.1 B.1.2.1 dX0_weightAbove_12 (by decide) (fun c4 => ?_) (fun c4 => ?_)
  · rw [if_neg c4] at hf
    refine lv_iconst (v := 0) B.1.1 B.1.2.1 dX0_weightAbove_17 (by decide) ?_
    refine lv_istore_n (lv' := [(3, .int 0), (2, .int v1), (0, .ref (G.2.2.2.1 5)), (1, .int x1)]) B.1.1 B.1.2.1 dX0_weightAbove_18 rfl hl (by decide) rfl (fun ls hl => ?_)
    refine lv_aload_n B.1.1 B.1.2.1 dX0_weightAbove_19 rfl (lv_at hl 2 rfl) ?_
    refine hy_get (k := 2) (v := .ref (G.2.2.2.1 22)) B w (cwq_5 G) rfl in_X0_weightAbove_X0 (by decide) (by decide +kernel) rfl dX0_weightAbove_20 ?_
    refine lv_iload_n B.1.1 B.1.2.1 dX0_weightAbove_23 rfl (lv_at hl 1 rfl) ?_
    obtain ⟨h7, v5, e6, hf⟩ := hy_ga_some hf
    refine hy_iald B w (cwq_22 G) h7 e6 dX0_weightAbove_24 ?_
    refine lv_iconst (v := 1) B.1.1 B.1.2.1 dX0_weightAbove_25 (by decide) ?_
    refine lv_isub B.1.1 B.1.2.1 dX0_weightAbove_26 ?_
    refine lv_istore (lv' := [(4, .int (v5 - 1)), (3, .int 0), (2, .int v1), (0, .ref (G.2.2.2.1 5)), (1, .int x1)]) B.1.1 B.1.2.1 dX0_weightAbove_27 hl (by decide) rfl (fun ls hl => ?_)
    exact bX0_weightAbove_29 hA B hR  hret _ _ _ _ _ _ _ _ _ hf w (lv_sub hl [3, 4, 2, 1, 0] rfl)
  · rw [if_pos c4] at hf
    refine lv_iconst (v := 0) B.1.1 B.1.2.1 dX0_weightAbove_15 (by decide) ?_
    exact hret _ _ _ _ _ _ (Option.some.inj hf).symm w dX0_weightAbove_16
set_option maxHeartbeats 4000000 in
set_option maxRecDepth 100000 in
theorem mX0_weightAbove (l : Launch) (G : hy_G) (sz : Nat) (σ : hy_S) (x1 : Int32) (o : hy_S × Int32) (hf : fX0_weightAbove σ x1 = some o) : hy_M l yX0_weightAbove wsX0_weightAbove ({ frames := 1, cells := 0, slots := 0, locals := 21 }) cw G σ sz [.ref (G.2.2.2.1 5), .int x1] o := by
  refine Met.ofW (cc := cX0_weightAbove) (maxL := 6) (ret := (some .int)) (by decide +kernel) rfl ?_
  intro p e s m args below meth c s₁ B hml hv
  obtain ⟨rfl, hsz, hP, hK, hD0, hN⟩ := hv
  have hx := B.exec
  have hb := B.bytes
  have hr := B.returns
  have hts := atoms_spec (ws := wsX0_weightAbove) B.pre
  have hown : s.vm.findClass RX0 = some m.cls := findClass_of_methodNamed B.named
  have hlocks := B.notSynchronized
  subst hsz
  have hD := hD0.self (sz := s.heap.size)
  have hA : ∀ q : Nat, s.heap.size ≤ q → va_A (cw G σ) s.heap.size q := fun q h => Or.inr h
  have hS : va_S (va_A (cw G σ) s.heap.size) s.heap s.heap [] := va_S.rf
  have hl := lv_entry ([.ref (G.2.2.2.1 5), .int x1]) (n := 6) (Nat.le_of_ble_eq_true rfl)
  rw [lg_entry_eq]
  generalize (lg_sl ([.ref (G.2.2.2.1 5), .int x1]) ++ List.replicate (6 - (lg_sl ([.ref (G.2.2.2.1 5), .int x1])).length) Slot.unset).toArray = ls at hl ⊢
  have hl : lv_has ls 6 [(0, .ref (G.2.2.2.1 5)), (1, .int x1)] := hl
  refine bX0_weightAbove_0 (A := va_A (cw G σ) s.heap.size) hA ⟨⟨hx, hb, hml, hown, hts⟩, hK, hN⟩ ⟨Nat.le_of_ble_eq_true rfl, Nat.le_of_ble_eq_true rfl⟩ (o := o) (fun τ v pc H locs ls ho w d => ?_) σ x1 _ _ _ hf ⟨hP, hD, hS⟩ hl
  exact W.iret hx hb hr (fun t ht hW => ⟨⟨v, τ, rfl, ⟨by rw [ho], by rw [ho]⟩, by have h9 := w.1; rw [← ht] at h9; exact h9⟩, w.2.2.F ht⟩) w.2.2.2.2 d
theorem in_X0_bearsInStorm_X0 : ∀ w ∈ u_ws RX0 TX0 4, w ∈ wsX0_bearsInStorm := fun _ h => xt1 (xl (xl (xr (h))))
noncomputable def fX0_bearsInStorm (σ : hy_S) (x1 : Int32) (x2 : Int32) : Option (hy_S × Int32) := hy_bd (fX1_bears σ x1) (fun σ1 v2 => some (σ1, (v2 - (((v2 * x2) + 99) / 100))))
set_option maxHeartbeats 4000000 in
set_option maxRecDepth 100000 in
theorem bX0_bearsInStorm_0 (hA : ∀ q : Nat, s.heap.size ≤ q → A q) (B : hy_B RX0 cX0_bearsInStorm 4 wsX0_bearsInStorm G A p s m args c) (hR : 1 ≤ R.frames ∧ 21 ≤ R.locals) {o : hy_S × Int32}  (hret : ∀ (σ : hy_S) (v : Int32) (pc : Nat) (H : Heap) (locs : List Loc) (ls : Array Slot), o = (σ, v) → hy_w cw G A s σ H locs → decode cX0_bearsInStorm pc = .ok (.ireturn, 1) → W p l e R s m args below meth c H locs 0 0 Q (F0 m pc ls [.int v])) (σ : hy_S) (x1 : Int32) (x2 : Int32) (H : Heap) (locs : List Loc) (ls : Array Slot) (hf : fX0_bearsInStorm σ x1 x2 = some o) (w : hy_w cw G A s σ H locs) (hl : lv_has ls 4 [(0, .ref (G.2.2.2.1 5)), (1, .int x1), (2, .int x2)]) : W p l e R s m args below meth c H locs 0 0 Q (F0 m 0 ls []) := by
  unfold fX0_bearsInStorm at hf
  refine lv_aload_n B.1.1 B.1.2.1 dX0_bearsInStorm_0 rfl (lv_at hl 0 rfl) ?_
  refine hy_get (k := 0) (v := .ref (G.2.2.2.1 4)) B w (cwq_5 G) rfl in_X0_bearsInStorm_X0 (by decide) (by decide +kernel) rfl dX0_bearsInStorm_1 ?_
  refine lv_iload_n B.1.1 B.1.2.1 dX0_bearsInStorm_4 rfl (lv_at hl 1 rfl) ?_
  obtain ⟨σ1, v2, h3, hf⟩ := hy_bd_some hf
  refine hy_cv (As := [.int x1]) (rest := []) (o := (σ1, v2)) cw_fix hA B w (fun sz => mX1_bears l G sz σ x1 _ h3) (cwV 1 B.1.2.2.2.2 gX0_bearsInStorm_X1_bears rfl rfl rfl (by decide +kernel) ⟨by have := hR.1; show 0 + 1 ≤ _; omega, by have := hR.2; show 8 + (2 + 11) + 0 ≤ _; omega⟩) rfl (cwq_4 G σ) rfl hl.1 rfl (Nat.le_of_ble_eq_true rfl) dX0_bearsInStorm_5 ⟨Nat.zero_le _, Nat.zero_le _⟩ (fun H locs w => ?_)
  refine lv_istore_n (lv' := [(3, .int v2), (0, .ref (G.2.2.2.1 5)), (1, .int x1), (2, .int x2)]) B.1.1 B.1.2.1 dX0_bearsInStorm_8 rfl hl (by decide) rfl (fun ls hl => ?_)
  refine lv_iload_n B.1.1 B.1.2.1 dX0_bearsInStorm_9 rfl (lv_at hl 0 rfl) ?_
  refine lv_iload_n B.1.1 B.1.2.1 dX0_bearsInStorm_10 rfl (lv_at hl 0 rfl) ?_
  refine lv_iload_n B.1.1 B.1.2.1 dX0_bearsInStorm_11 rfl (lv_at hl 3 rfl) ?_
  refine lv_imul B.1.1 B.1.2.1 dX0_bearsInStorm_12 ?_
  refine lv_bipush (v := 99) B.1.1 B.1.2.1 dX0_bearsInStorm_13 (by decide) ?_
  refine lv_iadd B.1.1 B.1.2.1 dX0_bearsInStorm_15 ?_
  refine lv_bipush (v := 100) B.1.1 B.1.2.1 dX0_bearsInStorm_16 (by decide) ?_
  refine lv_idiv B.1.1 B.1.2.1 dX0_bearsInStorm_18 (by decide) ?_
  refine lv_isub B.1.1 B.1.2.1 dX0_bearsInStorm_19 ?_
  exact hret _ _ _ _ _ _ (Option.some.inj hf).symm w dX0_bearsInStorm_20
set_option maxHeartbeats 4000000 in
set_option maxRecDepth 100000 in
theorem mX0_bearsInStorm (l : Launch) (G : hy_G) (sz : Nat) (σ : hy_S) (x1 : Int32) (x2 : Int32) (o : hy_S × Int32) (hf : fX0_bearsInStorm σ x1 x2 = some o) : hy_M l yX0_bearsInStorm wsX0_bearsInStorm ({ frames := 1, cells := 0, slots := 0, locals := 21 }) cw G σ sz [.ref (G.2.2.2.1 5), .int x1, .int x2] o := by
  refine Met.ofW (cc := cX0_bearsInStorm) (maxL := 4) (ret := (some .int)) (by decide +kernel) rfl ?_
  intro p e s m args below meth c s₁ B hml hv
  obtain ⟨rfl, hsz, hP, hK, hD0, hN⟩ := hv
  have hx := B.exec
  have hb := B.bytes
  have hr := B.returns
  have hts := atoms_spec (ws := wsX0_bearsInStorm) B.pre
  have hown : s.vm.findClass RX0 = some m.cls := findClass_of_methodNamed B.named
  have hlocks := B.notSynchronized
  subst hsz
  have hD := hD0.self (sz := s.heap.size)
  have hA : ∀ q : Nat, s.heap.size ≤ q → va_A (cw G σ) s.heap.size q := fun q h => Or.inr h
  have hS : va_S (va_A (cw G σ) s.heap.size) s.heap s.heap [] := va_S.rf
  have hl := lv_entry ([.ref (G.2.2.2.1 5), .int x1, .int x2]) (n := 4) (Nat.le_of_ble_eq_true rfl)
  rw [lg_entry_eq]
  generalize (lg_sl ([.ref (G.2.2.2.1 5), .int x1, .int x2]) ++ List.replicate (4 - (lg_sl ([.ref (G.2.2.2.1 5), .int x1, .int x2])).length) Slot.unset).toArray = ls at hl ⊢
  have hl : lv_has ls 4 [(0, .ref (G.2.2.2.1 5)), (1, .int x1), (2, .int x2)] := hl
  refine bX0_bearsInStorm_0 (A := va_A (cw G σ) s.heap.size) hA ⟨⟨hx, hb, hml, hown, hts⟩, hK, hN⟩ ⟨Nat.le_of_ble_eq_true rfl, Nat.le_of_ble_eq_true rfl⟩ (o := o) (fun τ v pc H locs ls ho w d => ?_) σ x1 x2 _ _ _ hf ⟨hP, hD, hS⟩ hl
  exact W.iret hx hb hr (fun t ht hW => ⟨⟨v, τ, rfl, ⟨by rw [ho], by rw [ho]⟩, by have h9 := w.1; rw [← ht] at h9; exact h9⟩, w.2.2.F ht⟩) w.2.2.2.2 d
theorem in_X0_breakWeak_X0 : ∀ w ∈ u_ws RX0 TX0 4, w ∈ wsX0_breakWeak := fun _ h => xt1 (xl (xl (xr (h))))
noncomputable def fX0_breakWeak_53 (k12 : hy_S → Int32 → Int32 → Int32 → Int32 → Option (hy_S × Int32)) (σ : hy_S) (x1 : Int32) (x2 : Int32) (x3 : Int32) (x4 : Int32) (x5 : Int32) : Option (hy_S × Int32) := hy_bd (fX1_weight σ x5) (fun σ1 v2 => k12 σ1 x1 x2 (x3 + v2) (x4 + (-1)))
noncomputable def fX0_breakWeak_12 : Nat → hy_S → Int32 → Int32 → Int32 → Int32 → Option (hy_S × Int32)
  | 0, _, _, _, _, _ => none
  | n + 1, σ, x1, x2, x3, x4 => (if x4 < 0 then some (σ, 0) else hy_ga σ 11 240 ((x1 * 10) + x4) (fun v2 => hy_bd (fX0_bearsInStorm σ v2 x2) (fun σ5 v6 => (if x3 ≤ v6 then fX0_breakWeak_53 (fX0_breakWeak_12 n) σ5 x1 x2 x3 x4 v2 else hy_bd (fX1_move σ5 v2 3 (-1)) (fun σ9 v10 => fX0_breakWeak_53 (fX0_breakWeak_12 n) σ9 x1 x2 x3 x4 v2)))))
noncomputable def fX0_breakWeak (σ : hy_S) (x1 : Int32) (x2 : Int32) : Option (hy_S × Int32) := hy_ga σ 12 24 x1 (fun v1 => fX0_breakWeak_12 hy_fu σ x1 x2 0 (v1 - 1))
set_option maxHeartbeats 4000000 in
set_option maxRecDepth 100000 in
theorem bX0_breakWeak_53 (hA : ∀ q : Nat, s.heap.size ≤ q → A q) (B : hy_B RX0 cX0_breakWeak 6 wsX0_breakWeak G A p s m args c) (hR : 2 ≤ R.frames ∧ 44 ≤ R.locals) {o : hy_S × Int32}  {k12 : hy_S → Int32 → Int32 → Int32 → Int32 → Option (hy_S × Int32)} (hk12 : ∀ (σ : hy_S) (x1 : Int32) (x2 : Int32) (x3 : Int32) (x4 : Int32) (H : Heap) (locs : List Loc) (ls : Array Slot), k12 σ x1 x2 x3 x4 = some o → hy_w cw G A s σ H locs → lv_has ls 6 [(0, .ref (G.2.2.2.1 5)), (1, .int x1), (2, .int x2), (3, .int x3), (4, .int x4)] → W p l e R s m args below meth c H locs 0 0 Q (F0 m 12 ls [])) (hret : ∀ (σ : hy_S) (pc : Nat) (H : Heap) (locs : List Loc) (ls : Array Slot), o = (σ, 0) → hy_w cw G A s σ H locs → decode cX0_breakWeak pc = .ok (.return_, 1) → W p l e R s m args below meth c H locs 0 0 Q (F0 m pc ls [])) (σ : hy_S) (x1 : Int32) (x2 : Int32) (x3 : Int32) (x4 : Int32) (x5 : Int32) (H : Heap) (locs : List Loc) (ls : Array Slot) (hf : fX0_breakWeak_53 k12 σ x1 x2 x3 x4 x5 = some o) (w : hy_w cw G A s σ H locs) (hl : lv_has ls 6 [(0, .ref (G.2.2.2.1 5)), (1, .int x1), (2, .int x2), (3, .int x3), (4, .int x4), (5, .int x5)]) : W p l e R s m args below meth c H locs 0 0 Q (F0 m 53 ls []) := by
  unfold fX0_breakWeak_53 at hf
  refine lv_iload_n B.1.1 B.1.2.1 dX0_breakWeak_53 rfl (lv_at hl 3 rfl) ?_
  refine lv_aload_n B.1.1 B.1.2.1 dX0_breakWeak_54 rfl (lv_at hl 0 rfl) ?_
  refine hy_get (k := 0) (v := .ref (G.2.2.2.1 4)) B w (cwq_5 G) rfl in_X0_breakWeak_X0 (by decide) (by decide +kernel) rfl dX0_breakWeak_55 ?_
  refine lv_iload B.1.1 B.1.2.1 dX0_breakWeak_58 (lv_at hl 5 rfl) ?_
  obtain ⟨σ1, v2, h3, hf⟩ := hy_bd_some hf
  refine hy_cv (As := [.int x5]) (rest := [.int x3]) (o := (σ1, v2)) cw_fix hA B w (fun sz => mX1_weight l G sz σ x5 _ h3) (cwV 1 B.1.2.2.2.2 gX0_breakWeak_X1_weight rfl rfl rfl (by decide +kernel) ⟨by have := hR.1; show 0 + 1 ≤ _; omega, by have := hR.2; show 8 + (2 + 11) + 0 ≤ _; omega⟩) rfl (cwq_4 G σ) rfl hl.1 rfl (Nat.le_of_ble_eq_true rfl) dX0_breakWeak_60 ⟨Nat.zero_le _, Nat.zero_le _⟩ (fun H locs w => ?_)
  refine lv_iadd B.1.1 B.1.2.1 dX0_breakWeak_63 ?_
  refine lv_istore_n (lv' := [(3, .int (x3 + v2)), (0, .ref (G.2.2.2.1 5)), (1, .int x1), (2, .int x2), (4, .int x4), (5, .int x5)]) B.1.1 B.1.2.1 dX0_breakWeak_64 rfl hl (by decide) rfl (fun ls hl => ?_)
  refine lv_iinc (v := (x4 + (-1))) (lv' := [(4, .int (x4 + (-1))), (3, .int (x3 + v2)), (0, .ref (G.2.2.2.1 5)), (1, .int x1), (2, .int x2), (5, .int x5)]) B.1.1 B.1.2.1 dX0_breakWeak_65 hl (k := 4) rfl rfl (by decide) rfl (fun ls hl => ?_)
  refine lv_goto (tgt := 12) B.1.1 B.1.2.1 dX0_breakWeak_68 (by decide) ?_
  exact hk12 _ _ _ _ _ _ _ _ hf w (lv_sub hl [2, 3, 4, 1, 0] rfl)
set_option maxHeartbeats 4000000 in
set_option maxRecDepth 100000 in
theorem bX0_breakWeak_12 (hA : ∀ q : Nat, s.heap.size ≤ q → A q) (B : hy_B RX0 cX0_breakWeak 6 wsX0_breakWeak G A p s m args c) (hR : 2 ≤ R.frames ∧ 44 ≤ R.locals) {o : hy_S × Int32}  (hret : ∀ (σ : hy_S) (pc : Nat) (H : Heap) (locs : List Loc) (ls : Array Slot), o = (σ, 0) → hy_w cw G A s σ H locs → decode cX0_breakWeak pc = .ok (.return_, 1) → W p l e R s m args below meth c H locs 0 0 Q (F0 m pc ls [])) : ∀ (n : Nat) (σ : hy_S) (x1 : Int32) (x2 : Int32) (x3 : Int32) (x4 : Int32) (H : Heap) (locs : List Loc) (ls : Array Slot), fX0_breakWeak_12 n σ x1 x2 x3 x4 = some o → hy_w cw G A s σ H locs → lv_has ls 6 [(0, .ref (G.2.2.2.1 5)), (1, .int x1), (2, .int x2), (3, .int x3), (4, .int x4)] → W p l e R s m args below meth c H locs 0 0 Q (F0 m 12 ls []) := by
  intro n
  induction n with
  | zero => intro σ x1 x2 x3 x4 H locs ls hf; cases hf
  | succ n hk12 =>
    intro σ x1 x2 x3 x4 H locs ls hf w hl
    unfold fX0_breakWeak_12 at hf
    refine lv_iload B.1.1 B.1.2.1 dX0_breakWeak_12 (lv_at hl 4 rfl) ?_
    refine lv_if_lt (tgt := 71) B.1.1 B.1.2.1 dX0_breakWeak_14 (by decide) (fun c1 => ?_) (fun c1 => ?_)
    · rw [if_pos c1] at hf
      exact hret _ _ _ _ _ (Option.some.inj hf).symm w dX0_breakWeak_71
    · rw [if_neg c1] at hf
      refine lv_aload_n B.1.1 B.1.2.1 dX0_breakWeak_17 rfl (lv_at hl 0 rfl) ?_
      refine hy_get (k := 1) (v := .ref (G.2.2.2.1 21)) B w (cwq_5 G) rfl in_X0_breakWeak_X0 (by decide) (by decide +kernel) rfl dX0_breakWeak_18 ?_
      refine lv_iload_n B.1.1 B.1.2.1 dX0_breakWeak_21 rfl (lv_at hl 1 rfl) ?_
      refine lv_bipush (v := 10) B.1.1 B.1.2.1 dX0_breakWeak_22 (by decide) ?_
      refine lv_imul B.1.1 B.1.2.1 dX0_breakWeak_24 ?_
      refine lv_iload B.1.1 B.1.2.1 dX0_breakWeak_25 (lv_at hl 4 rfl) ?_
      refine lv_iadd B.1.1 B.1.2.1 dX0_breakWeak_27 ?_
      obtain ⟨h4, v2, e3, hf⟩ := hy_ga_some hf
      refine hy_iald B w (cwq_21 G) h4 e3 dX0_breakWeak_28 ?_
      refine lv_istore (lv' := [(5, .int v2), (0, .ref (G.2.2.2.1 5)), (1, .int x1), (2, .int x2), (3, .int x3), (4, .int x4)]) B.1.1 B.1.2.1 dX0_breakWeak_29 hl (by decide) rfl (fun ls hl => ?_)
      refine lv_iload_n B.1.1 B.1.2.1 dX0_breakWeak_31 rfl (lv_at hl 4 rfl) ?_
      refine lv_aload_n B.1.1 B.1.2.1 dX0_breakWeak_32 rfl (lv_at hl 1 rfl) ?_
      refine lv_iload B.1.1 B.1.2.1 dX0_breakWeak_33 (lv_at hl 0 rfl) ?_
      refine lv_iload_n B.1.1 B.1.2.1 dX0_breakWeak_35 rfl (lv_at hl 3 rfl) ?_
      obtain ⟨σ5, v6, h7, hf⟩ := hy_bd_some hf
      refine hy_cv (As := [.int v2, .int x2]) (rest := [.int x3]) (o := (σ5, v6)) cw_fix hA B w (fun sz => mX0_bearsInStorm l G sz σ v2 x2 _ h7) (cwV 2 B.1.2.2.2.2 gX0_breakWeak_X0_bearsInStorm rfl rfl rfl (by decide +kernel) ⟨by have := hR.1; show 1 + 1 ≤ _; omega, by have := hR.2; show 8 + (4 + 11) + 21 ≤ _; omega⟩) rfl (cwq_5 G σ) rfl hl.1 rfl (Nat.le_of_ble_eq_true rfl) dX0_breakWeak_36 ⟨Nat.zero_le _, Nat.zero_le _⟩ (fun H locs w => ?_)
      refine lv_icmp_le (tgt := 53) B.1.1 B.1.2.1 dX0_breakWeak_39 (by decide) (fun c8 => ?_) (fun c8 => ?_)
      · rw [if_pos c8] at hf
        exact bX0_breakWeak_53 hA B hR hk12 hret _ _ _ _ _ _ _ _ _ hf w (lv_sub hl [1, 2, 3, 4, 5, 0] rfl)
      · rw [if_neg c8] at hf
        refine lv_aload_n B.1.1 B.1.2.1 dX0_breakWeak_42 rfl (lv_at hl 1 rfl) ?_
        refine hy_get (k := 0) (v := .ref (G.2.2.2.1 4)) B w (cwq_5 G) rfl in_X0_breakWeak_X0 (by decide) (by decide +kernel) rfl dX0_breakWeak_43 ?_
        refine lv_iload B.1.1 B.1.2.1 dX0_breakWeak_46 (lv_at hl 0 rfl) ?_
        refine lv_iconst (v := 3) B.1.1 B.1.2.1 dX0_breakWeak_48 (by decide) ?_
        refine lv_iconst (v := (-1)) B.1.1 B.1.2.1 dX0_breakWeak_49 (by decide) ?_
        obtain ⟨σ9, v10, h11, hf⟩ := hy_bd_some hf
        refine hy_cvv (As := [.int v2, .int 3, .int (-1)]) (rest := []) (o := (σ9, v10)) cw_fix hA B w (fun sz => mX1_move l G sz σ5 v2 3 (-1) _ h11) (cwV 3 B.1.2.2.2.2 gX0_breakWeak_X1_move rfl rfl rfl (by decide +kernel) ⟨by have := hR.1; show 0 + 1 ≤ _; omega, by have := hR.2; show 8 + (4 + 11) + 0 ≤ _; omega⟩) rfl (cwq_4 G σ5) rfl hl.1 rfl (Nat.le_of_ble_eq_true rfl) dX0_breakWeak_50 ⟨Nat.zero_le _, Nat.zero_le _⟩ (fun H locs w => ?_)
        exact bX0_breakWeak_53 hA B hR hk12 hret _ _ _ _ _ _ _ _ _ hf w (lv_sub hl [1, 2, 3, 4, 5, 0] rfl)
set_option maxHeartbeats 4000000 in
set_option maxRecDepth 100000 in
theorem bX0_breakWeak_0 (hA : ∀ q : Nat, s.heap.size ≤ q → A q) (B : hy_B RX0 cX0_breakWeak 6 wsX0_breakWeak G A p s m args c) (hR : 2 ≤ R.frames ∧ 44 ≤ R.locals) {o : hy_S × Int32}  (hret : ∀ (σ : hy_S) (pc : Nat) (H : Heap) (locs : List Loc) (ls : Array Slot), o = (σ, 0) → hy_w cw G A s σ H locs → decode cX0_breakWeak pc = .ok (.return_, 1) → W p l e R s m args below meth c H locs 0 0 Q (F0 m pc ls [])) (σ : hy_S) (x1 : Int32) (x2 : Int32) (H : Heap) (locs : List Loc) (ls : Array Slot) (hf : fX0_breakWeak σ x1 x2 = some o) (w : hy_w cw G A s σ H locs) (hl : lv_has ls 6 [(0, .ref (G.2.2.2.1 5)), (1, .int x1), (2, .int x2)]) : W p l e R s m args below meth c H locs 0 0 Q (F0 m 0 ls []) := by
  unfold fX0_breakWeak at hf
  refine lv_iconst (v := 0) B.1.1 B.1.2.1 dX0_breakWeak_0 (by decide) ?_
  refine lv_istore_n (lv' := [(3, .int 0), (0, .ref (G.2.2.2.1 5)), (1, .int x1), (2, .int x2)]) B.1.1 B.1.2.1 dX0_breakWeak_1 rfl hl (by decide) rfl (fun ls hl => ?_)
  refine lv_aload_n B.1.1 B.1.2.1 dX0_breakWeak_2 rfl (lv_at hl 1 rfl) ?_
  refine hy_get (k := 2) (v := .ref (G.2.2.2.1 22)) B w (cwq_5 G) rfl in_X0_breakWeak_X0 (by decide) (by decide +kernel) rfl dX0_breakWeak_3 ?_
  refine lv_iload_n B.1.1 B.1.2.1 dX0_breakWeak_6 rfl (lv_at hl 2 rfl) ?_
  obtain ⟨h3, v1, e2, hf⟩ := hy_ga_some hf
  refine hy_iald B w (cwq_22 G) h3 e2 dX0_breakWeak_7 ?_
  refine lv_iconst (v := 1) B.1.1 B.1.2.1 dX0_breakWeak_8 (by decide) ?_
  refine lv_isub B.1.1 B.1.2.1 dX0_breakWeak_9 ?_
  refine lv_istore (lv' := [(4, .int (v1 - 1)), (3, .int 0), (0, .ref (G.2.2.2.1 5)), (1, .int x1), (2, .int x2)]) B.1.1 B.1.2.1 dX0_breakWeak_10 hl (by decide) rfl (fun ls hl => ?_)
  exact bX0_breakWeak_12 hA B hR  hret _ _ _ _ _ _ _ _ _ hf w (lv_sub hl [2, 3, 4, 1, 0] rfl)
set_option maxHeartbeats 4000000 in
set_option maxRecDepth 100000 in
theorem mX0_breakWeak (l : Launch) (G : hy_G) (sz : Nat) (σ : hy_S) (x1 : Int32) (x2 : Int32) (o : hy_S × Int32) (hf : fX0_breakWeak σ x1 x2 = some o) : hy_Mv l yX0_breakWeak wsX0_breakWeak ({ frames := 2, cells := 0, slots := 0, locals := 44 }) cw G σ sz [.ref (G.2.2.2.1 5), .int x1, .int x2] o := by
  refine Met.ofW (cc := cX0_breakWeak) (maxL := 6) (ret := none) (by decide +kernel) rfl ?_
  intro p e s m args below meth c s₁ B hml hv
  obtain ⟨rfl, hsz, hP, hK, hD0, hN⟩ := hv
  have hx := B.exec
  have hb := B.bytes
  have hr := B.returns
  have hts := atoms_spec (ws := wsX0_breakWeak) B.pre
  have hown : s.vm.findClass RX0 = some m.cls := findClass_of_methodNamed B.named
  have hlocks := B.notSynchronized
  subst hsz
  have hD := hD0.self (sz := s.heap.size)
  have hA : ∀ q : Nat, s.heap.size ≤ q → va_A (cw G σ) s.heap.size q := fun q h => Or.inr h
  have hS : va_S (va_A (cw G σ) s.heap.size) s.heap s.heap [] := va_S.rf
  have hl := lv_entry ([.ref (G.2.2.2.1 5), .int x1, .int x2]) (n := 6) (Nat.le_of_ble_eq_true rfl)
  rw [lg_entry_eq]
  generalize (lg_sl ([.ref (G.2.2.2.1 5), .int x1, .int x2]) ++ List.replicate (6 - (lg_sl ([.ref (G.2.2.2.1 5), .int x1, .int x2])).length) Slot.unset).toArray = ls at hl ⊢
  have hl : lv_has ls 6 [(0, .ref (G.2.2.2.1 5)), (1, .int x1), (2, .int x2)] := hl
  refine bX0_breakWeak_0 (A := va_A (cw G σ) s.heap.size) hA ⟨⟨hx, hb, hml, hown, hts⟩, hK, hN⟩ ⟨Nat.le_of_ble_eq_true rfl, Nat.le_of_ble_eq_true rfl⟩ (o := o) (fun τ pc H locs ls ho w d => ?_) σ x1 x2 _ _ _ hf ⟨hP, hD, hS⟩ hl
  exact W.vret hx hb hr (fun t ht hW => ⟨⟨τ, rfl, by rw [ho], by have h9 := w.1; rw [← ht] at h9; exact h9⟩, w.2.2.F ht⟩) w.2.2.2.2 d
theorem in_X0_closeGaps_X0 : ∀ w ∈ u_ws RX0 TX0 4, w ∈ wsX0_closeGaps := fun _ h => xt1 (xl (xr (h)))
theorem in_X0_closeGaps_X1 : ∀ w ∈ u_ws RX1 TX1 8, w ∈ wsX0_closeGaps := fun _ h => xt1 (xr (h))
noncomputable def fX0_closeGaps_55 (k16 : hy_S → Int32 → Int32 → Int32 → Option (hy_S × Int32)) (σ : hy_S) (x1 : Int32) (x2 : Int32) (x3 : Int32) : Option (hy_S × Int32) := k16 σ x1 x2 (x3 + 1)
noncomputable def fX0_closeGaps_16 : Nat → hy_S → Int32 → Int32 → Int32 → Option (hy_S × Int32)
  | 0, _, _, _, _ => none
  | n + 1, σ, x1, x2, x3 => (if x2 ≤ x3 then some (σ, 0) else hy_ga σ 11 240 ((x1 * 10) + x3) (fun v2 => hy_ga σ 9 60 v2 (fun v5 => (if v5 = 1 then hy_bd (fX0_setTop σ x1 v2) (fun σ9 v10 => fX0_closeGaps_55 (fX0_closeGaps_16 n) σ9 x1 x2 x3) else fX0_closeGaps_55 (fX0_closeGaps_16 n) σ x1 x2 x3))))
noncomputable def fX0_closeGaps (σ : hy_S) (x1 : Int32) : Option (hy_S × Int32) := hy_ga σ 12 24 x1 (fun v1 => hy_pa σ 12 24 x1 0 (fun σ4 => fX0_closeGaps_16 hy_fu σ4 x1 v1 0))
set_option maxHeartbeats 4000000 in
set_option maxRecDepth 100000 in
theorem bX0_closeGaps_55 (hA : ∀ q : Nat, s.heap.size ≤ q → A q) (B : hy_B RX0 cX0_closeGaps 5 wsX0_closeGaps G A p s m args c) (hR : 1 ≤ R.frames ∧ 22 ≤ R.locals) {o : hy_S × Int32}  {k16 : hy_S → Int32 → Int32 → Int32 → Option (hy_S × Int32)} (hk16 : ∀ (σ : hy_S) (x1 : Int32) (x2 : Int32) (x3 : Int32) (H : Heap) (locs : List Loc) (ls : Array Slot), k16 σ x1 x2 x3 = some o → hy_w cw G A s σ H locs → lv_has ls 5 [(0, .ref (G.2.2.2.1 5)), (1, .int x1), (2, .int x2), (3, .int x3)] → W p l e R s m args below meth c H locs 0 0 Q (F0 m 16 ls [])) (hret : ∀ (σ : hy_S) (pc : Nat) (H : Heap) (locs : List Loc) (ls : Array Slot), o = (σ, 0) → hy_w cw G A s σ H locs → decode cX0_closeGaps pc = .ok (.return_, 1) → W p l e R s m args below meth c H locs 0 0 Q (F0 m pc ls [])) (σ : hy_S) (x1 : Int32) (x2 : Int32) (x3 : Int32) (H : Heap) (locs : List Loc) (ls : Array Slot) (hf : fX0_closeGaps_55 k16 σ x1 x2 x3 = some o) (w : hy_w cw G A s σ H locs) (hl : lv_has ls 5 [(0, .ref (G.2.2.2.1 5)), (1, .int x1), (2, .int x2), (3, .int x3)]) : W p l e R s m args below meth c H locs 0 0 Q (F0 m 55 ls []) := by
  unfold fX0_closeGaps_55 at hf
  refine lv_iinc (v := (x3 + 1)) (lv' := [(3, .int (x3 + 1)), (0, .ref (G.2.2.2.1 5)), (1, .int x1), (2, .int x2)]) B.1.1 B.1.2.1 dX0_closeGaps_55 hl (k := 3) rfl rfl (by decide) rfl (fun ls hl => ?_)
  refine lv_goto (tgt := 16) B.1.1 B.1.2.1 dX0_closeGaps_58 (by decide) ?_
  exact hk16 _ _ _ _ _ _ _ hf w (lv_sub hl [1, 2, 3, 0] rfl)
set_option maxHeartbeats 4000000 in
set_option maxRecDepth 100000 in
theorem bX0_closeGaps_16 (hA : ∀ q : Nat, s.heap.size ≤ q → A q) (B : hy_B RX0 cX0_closeGaps 5 wsX0_closeGaps G A p s m args c) (hR : 1 ≤ R.frames ∧ 22 ≤ R.locals) {o : hy_S × Int32}  (hret : ∀ (σ : hy_S) (pc : Nat) (H : Heap) (locs : List Loc) (ls : Array Slot), o = (σ, 0) → hy_w cw G A s σ H locs → decode cX0_closeGaps pc = .ok (.return_, 1) → W p l e R s m args below meth c H locs 0 0 Q (F0 m pc ls [])) : ∀ (n : Nat) (σ : hy_S) (x1 : Int32) (x2 : Int32) (x3 : Int32) (H : Heap) (locs : List Loc) (ls : Array Slot), fX0_closeGaps_16 n σ x1 x2 x3 = some o → hy_w cw G A s σ H locs → lv_has ls 5 [(0, .ref (G.2.2.2.1 5)), (1, .int x1), (2, .int x2), (3, .int x3)] → W p l e R s m args below meth c H locs 0 0 Q (F0 m 16 ls []) := by
  intro n
  induction n with
  | zero => intro σ x1 x2 x3 H locs ls hf; cases hf
  | succ n hk16 =>
    intro σ x1 x2 x3 H locs ls hf w hl
    unfold fX0_closeGaps_16 at hf
    refine lv_iload_n B.1.1 B.1.2.1 dX0_closeGaps_16 rfl (lv_at hl 3 rfl) ?_
    refine lv_iload_n B.1.1 B.1.2.1 dX0_closeGaps_17 rfl (lv_at hl 2 rfl) ?_
    refine lv_icmp_ge (tgt := 61) B.1.1 B.1.2.1 dX0_closeGaps_18 (by decide) (fun c1 => ?_) (fun c1 => ?_)
    · rw [if_pos c1] at hf
      exact hret _ _ _ _ _ (Option.some.inj hf).symm w dX0_closeGaps_61
    · rw [if_neg c1] at hf
      refine lv_aload_n B.1.1 B.1.2.1 dX0_closeGaps_21 rfl (lv_at hl 0 rfl) ?_
      refine hy_get (k := 1) (v := .ref (G.2.2.2.1 21)) B w (cwq_5 G) rfl in_X0_closeGaps_X0 (by decide) (by decide +kernel) rfl dX0_closeGaps_22 ?_
      refine lv_iload_n B.1.1 B.1.2.1 dX0_closeGaps_25 rfl (lv_at hl 1 rfl) ?_
      refine lv_bipush (v := 10) B.1.1 B.1.2.1 dX0_closeGaps_26 (by decide) ?_
      refine lv_imul B.1.1 B.1.2.1 dX0_closeGaps_28 ?_
      refine lv_iload_n B.1.1 B.1.2.1 dX0_closeGaps_29 rfl (lv_at hl 3 rfl) ?_
      refine lv_iadd B.1.1 B.1.2.1 dX0_closeGaps_30 ?_
      obtain ⟨h4, v2, e3, hf⟩ := hy_ga_some hf
      refine hy_iald B w (cwq_21 G) h4 e3 dX0_closeGaps_31 ?_
      refine lv_istore (lv' := [(4, .int v2), (0, .ref (G.2.2.2.1 5)), (1, .int x1), (2, .int x2), (3, .int x3)]) B.1.1 B.1.2.1 dX0_closeGaps_32 hl (by decide) rfl (fun ls hl => ?_)
      refine lv_aload_n B.1.1 B.1.2.1 dX0_closeGaps_34 rfl (lv_at hl 1 rfl) ?_
      refine hy_get (k := 0) (v := .ref (G.2.2.2.1 4)) B w (cwq_5 G) rfl in_X0_closeGaps_X0 (by decide) (by decide +kernel) rfl dX0_closeGaps_35 ?_
      refine hy_getN (k := 5) (v := .ref (G.2.2.2.1 19)) B w (cwq_4 G) rfl in_X0_closeGaps_X1 (by decide) (by decide +kernel) rfl dX0_closeGaps_38 ?_
      refine lv_iload B.1.1 B.1.2.1 dX0_closeGaps_41 (lv_at hl 0 rfl) ?_
      obtain ⟨h7, v5, e6, hf⟩ := hy_ga_some hf
      refine hy_iald B w (cwq_19 G) h7 e6 dX0_closeGaps_43 ?_
      refine lv_iconst (v := 1) B.1.1 B.1.2.1 dX0_closeGaps_44 (by decide) ?_
      refine lv_icmp_ne (tgt := 55) B.1.1 B.1.2.1 dX0_closeGaps_45 (by decide) (fun c8 => ?_) (fun c8 => ?_)
      · rw [if_neg c8] at hf
        exact bX0_closeGaps_55 hA B hR hk16 hret _ _ _ _ _ _ _ hf w (lv_sub hl [1, 2, 3, 4] rfl)
      · rw [if_pos c8] at hf
        refine lv_aload_n B.1.1 B.1.2.1 dX0_closeGaps_48 rfl (lv_at hl 1 rfl) ?_
        refine lv_iload_n B.1.1 B.1.2.1 dX0_closeGaps_49 rfl (lv_at hl 2 rfl) ?_
        refine lv_iload B.1.1 B.1.2.1 dX0_closeGaps_50 (lv_at hl 0 rfl) ?_
        obtain ⟨σ9, v10, h11, hf⟩ := hy_bd_some hf
        refine hy_cvv (As := [.int x1, .int v2]) (rest := []) (o := (σ9, v10)) cw_fix hA B w (fun sz => mX0_setTop l G sz σ x1 v2 _ h11) (cwV 2 B.1.2.2.2.2 gX0_closeGaps_X0_setTop rfl rfl rfl (by decide +kernel) ⟨by have := hR.1; show 0 + 1 ≤ _; omega, by have := hR.2; show 8 + (3 + 11) + 0 ≤ _; omega⟩) rfl (cwq_5 G σ) rfl hl.1 rfl (Nat.le_of_ble_eq_true rfl) dX0_closeGaps_52 ⟨Nat.zero_le _, Nat.zero_le _⟩ (fun H locs w => ?_)
        exact bX0_closeGaps_55 hA B hR hk16 hret _ _ _ _ _ _ _ hf w (lv_sub hl [1, 2, 3, 4] rfl)
set_option maxHeartbeats 4000000 in
set_option maxRecDepth 100000 in
theorem bX0_closeGaps_0 (hA : ∀ q : Nat, s.heap.size ≤ q → A q) (B : hy_B RX0 cX0_closeGaps 5 wsX0_closeGaps G A p s m args c) (hR : 1 ≤ R.frames ∧ 22 ≤ R.locals) {o : hy_S × Int32}  (hret : ∀ (σ : hy_S) (pc : Nat) (H : Heap) (locs : List Loc) (ls : Array Slot), o = (σ, 0) → hy_w cw G A s σ H locs → decode cX0_closeGaps pc = .ok (.return_, 1) → W p l e R s m args below meth c H locs 0 0 Q (F0 m pc ls [])) (σ : hy_S) (x1 : Int32) (H : Heap) (locs : List Loc) (ls : Array Slot) (hf : fX0_closeGaps σ x1 = some o) (w : hy_w cw G A s σ H locs) (hl : lv_has ls 5 [(0, .ref (G.2.2.2.1 5)), (1, .int x1)]) : W p l e R s m args below meth c H locs 0 0 Q (F0 m 0 ls []) := by
  unfold fX0_closeGaps at hf
  refine lv_aload_n B.1.1 B.1.2.1 dX0_closeGaps_0 rfl (lv_at hl 0 rfl) ?_
  refine hy_get (k := 2) (v := .ref (G.2.2.2.1 22)) B w (cwq_5 G) rfl in_X0_closeGaps_X0 (by decide) (by decide +kernel) rfl dX0_closeGaps_1 ?_
  refine lv_iload_n B.1.1 B.1.2.1 dX0_closeGaps_4 rfl (lv_at hl 1 rfl) ?_
  obtain ⟨h3, v1, e2, hf⟩ := hy_ga_some hf
  refine hy_iald B w (cwq_22 G) h3 e2 dX0_closeGaps_5 ?_
  refine lv_istore_n (lv' := [(2, .int v1), (0, .ref (G.2.2.2.1 5)), (1, .int x1)]) B.1.1 B.1.2.1 dX0_closeGaps_6 rfl hl (by decide) rfl (fun ls hl => ?_)
  refine lv_aload_n B.1.1 B.1.2.1 dX0_closeGaps_7 rfl (lv_at hl 1 rfl) ?_
  refine hy_get (k := 2) (v := .ref (G.2.2.2.1 22)) B w (cwq_5 G) rfl in_X0_closeGaps_X0 (by decide) (by decide +kernel) rfl dX0_closeGaps_8 ?_
  refine lv_iload_n B.1.1 B.1.2.1 dX0_closeGaps_11 rfl (lv_at hl 2 rfl) ?_
  refine lv_iconst (v := 0) B.1.1 B.1.2.1 dX0_closeGaps_12 (by decide) ?_
  obtain ⟨h6, σ4, e5, hf⟩ := hy_pa_some hf
  refine hy_iast B w (cwq_22 G) (cws_22 G) h6 e5 dX0_closeGaps_13 (fun H locs w => ?_)
  refine lv_iconst (v := 0) B.1.1 B.1.2.1 dX0_closeGaps_14 (by decide) ?_
  refine lv_istore_n (lv' := [(3, .int 0), (2, .int v1), (0, .ref (G.2.2.2.1 5)), (1, .int x1)]) B.1.1 B.1.2.1 dX0_closeGaps_15 rfl hl (by decide) rfl (fun ls hl => ?_)
  exact bX0_closeGaps_16 hA B hR  hret _ _ _ _ _ _ _ _ hf w (lv_sub hl [2, 3, 1, 0] rfl)
set_option maxHeartbeats 4000000 in
set_option maxRecDepth 100000 in
theorem mX0_closeGaps (l : Launch) (G : hy_G) (sz : Nat) (σ : hy_S) (x1 : Int32) (o : hy_S × Int32) (hf : fX0_closeGaps σ x1 = some o) : hy_Mv l yX0_closeGaps wsX0_closeGaps ({ frames := 1, cells := 0, slots := 0, locals := 22 }) cw G σ sz [.ref (G.2.2.2.1 5), .int x1] o := by
  refine Met.ofW (cc := cX0_closeGaps) (maxL := 5) (ret := none) (by decide +kernel) rfl ?_
  intro p e s m args below meth c s₁ B hml hv
  obtain ⟨rfl, hsz, hP, hK, hD0, hN⟩ := hv
  have hx := B.exec
  have hb := B.bytes
  have hr := B.returns
  have hts := atoms_spec (ws := wsX0_closeGaps) B.pre
  have hown : s.vm.findClass RX0 = some m.cls := findClass_of_methodNamed B.named
  have hlocks := B.notSynchronized
  subst hsz
  have hD := hD0.self (sz := s.heap.size)
  have hA : ∀ q : Nat, s.heap.size ≤ q → va_A (cw G σ) s.heap.size q := fun q h => Or.inr h
  have hS : va_S (va_A (cw G σ) s.heap.size) s.heap s.heap [] := va_S.rf
  have hl := lv_entry ([.ref (G.2.2.2.1 5), .int x1]) (n := 5) (Nat.le_of_ble_eq_true rfl)
  rw [lg_entry_eq]
  generalize (lg_sl ([.ref (G.2.2.2.1 5), .int x1]) ++ List.replicate (5 - (lg_sl ([.ref (G.2.2.2.1 5), .int x1])).length) Slot.unset).toArray = ls at hl ⊢
  have hl : lv_has ls 5 [(0, .ref (G.2.2.2.1 5)), (1, .int x1)] := hl
  refine bX0_closeGaps_0 (A := va_A (cw G σ) s.heap.size) hA ⟨⟨hx, hb, hml, hown, hts⟩, hK, hN⟩ ⟨Nat.le_of_ble_eq_true rfl, Nat.le_of_ble_eq_true rfl⟩ (o := o) (fun τ pc H locs ls ho w d => ?_) σ x1 _ _ _ hf ⟨hP, hD, hS⟩ hl
  exact W.vret hx hb hr (fun t ht hW => ⟨⟨τ, rfl, by rw [ho], by have h9 := w.1; rw [← ht] at h9; exact h9⟩, w.2.2.F ht⟩) w.2.2.2.2 d
theorem in_X0_shake_X0 : ∀ w ∈ u_ws RX0 TX0 4, w ∈ wsX0_shake := fun _ h => xt1 (xl (xl (xr (h))))
noncomputable def fX0_shake_5 : Nat → hy_S → Int32 → Int32 → Int32 → Int32 → Option (hy_S × Int32)
  | 0, _, _, _, _, _ => none
  | n + 1, σ, x1, x2, x3, x4 => (if 6 ≤ x4 then some (σ, x3) else hy_bd (fX0_pileOf σ x1 x4) (fun σ2 v3 => hy_ga σ2 12 24 v3 (fun v5 => hy_bd (fX0_breakWeak σ2 v3 x2) (fun σ8 v9 => hy_bd (fX0_closeGaps σ8 v3) (fun σ11 v12 => hy_ga σ11 12 24 v3 (fun v14 => (fX0_shake_5 n) σ11 x1 x2 (x3 + (v5 - v14)) (x4 + 1)))))))
noncomputable def fX0_shake (σ : hy_S) (x1 : Int32) (x2 : Int32) : Option (hy_S × Int32) := fX0_shake_5 hy_fu σ x1 x2 0 0
set_option maxHeartbeats 4000000 in
set_option maxRecDepth 100000 in
theorem bX0_shake_5 (hA : ∀ q : Nat, s.heap.size ≤ q → A q) (B : hy_B RX0 cX0_shake 7 wsX0_shake G A p s m args c) (hR : 3 ≤ R.frames ∧ 69 ≤ R.locals) {o : hy_S × Int32}  (hret : ∀ (σ : hy_S) (v : Int32) (pc : Nat) (H : Heap) (locs : List Loc) (ls : Array Slot), o = (σ, v) → hy_w cw G A s σ H locs → decode cX0_shake pc = .ok (.ireturn, 1) → W p l e R s m args below meth c H locs 0 0 Q (F0 m pc ls [.int v])) : ∀ (n : Nat) (σ : hy_S) (x1 : Int32) (x2 : Int32) (x3 : Int32) (x4 : Int32) (H : Heap) (locs : List Loc) (ls : Array Slot), fX0_shake_5 n σ x1 x2 x3 x4 = some o → hy_w cw G A s σ H locs → lv_has ls 7 [(0, .ref (G.2.2.2.1 5)), (1, .int x1), (2, .int x2), (3, .int x3), (4, .int x4)] → W p l e R s m args below meth c H locs 0 0 Q (F0 m 5 ls []) := by
  intro n
  induction n with
  | zero => intro σ x1 x2 x3 x4 H locs ls hf; cases hf
  | succ n hk5 =>
    intro σ x1 x2 x3 x4 H locs ls hf w hl
    unfold fX0_shake_5 at hf
    refine lv_iload B.1.1 B.1.2.1 dX0_shake_5 (lv_at hl 4 rfl) ?_
    refine lv_bipush (v := 6) B.1.1 B.1.2.1 dX0_shake_7 (by decide) ?_
    refine lv_icmp_ge (tgt := 61) B.1.1 B.1.2.1 dX0_shake_9 (by decide) (fun c1 => ?_) (fun c1 => ?_)
    · rw [if_pos c1] at hf
      refine lv_iload_n B.1.1 B.1.2.1 dX0_shake_61 rfl (lv_at hl 3 rfl) ?_
      exact hret _ _ _ _ _ _ (Option.some.inj hf).symm w dX0_shake_62
    · rw [if_neg c1] at hf
      refine lv_iload_n B.1.1 B.1.2.1 dX0_shake_12 rfl (lv_at hl 1 rfl) ?_
      refine lv_iload B.1.1 B.1.2.1 dX0_shake_13 (lv_at hl 4 rfl) ?_
      obtain ⟨σ2, v3, h4, hf⟩ := hy_bd_some hf
      refine hy_cs (As := [.int x1, .int x4]) (rest := []) (o := (σ2, v3)) cw_fix hA B w (fun sz => mX0_pileOf l G sz σ x1 x4 _ h4) (cwS 2 B.1.2.2.2.2 gX0_shake_X0_pileOf rfl rfl rfl (by decide +kernel) ⟨by have := hR.1; show 0 + 1 ≤ _; omega, by have := hR.2; show 8 + (2 + 11) + 0 ≤ _; omega⟩) rfl hl.1 rfl (Nat.le_of_ble_eq_true rfl) dX0_shake_15 ⟨Nat.zero_le _, Nat.zero_le _⟩ (fun H locs w => ?_)
      refine lv_istore (lv' := [(5, .int v3), (0, .ref (G.2.2.2.1 5)), (1, .int x1), (2, .int x2), (3, .int x3), (4, .int x4)]) B.1.1 B.1.2.1 dX0_shake_18 hl (by decide) rfl (fun ls hl => ?_)
      refine lv_aload_n B.1.1 B.1.2.1 dX0_shake_20 rfl (lv_at hl 1 rfl) ?_
      refine hy_get (k := 2) (v := .ref (G.2.2.2.1 22)) B w (cwq_5 G) rfl in_X0_shake_X0 (by decide) (by decide +kernel) rfl dX0_shake_21 ?_
      refine lv_iload B.1.1 B.1.2.1 dX0_shake_24 (lv_at hl 0 rfl) ?_
      obtain ⟨h7, v5, e6, hf⟩ := hy_ga_some hf
      refine hy_iald B w (cwq_22 G) h7 e6 dX0_shake_26 ?_
      refine lv_istore (lv' := [(6, .int v5), (5, .int v3), (0, .ref (G.2.2.2.1 5)), (1, .int x1), (2, .int x2), (3, .int x3), (4, .int x4)]) B.1.1 B.1.2.1 dX0_shake_27 hl (by decide) rfl (fun ls hl => ?_)
      refine lv_aload_n B.1.1 B.1.2.1 dX0_shake_29 rfl (lv_at hl 2 rfl) ?_
      refine lv_iload B.1.1 B.1.2.1 dX0_shake_30 (lv_at hl 1 rfl) ?_
      refine lv_iload_n B.1.1 B.1.2.1 dX0_shake_32 rfl (lv_at hl 4 rfl) ?_
      obtain ⟨σ8, v9, h10, hf⟩ := hy_bd_some hf
      refine hy_cvv (As := [.int v3, .int x2]) (rest := []) (o := (σ8, v9)) cw_fix hA B w (fun sz => mX0_breakWeak l G sz σ2 v3 x2 _ h10) (cwV 2 B.1.2.2.2.2 gX0_shake_X0_breakWeak rfl rfl rfl (by decide +kernel) ⟨by have := hR.1; show 2 + 1 ≤ _; omega, by have := hR.2; show 8 + (6 + 11) + 44 ≤ _; omega⟩) rfl (cwq_5 G σ2) rfl hl.1 rfl (Nat.le_of_ble_eq_true rfl) dX0_shake_33 ⟨Nat.zero_le _, Nat.zero_le _⟩ (fun H locs w => ?_)
      refine lv_aload_n B.1.1 B.1.2.1 dX0_shake_36 rfl (lv_at hl 2 rfl) ?_
      refine lv_iload B.1.1 B.1.2.1 dX0_shake_37 (lv_at hl 1 rfl) ?_
      obtain ⟨σ11, v12, h13, hf⟩ := hy_bd_some hf
      refine hy_cvv (As := [.int v3]) (rest := []) (o := (σ11, v12)) cw_fix hA B w (fun sz => mX0_closeGaps l G sz σ8 v3 _ h13) (cwV 1 B.1.2.2.2.2 gX0_shake_X0_closeGaps rfl rfl rfl (by decide +kernel) ⟨by have := hR.1; show 1 + 1 ≤ _; omega, by have := hR.2; show 8 + (5 + 11) + 22 ≤ _; omega⟩) rfl (cwq_5 G σ8) rfl hl.1 rfl (Nat.le_of_ble_eq_true rfl) dX0_shake_39 ⟨Nat.zero_le _, Nat.zero_le _⟩ (fun H locs w => ?_)
      refine lv_iload_n B.1.1 B.1.2.1 dX0_shake_42 rfl (lv_at hl 5 rfl) ?_
      refine lv_iload B.1.1 B.1.2.1 dX0_shake_43 (lv_at hl 0 rfl) ?_
      refine lv_aload_n B.1.1 B.1.2.1 dX0_shake_45 rfl (lv_at hl 2 rfl) ?_
      refine hy_get (k := 2) (v := .ref (G.2.2.2.1 22)) B w (cwq_5 G) rfl in_X0_shake_X0 (by decide) (by decide +kernel) rfl dX0_shake_46 ?_
      refine lv_iload B.1.1 B.1.2.1 dX0_shake_49 (lv_at hl 1 rfl) ?_
      obtain ⟨h16, v14, e15, hf⟩ := hy_ga_some hf
      refine hy_iald B w (cwq_22 G) h16 e15 dX0_shake_51 ?_
      refine lv_isub B.1.1 B.1.2.1 dX0_shake_52 ?_
      refine lv_iadd B.1.1 B.1.2.1 dX0_shake_53 ?_
      refine lv_istore_n (lv' := [(3, .int (x3 + (v5 - v14))), (6, .int v5), (5, .int v3), (0, .ref (G.2.2.2.1 5)), (1, .int x1), (2, .int x2), (4, .int x4)]) B.1.1 B.1.2.1 dX0_shake_54 rfl hl (by decide) rfl (fun ls hl => ?_)
      refine lv_iinc (v := (x4 + 1)) (lv' := [(4, .int (x4 + 1)), (3, .int (x3 + (v5 - v14))), (6, .int v5), (5, .int v3), (0, .ref (G.2.2.2.1 5)), (1, .int x1), (2, .int x2)]) B.1.1 B.1.2.1 dX0_shake_55 hl (k := 6) rfl rfl (by decide) rfl (fun ls hl => ?_)
      refine lv_goto (tgt := 5) B.1.1 B.1.2.1 dX0_shake_58 (by decide) ?_
      exact hk5 _ _ _ _ _ _ _ _ hf w (lv_sub hl [4, 5, 6, 1, 0] rfl)
set_option maxHeartbeats 4000000 in
set_option maxRecDepth 100000 in
theorem bX0_shake_0 (hA : ∀ q : Nat, s.heap.size ≤ q → A q) (B : hy_B RX0 cX0_shake 7 wsX0_shake G A p s m args c) (hR : 3 ≤ R.frames ∧ 69 ≤ R.locals) {o : hy_S × Int32}  (hret : ∀ (σ : hy_S) (v : Int32) (pc : Nat) (H : Heap) (locs : List Loc) (ls : Array Slot), o = (σ, v) → hy_w cw G A s σ H locs → decode cX0_shake pc = .ok (.ireturn, 1) → W p l e R s m args below meth c H locs 0 0 Q (F0 m pc ls [.int v])) (σ : hy_S) (x1 : Int32) (x2 : Int32) (H : Heap) (locs : List Loc) (ls : Array Slot) (hf : fX0_shake σ x1 x2 = some o) (w : hy_w cw G A s σ H locs) (hl : lv_has ls 7 [(0, .ref (G.2.2.2.1 5)), (1, .int x1), (2, .int x2)]) : W p l e R s m args below meth c H locs 0 0 Q (F0 m 0 ls []) := by
  unfold fX0_shake at hf
  refine lv_iconst (v := 0) B.1.1 B.1.2.1 dX0_shake_0 (by decide) ?_
  refine lv_istore_n (lv' := [(3, .int 0), (0, .ref (G.2.2.2.1 5)), (1, .int x1), (2, .int x2)]) B.1.1 B.1.2.1 dX0_shake_1 rfl hl (by decide) rfl (fun ls hl => ?_)
  refine lv_iconst (v := 0) B.1.1 B.1.2.1 dX0_shake_2 (by decide) ?_
  refine lv_istore (lv' := [(4, .int 0), (3, .int 0), (0, .ref (G.2.2.2.1 5)), (1, .int x1), (2, .int x2)]) B.1.1 B.1.2.1 dX0_shake_3 hl (by decide) rfl (fun ls hl => ?_)
  exact bX0_shake_5 hA B hR  hret _ _ _ _ _ _ _ _ _ hf w (lv_sub hl [2, 3, 4, 1, 0] rfl)
set_option maxHeartbeats 4000000 in
set_option maxRecDepth 100000 in
theorem mX0_shake (l : Launch) (G : hy_G) (sz : Nat) (σ : hy_S) (x1 : Int32) (x2 : Int32) (o : hy_S × Int32) (hf : fX0_shake σ x1 x2 = some o) : hy_M l yX0_shake wsX0_shake ({ frames := 3, cells := 0, slots := 0, locals := 69 }) cw G σ sz [.ref (G.2.2.2.1 5), .int x1, .int x2] o := by
  refine Met.ofW (cc := cX0_shake) (maxL := 7) (ret := (some .int)) (by decide +kernel) rfl ?_
  intro p e s m args below meth c s₁ B hml hv
  obtain ⟨rfl, hsz, hP, hK, hD0, hN⟩ := hv
  have hx := B.exec
  have hb := B.bytes
  have hr := B.returns
  have hts := atoms_spec (ws := wsX0_shake) B.pre
  have hown : s.vm.findClass RX0 = some m.cls := findClass_of_methodNamed B.named
  have hlocks := B.notSynchronized
  subst hsz
  have hD := hD0.self (sz := s.heap.size)
  have hA : ∀ q : Nat, s.heap.size ≤ q → va_A (cw G σ) s.heap.size q := fun q h => Or.inr h
  have hS : va_S (va_A (cw G σ) s.heap.size) s.heap s.heap [] := va_S.rf
  have hl := lv_entry ([.ref (G.2.2.2.1 5), .int x1, .int x2]) (n := 7) (Nat.le_of_ble_eq_true rfl)
  rw [lg_entry_eq]
  generalize (lg_sl ([.ref (G.2.2.2.1 5), .int x1, .int x2]) ++ List.replicate (7 - (lg_sl ([.ref (G.2.2.2.1 5), .int x1, .int x2])).length) Slot.unset).toArray = ls at hl ⊢
  have hl : lv_has ls 7 [(0, .ref (G.2.2.2.1 5)), (1, .int x1), (2, .int x2)] := hl
  refine bX0_shake_0 (A := va_A (cw G σ) s.heap.size) hA ⟨⟨hx, hb, hml, hown, hts⟩, hK, hN⟩ ⟨Nat.le_of_ble_eq_true rfl, Nat.le_of_ble_eq_true rfl⟩ (o := o) (fun τ v pc H locs ls ho w d => ?_) σ x1 x2 _ _ _ hf ⟨hP, hD, hS⟩ hl
  exact W.iret hx hb hr (fun t ht hW => ⟨⟨v, τ, rfl, ⟨by rw [ho], by rw [ho]⟩, by have h9 := w.1; rw [← ht] at h9; exact h9⟩, w.2.2.F ht⟩) w.2.2.2.2 d
end HK2
