section HM1
variable {p : Program} {l : Launch} {e : Env} {R : Room} {s : State} {m : MethodId} {args : Array Value} {below : List Frame} {meth : Method} {c : Code} {Q : State → Prop} {G : hy_G} {A : Nat → Prop} {Qc : Array Value → State → Outcome → State → Prop}
theorem in_X10_thrown_X10 : ∀ w ∈ u_ws RX10 TX10 43, w ∈ wsX10_thrown := fun _ h => xt1 (xr (h))
noncomputable def fX10_thrown (σ : hy_S) : Option (hy_S × Int32) := some (σ, (σ.2 0))
set_option maxHeartbeats 4000000 in
set_option maxRecDepth 100000 in
theorem bX10_thrown_0 (hA : ∀ q : Nat, s.heap.size ≤ q → A q) (B : hy_B RX10 cX10_thrown 1 wsX10_thrown G A p s m args c) (hR : 0 ≤ R.frames ∧ 0 ≤ R.locals) {o : hy_S × Int32}  (hret : ∀ (σ : hy_S) (v : Int32) (pc : Nat) (H : Heap) (locs : List Loc) (ls : Array Slot), o = (σ, v) → hy_w mw G A s σ H locs → decode cX10_thrown pc = .ok (.ireturn, 1) → W p l e R s m args below meth c H locs 0 0 Q (F0 m pc ls [.int v])) (σ : hy_S) (H : Heap) (locs : List Loc) (ls : Array Slot) (hf : fX10_thrown σ = some o) (w : hy_w mw G A s σ H locs) (hl : lv_has ls 1 [(0, .ref (G.2.2.2.2.1 0))]) : W p l e R s m args below meth c H locs 0 0 Q (F0 m 0 ls []) := by
  unfold fX10_thrown at hf
  refine lv_aload_n B.1.1 B.1.2.1 dX10_thrown_0 rfl (lv_at hl 0 rfl) ?_
  refine hy_get (k := 0) (v := .int (σ.2 0)) B w (mwq_0 G) rfl in_X10_thrown_X10 (by decide) (by decide +kernel) rfl dX10_thrown_1 ?_
  exact hret _ _ _ _ _ _ (Option.some.inj hf).symm w dX10_thrown_4
set_option maxHeartbeats 4000000 in
set_option maxRecDepth 100000 in
theorem mX10_thrown (l : Launch) (G : hy_G) (sz : Nat) (σ : hy_S) (o : hy_S × Int32) (hf : fX10_thrown σ = some o) : hy_M l yX10_thrown wsX10_thrown ({ frames := 0, cells := 0, slots := 0, locals := 0 }) mw G σ sz [.ref (G.2.2.2.2.1 0)] o := by
  refine Met.ofW (cc := cX10_thrown) (maxL := 1) (ret := (some .int)) (by decide +kernel) rfl ?_
  intro p e s m args below meth c s₁ B hml hv
  obtain ⟨rfl, hsz, hP, hK, hD0, hN⟩ := hv
  have hx := B.exec
  have hb := B.bytes
  have hr := B.returns
  have hts := atoms_spec (ws := wsX10_thrown) B.pre
  have hown : s.vm.findClass RX10 = some m.cls := findClass_of_methodNamed B.named
  have hlocks := B.notSynchronized
  subst hsz
  have hD := hD0.self (sz := s.heap.size)
  have hA : ∀ q : Nat, s.heap.size ≤ q → va_A (mw G σ) s.heap.size q := fun q h => Or.inr h
  have hS : va_S (va_A (mw G σ) s.heap.size) s.heap s.heap [] := va_S.rf
  have hl := lv_entry ([.ref (G.2.2.2.2.1 0)]) (n := 1) (Nat.le_of_ble_eq_true rfl)
  rw [lg_entry_eq]
  generalize (lg_sl ([.ref (G.2.2.2.2.1 0)]) ++ List.replicate (1 - (lg_sl ([.ref (G.2.2.2.2.1 0)])).length) Slot.unset).toArray = ls at hl ⊢
  have hl : lv_has ls 1 [(0, .ref (G.2.2.2.2.1 0))] := hl
  refine bX10_thrown_0 (A := va_A (mw G σ) s.heap.size) hA ⟨⟨hx, hb, hml, hown, hts⟩, hK, hN⟩ ⟨Nat.le_of_ble_eq_true rfl, Nat.le_of_ble_eq_true rfl⟩ (o := o) (fun τ v pc H locs ls ho w d => ?_) σ _ _ _ hf ⟨hP, hD, hS⟩ hl
  exact W.iret hx hb hr (fun t ht hW => ⟨⟨v, τ, rfl, ⟨by rw [ho], by rw [ho]⟩, by have h9 := w.1; rw [← ht] at h9; exact h9⟩, w.2.2.F ht⟩) w.2.2.2.2 d
theorem in_X10_throwsIf_X10 : ∀ w ∈ u_ws RX10 TX10 43, w ∈ wsX10_throwsIf := fun _ h => xt1 (xr (h))
noncomputable def fX10_throwsIf_9 (σ : hy_S) (x1 : Int32) : Option (hy_S × Int32) := hy_ck (x1 = 0 ∨ x1 = 1) (some (σ, x1))
noncomputable def fX10_throwsIf (σ : hy_S) (x1 : Int32) (x2 : Int32) : Option (hy_S × Int32) := (if x1 = 0 then fX10_throwsIf_9 σ x1 else hy_pf σ 0 x2 (fun σ2 => fX10_throwsIf_9 σ2 x1))
set_option maxHeartbeats 4000000 in
set_option maxRecDepth 100000 in
theorem bX10_throwsIf_9 (hA : ∀ q : Nat, s.heap.size ≤ q → A q) (B : hy_B RX10 cX10_throwsIf 3 wsX10_throwsIf G A p s m args c) (hR : 0 ≤ R.frames ∧ 0 ≤ R.locals) {o : hy_S × Int32}  (hret : ∀ (σ : hy_S) (v : Int32) (pc : Nat) (H : Heap) (locs : List Loc) (ls : Array Slot), o = (σ, v) → (v = 0 ∨ v = 1) → hy_w mw G A s σ H locs → decode cX10_throwsIf pc = .ok (.ireturn, 1) → W p l e R s m args below meth c H locs 0 0 Q (F0 m pc ls [.int v])) (σ : hy_S) (x1 : Int32) (H : Heap) (locs : List Loc) (ls : Array Slot) (hf : fX10_throwsIf_9 σ x1 = some o) (w : hy_w mw G A s σ H locs) (hl : lv_has ls 3 [(1, .int x1)]) : W p l e R s m args below meth c H locs 0 0 Q (F0 m 9 ls []) := by
  unfold fX10_throwsIf_9 at hf
  refine lv_iload_n B.1.1 B.1.2.1 dX10_throwsIf_9 rfl (lv_at hl 0 rfl) ?_
  obtain ⟨c1, hf⟩ := hy_ck_some hf
  exact hret _ _ _ _ _ _ (Option.some.inj hf).symm c1 w dX10_throwsIf_10
set_option maxHeartbeats 4000000 in
set_option maxRecDepth 100000 in
theorem bX10_throwsIf_0 (hA : ∀ q : Nat, s.heap.size ≤ q → A q) (B : hy_B RX10 cX10_throwsIf 3 wsX10_throwsIf G A p s m args c) (hR : 0 ≤ R.frames ∧ 0 ≤ R.locals) {o : hy_S × Int32}  (hret : ∀ (σ : hy_S) (v : Int32) (pc : Nat) (H : Heap) (locs : List Loc) (ls : Array Slot), o = (σ, v) → (v = 0 ∨ v = 1) → hy_w mw G A s σ H locs → decode cX10_throwsIf pc = .ok (.ireturn, 1) → W p l e R s m args below meth c H locs 0 0 Q (F0 m pc ls [.int v])) (σ : hy_S) (x1 : Int32) (x2 : Int32) (H : Heap) (locs : List Loc) (ls : Array Slot) (hf : fX10_throwsIf σ x1 x2 = some o) (w : hy_w mw G A s σ H locs) (hl : lv_has ls 3 [(0, .ref (G.2.2.2.2.1 0)), (1, .int x1), (2, .int x2)]) : W p l e R s m args below meth c H locs 0 0 Q (F0 m 0 ls []) := by
  unfold fX10_throwsIf at hf
  refine lv_iload_n B.1.1 B.1.2.1 dX10_throwsIf_0 rfl (lv_at hl 1 rfl) ?_
  refine lv_if_eq (tgt := 9) B.1.1 B.1.2.1 dX10_throwsIf_1 (by decide) (fun c1 => ?_) (fun c1 => ?_)
  · rw [if_pos c1] at hf
    exact bX10_throwsIf_9 hA B hR  hret _ _ _ _ _ hf w (lv_sub hl [1] rfl)
  · rw [if_neg c1] at hf
    refine lv_aload_n B.1.1 B.1.2.1 dX10_throwsIf_4 rfl (lv_at hl 0 rfl) ?_
    refine lv_iload_n B.1.1 B.1.2.1 dX10_throwsIf_5 rfl (lv_at hl 2 rfl) ?_
    obtain ⟨σ2, e3, hf⟩ := hy_pf_some hf
    refine hy_put (k := 0) B w (mwq_0 G) rfl in_X10_throwsIf_X10 tyX10 tyX10_ok nmX10 (by decide) (by decide +kernel) rfl rfl (by show 0 < 43; decide) (mwp_0 G) e3 dX10_throwsIf_6 (fun H locs w => ?_)
    exact bX10_throwsIf_9 hA B hR  hret _ _ _ _ _ hf w (lv_sub hl [1] rfl)
set_option maxHeartbeats 4000000 in
set_option maxRecDepth 100000 in
theorem mX10_throwsIf (l : Launch) (G : hy_G) (sz : Nat) (σ : hy_S) (x1 : Int32) (x2 : Int32) (o : hy_S × Int32) (hf : fX10_throwsIf σ x1 x2 = some o) : hy_M l yX10_throwsIf wsX10_throwsIf ({ frames := 0, cells := 0, slots := 0, locals := 0 }) mw G σ sz [.ref (G.2.2.2.2.1 0), .int x1, .int x2] o := by
  refine Met.ofW (cc := cX10_throwsIf) (maxL := 3) (ret := (some .boolean)) (by decide +kernel) rfl ?_
  intro p e s m args below meth c s₁ B hml hv
  obtain ⟨rfl, hsz, hP, hK, hD0, hN⟩ := hv
  have hx := B.exec
  have hb := B.bytes
  have hr := B.returns
  have hts := atoms_spec (ws := wsX10_throwsIf) B.pre
  have hown : s.vm.findClass RX10 = some m.cls := findClass_of_methodNamed B.named
  have hlocks := B.notSynchronized
  subst hsz
  have hD := hD0.self (sz := s.heap.size)
  have hA : ∀ q : Nat, s.heap.size ≤ q → va_A (mw G σ) s.heap.size q := fun q h => Or.inr h
  have hS : va_S (va_A (mw G σ) s.heap.size) s.heap s.heap [] := va_S.rf
  have hl := lv_entry ([.ref (G.2.2.2.2.1 0), .int x1, .int x2]) (n := 3) (Nat.le_of_ble_eq_true rfl)
  rw [lg_entry_eq]
  generalize (lg_sl ([.ref (G.2.2.2.2.1 0), .int x1, .int x2]) ++ List.replicate (3 - (lg_sl ([.ref (G.2.2.2.2.1 0), .int x1, .int x2])).length) Slot.unset).toArray = ls at hl ⊢
  have hl : lv_has ls 3 [(0, .ref (G.2.2.2.2.1 0)), (1, .int x1), (2, .int x2)] := hl
  refine bX10_throwsIf_0 (A := va_A (mw G σ) s.heap.size) hA ⟨⟨hx, hb, hml, hown, hts⟩, hK, hN⟩ ⟨Nat.le_of_ble_eq_true rfl, Nat.le_of_ble_eq_true rfl⟩ (o := o) (fun τ v pc H locs ls ho hz w d => ?_) σ x1 x2 _ _ _ hf ⟨hP, hD, hS⟩ hl
  exact W.zret hx hb hr (hy_bool hz) (fun t ht hW => ⟨⟨v, τ, rfl, ⟨by rw [ho], by rw [ho]⟩, by have h9 := w.1; rw [← ht] at h9; exact h9⟩, w.2.2.F ht⟩) w.2.2.2.2 d
noncomputable def fX10_in (σ : hy_S) (x0 : Int32) (x1 : Int32) (x2 : Int32) : Option (hy_S × Int32) := (if x0 < x1 then some (σ, 0) else (if x2 < x0 then some (σ, 0) else some (σ, 1)))
set_option maxHeartbeats 4000000 in
set_option maxRecDepth 100000 in
theorem bX10_in_0 (hA : ∀ q : Nat, s.heap.size ≤ q → A q) (B : hy_B RX10 cX10_in 3 wsX10_in G A p s m args c) (hR : 0 ≤ R.frames ∧ 0 ≤ R.locals) {o : hy_S × Int32}  (hret : ∀ (σ : hy_S) (v : Int32) (pc : Nat) (H : Heap) (locs : List Loc) (ls : Array Slot), o = (σ, v) → (v = 0 ∨ v = 1) → hy_w mw G A s σ H locs → decode cX10_in pc = .ok (.ireturn, 1) → W p l e R s m args below meth c H locs 0 0 Q (F0 m pc ls [.int v])) (σ : hy_S) (x0 : Int32) (x1 : Int32) (x2 : Int32) (H : Heap) (locs : List Loc) (ls : Array Slot) (hf : fX10_in σ x0 x1 x2 = some o) (w : hy_w mw G A s σ H locs) (hl : lv_has ls 3 [(0, .int x0), (1, .int x1), (2, .int x2)]) : W p l e R s m args below meth c H locs 0 0 Q (F0 m 0 ls []) := by
  unfold fX10_in at hf
  refine lv_iload_n B.1.1 B.1.2.1 dX10_in_0 rfl (lv_at hl 0 rfl) ?_
  refine lv_iload_n B.1.1 B.1.2.1 dX10_in_1 rfl (lv_at hl 1 rfl) ?_
  refine lv_icmp_lt (tgt := 14) B.1.1 B.1.2.1 dX10_in_2 (by decide) (fun c1 => ?_) (fun c1 => ?_)
  · rw [if_pos c1] at hf
    refine lv_iconst (v := 0) B.1.1 B.1.2.1 dX10_in_14 (by decide) ?_
    exact hret _ _ _ _ _ _ (Option.some.inj hf).symm (Or.inl rfl) w dX10_in_15
  · rw [if_neg c1] at hf
    refine lv_iload_n B.1.1 B.1.2.1 dX10_in_5 rfl (lv_at hl 0 rfl) ?_
    refine lv_iload_n B.1.1 B.1.2.1 dX10_in_6 rfl (lv_at hl 2 rfl) ?_
    refine lv_icmp_gt (tgt := 14) B.1.1 B.1.2.1 dX10_in_7 (by decide) (fun c2 => ?_) (fun c2 => ?_)
    · rw [if_pos c2] at hf
      refine lv_iconst (v := 0) B.1.1 B.1.2.1 dX10_in_14 (by decide) ?_
      exact hret _ _ _ _ _ _ (Option.some.inj hf).symm (Or.inl rfl) w dX10_in_15
    · rw [if_neg c2] at hf
      refine lv_iconst (v := 1) B.1.1 B.1.2.1 dX10_in_10 (by decide) ?_
      refine lv_goto (tgt := 15) B.1.1 B.1.2.1 dX10_in_11 (by decide) ?_
      exact hret _ _ _ _ _ _ (Option.some.inj hf).symm (Or.inr rfl) w dX10_in_15
set_option maxHeartbeats 4000000 in
set_option maxRecDepth 100000 in
theorem mX10_in (l : Launch) (G : hy_G) (sz : Nat) (σ : hy_S) (x0 : Int32) (x1 : Int32) (x2 : Int32) (o : hy_S × Int32) (hf : fX10_in σ x0 x1 x2 = some o) : hy_M l yX10_in wsX10_in ({ frames := 0, cells := 0, slots := 0, locals := 0 }) mw G σ sz [.int x0, .int x1, .int x2] o := by
  refine Met.ofW (cc := cX10_in) (maxL := 3) (ret := (some .boolean)) (by decide +kernel) rfl ?_
  intro p e s m args below meth c s₁ B hml hv
  obtain ⟨rfl, hsz, hP, hK, hD0, hN⟩ := hv
  have hx := B.exec
  have hb := B.bytes
  have hr := B.returns
  have hts := atoms_spec (ws := wsX10_in) B.pre
  have hown : s.vm.findClass RX10 = some m.cls := findClass_of_methodNamed B.named
  have hlocks := B.notSynchronized
  subst hsz
  have hD := hD0.self (sz := s.heap.size)
  have hA : ∀ q : Nat, s.heap.size ≤ q → va_A (mw G σ) s.heap.size q := fun q h => Or.inr h
  have hS : va_S (va_A (mw G σ) s.heap.size) s.heap s.heap [] := va_S.rf
  have hl := lv_entry ([.int x0, .int x1, .int x2]) (n := 3) (Nat.le_of_ble_eq_true rfl)
  rw [lg_entry_eq]
  generalize (lg_sl ([.int x0, .int x1, .int x2]) ++ List.replicate (3 - (lg_sl ([.int x0, .int x1, .int x2])).length) Slot.unset).toArray = ls at hl ⊢
  have hl : lv_has ls 3 [(0, .int x0), (1, .int x1), (2, .int x2)] := hl
  refine bX10_in_0 (A := va_A (mw G σ) s.heap.size) hA ⟨⟨hx, hb, hml, hown, hts⟩, hK, hN⟩ ⟨Nat.le_of_ble_eq_true rfl, Nat.le_of_ble_eq_true rfl⟩ (o := o) (fun τ v pc H locs ls ho hz w d => ?_) σ x0 x1 x2 _ _ _ hf ⟨hP, hD, hS⟩ hl
  exact W.zret hx hb hr (hy_bool hz) (fun t ht hW => ⟨⟨v, τ, rfl, ⟨by rw [ho], by rw [ho]⟩, by have h9 := w.1; rw [← ht] at h9; exact h9⟩, w.2.2.F ht⟩) w.2.2.2.2 d
theorem in_X10_noJar_X10 : ∀ w ∈ u_ws RX10 TX10 43, w ∈ wsX10_noJar := fun _ h => xt1 (xr (h))
noncomputable def fX10_noJar (σ : hy_S) (x1 : Int32) : Option (hy_S × Int32) := hy_bd (fX10_in σ x1 0 ((σ.2 2) - 1)) (fun σ1 v2 => (if v2 = 0 then some (σ1, 1) else some (σ1, 0)))
set_option maxHeartbeats 4000000 in
set_option maxRecDepth 100000 in
theorem bX10_noJar_0 (hA : ∀ q : Nat, s.heap.size ≤ q → A q) (B : hy_B RX10 cX10_noJar 2 wsX10_noJar G A p s m args c) (hR : 1 ≤ R.frames ∧ 22 ≤ R.locals) {o : hy_S × Int32}  (hret : ∀ (σ : hy_S) (v : Int32) (pc : Nat) (H : Heap) (locs : List Loc) (ls : Array Slot), o = (σ, v) → (v = 0 ∨ v = 1) → hy_w mw G A s σ H locs → decode cX10_noJar pc = .ok (.ireturn, 1) → W p l e R s m args below meth c H locs 0 0 Q (F0 m pc ls [.int v])) (σ : hy_S) (x1 : Int32) (H : Heap) (locs : List Loc) (ls : Array Slot) (hf : fX10_noJar σ x1 = some o) (w : hy_w mw G A s σ H locs) (hl : lv_has ls 2 [(0, .ref (G.2.2.2.2.1 0)), (1, .int x1)]) : W p l e R s m args below meth c H locs 0 0 Q (F0 m 0 ls []) := by
  unfold fX10_noJar at hf
  refine lv_iload_n B.1.1 B.1.2.1 dX10_noJar_0 rfl (lv_at hl 1 rfl) ?_
  refine lv_iconst (v := 0) B.1.1 B.1.2.1 dX10_noJar_1 (by decide) ?_
  refine lv_aload_n B.1.1 B.1.2.1 dX10_noJar_2 rfl (lv_at hl 0 rfl) ?_
  refine hy_get (k := 11) (v := .int (σ.2 2)) B w (mwq_0 G) rfl in_X10_noJar_X10 (by decide) (by decide +kernel) rfl dX10_noJar_3 ?_
  refine lv_iconst (v := 1) B.1.1 B.1.2.1 dX10_noJar_6 (by decide) ?_
  refine lv_isub B.1.1 B.1.2.1 dX10_noJar_7 ?_
  obtain ⟨σ1, v2, h3, hf⟩ := hy_bd_some hf
  refine hy_cs (As := [.int x1, .int 0, .int ((σ.2 2) - 1)]) (rest := []) (o := (σ1, v2)) mw_fix hA B w (fun sz => mX10_in l G sz σ x1 0 ((σ.2 2) - 1) _ h3) (cwS 3 B.1.2.2.2.2 gX10_noJar_X10_in rfl rfl rfl (by decide +kernel) ⟨by have := hR.1; show 0 + 1 ≤ _; omega, by have := hR.2; show 8 + (3 + 11) + 0 ≤ _; omega⟩) rfl hl.1 rfl (Nat.le_of_ble_eq_true rfl) dX10_noJar_8 ⟨Nat.zero_le _, Nat.zero_le _⟩ (fun H locs w => ?_)
  refine lv_if_ne (tgt := 18) B.1.1 B.1.2.1 dX10_noJar_11 (by decide) (fun c4 => ?_) (fun c4 => ?_)
  · rw [if_neg c4] at hf
    refine lv_iconst (v := 0) B.1.1 B.1.2.1 dX10_noJar_18 (by decide) ?_
    exact hret _ _ _ _ _ _ (Option.some.inj hf).symm (Or.inl rfl) w dX10_noJar_19
  · rw [if_pos c4] at hf
    refine lv_iconst (v := 1) B.1.1 B.1.2.1 dX10_noJar_14 (by decide) ?_
    refine lv_goto (tgt := 19) B.1.1 B.1.2.1 dX10_noJar_15 (by decide) ?_
    exact hret _ _ _ _ _ _ (Option.some.inj hf).symm (Or.inr rfl) w dX10_noJar_19
set_option maxHeartbeats 4000000 in
set_option maxRecDepth 100000 in
theorem mX10_noJar (l : Launch) (G : hy_G) (sz : Nat) (σ : hy_S) (x1 : Int32) (o : hy_S × Int32) (hf : fX10_noJar σ x1 = some o) : hy_M l yX10_noJar wsX10_noJar ({ frames := 1, cells := 0, slots := 0, locals := 22 }) mw G σ sz [.ref (G.2.2.2.2.1 0), .int x1] o := by
  refine Met.ofW (cc := cX10_noJar) (maxL := 2) (ret := (some .boolean)) (by decide +kernel) rfl ?_
  intro p e s m args below meth c s₁ B hml hv
  obtain ⟨rfl, hsz, hP, hK, hD0, hN⟩ := hv
  have hx := B.exec
  have hb := B.bytes
  have hr := B.returns
  have hts := atoms_spec (ws := wsX10_noJar) B.pre
  have hown : s.vm.findClass RX10 = some m.cls := findClass_of_methodNamed B.named
  have hlocks := B.notSynchronized
  subst hsz
  have hD := hD0.self (sz := s.heap.size)
  have hA : ∀ q : Nat, s.heap.size ≤ q → va_A (mw G σ) s.heap.size q := fun q h => Or.inr h
  have hS : va_S (va_A (mw G σ) s.heap.size) s.heap s.heap [] := va_S.rf
  have hl := lv_entry ([.ref (G.2.2.2.2.1 0), .int x1]) (n := 2) (Nat.le_of_ble_eq_true rfl)
  rw [lg_entry_eq]
  generalize (lg_sl ([.ref (G.2.2.2.2.1 0), .int x1]) ++ List.replicate (2 - (lg_sl ([.ref (G.2.2.2.2.1 0), .int x1])).length) Slot.unset).toArray = ls at hl ⊢
  have hl : lv_has ls 2 [(0, .ref (G.2.2.2.2.1 0)), (1, .int x1)] := hl
  refine bX10_noJar_0 (A := va_A (mw G σ) s.heap.size) hA ⟨⟨hx, hb, hml, hown, hts⟩, hK, hN⟩ ⟨Nat.le_of_ble_eq_true rfl, Nat.le_of_ble_eq_true rfl⟩ (o := o) (fun τ v pc H locs ls ho hz w d => ?_) σ x1 _ _ _ hf ⟨hP, hD, hS⟩ hl
  exact W.zret hx hb hr (hy_bool hz) (fun t ht hW => ⟨⟨v, τ, rfl, ⟨by rw [ho], by rw [ho]⟩, by have h9 := w.1; rw [← ht] at h9; exact h9⟩, w.2.2.F ht⟩) w.2.2.2.2 d
theorem in_X10_noHold_X10 : ∀ w ∈ u_ws RX10 TX10 43, w ∈ wsX10_noHold := fun _ h => xt1 (xr (h))
noncomputable def fX10_noHold_23 (σ : hy_S) : Option (hy_S × Int32) := some (σ, 1)
noncomputable def fX10_noHold (σ : hy_S) (x1 : Int32) (x2 : Int32) : Option (hy_S × Int32) := hy_bd (fX10_in σ x1 0 ((σ.2 3) - 1)) (fun σ1 v2 => (if v2 = 0 then fX10_noHold_23 σ1 else hy_bd (fX10_in σ1 x2 0 5) (fun σ5 v6 => (if v6 = 0 then fX10_noHold_23 σ5 else some (σ5, 0)))))
set_option maxHeartbeats 4000000 in
set_option maxRecDepth 100000 in
theorem bX10_noHold_23 (hA : ∀ q : Nat, s.heap.size ≤ q → A q) (B : hy_B RX10 cX10_noHold 3 wsX10_noHold G A p s m args c) (hR : 1 ≤ R.frames ∧ 22 ≤ R.locals) {o : hy_S × Int32}  (hret : ∀ (σ : hy_S) (v : Int32) (pc : Nat) (H : Heap) (locs : List Loc) (ls : Array Slot), o = (σ, v) → (v = 0 ∨ v = 1) → hy_w mw G A s σ H locs → decode cX10_noHold pc = .ok (.ireturn, 1) → W p l e R s m args below meth c H locs 0 0 Q (F0 m pc ls [.int v])) (σ : hy_S) (H : Heap) (locs : List Loc) (ls : Array Slot) (hf : fX10_noHold_23 σ = some o) (w : hy_w mw G A s σ H locs) (hl : lv_has ls 3 []) : W p l e R s m args below meth c H locs 0 0 Q (F0 m 23 ls []) := by
  unfold fX10_noHold_23 at hf
  refine lv_iconst (v := 1) B.1.1 B.1.2.1 dX10_noHold_23 (by decide) ?_
  refine lv_goto (tgt := 28) B.1.1 B.1.2.1 dX10_noHold_24 (by decide) ?_
  exact hret _ _ _ _ _ _ (Option.some.inj hf).symm (Or.inr rfl) w dX10_noHold_28
set_option maxHeartbeats 4000000 in
set_option maxRecDepth 100000 in
theorem bX10_noHold_0 (hA : ∀ q : Nat, s.heap.size ≤ q → A q) (B : hy_B RX10 cX10_noHold 3 wsX10_noHold G A p s m args c) (hR : 1 ≤ R.frames ∧ 22 ≤ R.locals) {o : hy_S × Int32}  (hret : ∀ (σ : hy_S) (v : Int32) (pc : Nat) (H : Heap) (locs : List Loc) (ls : Array Slot), o = (σ, v) → (v = 0 ∨ v = 1) → hy_w mw G A s σ H locs → decode cX10_noHold pc = .ok (.ireturn, 1) → W p l e R s m args below meth c H locs 0 0 Q (F0 m pc ls [.int v])) (σ : hy_S) (x1 : Int32) (x2 : Int32) (H : Heap) (locs : List Loc) (ls : Array Slot) (hf : fX10_noHold σ x1 x2 = some o) (w : hy_w mw G A s σ H locs) (hl : lv_has ls 3 [(0, .ref (G.2.2.2.2.1 0)), (1, .int x1), (2, .int x2)]) : W p l e R s m args below meth c H locs 0 0 Q (F0 m 0 ls []) := by
  unfold fX10_noHold at hf
  refine lv_iload_n B.1.1 B.1.2.1 dX10_noHold_0 rfl (lv_at hl 1 rfl) ?_
  refine lv_iconst (v := 0) B.1.1 B.1.2.1 dX10_noHold_1 (by decide) ?_
  refine lv_aload_n B.1.1 B.1.2.1 dX10_noHold_2 rfl (lv_at hl 0 rfl) ?_
  refine hy_get (k := 14) (v := .int (σ.2 3)) B w (mwq_0 G) rfl in_X10_noHold_X10 (by decide) (by decide +kernel) rfl dX10_noHold_3 ?_
  refine lv_iconst (v := 1) B.1.1 B.1.2.1 dX10_noHold_6 (by decide) ?_
  refine lv_isub B.1.1 B.1.2.1 dX10_noHold_7 ?_
  obtain ⟨σ1, v2, h3, hf⟩ := hy_bd_some hf
  refine hy_cs (As := [.int x1, .int 0, .int ((σ.2 3) - 1)]) (rest := []) (o := (σ1, v2)) mw_fix hA B w (fun sz => mX10_in l G sz σ x1 0 ((σ.2 3) - 1) _ h3) (cwS 3 B.1.2.2.2.2 gX10_noHold_X10_in rfl rfl rfl (by decide +kernel) ⟨by have := hR.1; show 0 + 1 ≤ _; omega, by have := hR.2; show 8 + (3 + 11) + 0 ≤ _; omega⟩) rfl hl.1 rfl (Nat.le_of_ble_eq_true rfl) dX10_noHold_8 ⟨Nat.zero_le _, Nat.zero_le _⟩ (fun H locs w => ?_)
  refine lv_if_eq (tgt := 23) B.1.1 B.1.2.1 dX10_noHold_11 (by decide) (fun c4 => ?_) (fun c4 => ?_)
  · rw [if_pos c4] at hf
    exact bX10_noHold_23 hA B hR  hret _ _ _ _ hf w (lv_sub hl [] rfl)
  · rw [if_neg c4] at hf
    refine lv_iload_n B.1.1 B.1.2.1 dX10_noHold_14 rfl (lv_at hl 2 rfl) ?_
    refine lv_iconst (v := 0) B.1.1 B.1.2.1 dX10_noHold_15 (by decide) ?_
    refine lv_iconst (v := 5) B.1.1 B.1.2.1 dX10_noHold_16 (by decide) ?_
    obtain ⟨σ5, v6, h7, hf⟩ := hy_bd_some hf
    refine hy_cs (As := [.int x2, .int 0, .int 5]) (rest := []) (o := (σ5, v6)) mw_fix hA B w (fun sz => mX10_in l G sz σ1 x2 0 5 _ h7) (cwS 3 B.1.2.2.2.2 gX10_noHold_X10_in rfl rfl rfl (by decide +kernel) ⟨by have := hR.1; show 0 + 1 ≤ _; omega, by have := hR.2; show 8 + (3 + 11) + 0 ≤ _; omega⟩) rfl hl.1 rfl (Nat.le_of_ble_eq_true rfl) dX10_noHold_17 ⟨Nat.zero_le _, Nat.zero_le _⟩ (fun H locs w => ?_)
    refine lv_if_ne (tgt := 27) B.1.1 B.1.2.1 dX10_noHold_20 (by decide) (fun c8 => ?_) (fun c8 => ?_)
    · rw [if_neg c8] at hf
      refine lv_iconst (v := 0) B.1.1 B.1.2.1 dX10_noHold_27 (by decide) ?_
      exact hret _ _ _ _ _ _ (Option.some.inj hf).symm (Or.inl rfl) w dX10_noHold_28
    · rw [if_pos c8] at hf
      exact bX10_noHold_23 hA B hR  hret _ _ _ _ hf w (lv_sub hl [] rfl)
set_option maxHeartbeats 4000000 in
set_option maxRecDepth 100000 in
theorem mX10_noHold (l : Launch) (G : hy_G) (sz : Nat) (σ : hy_S) (x1 : Int32) (x2 : Int32) (o : hy_S × Int32) (hf : fX10_noHold σ x1 x2 = some o) : hy_M l yX10_noHold wsX10_noHold ({ frames := 1, cells := 0, slots := 0, locals := 22 }) mw G σ sz [.ref (G.2.2.2.2.1 0), .int x1, .int x2] o := by
  refine Met.ofW (cc := cX10_noHold) (maxL := 3) (ret := (some .boolean)) (by decide +kernel) rfl ?_
  intro p e s m args below meth c s₁ B hml hv
  obtain ⟨rfl, hsz, hP, hK, hD0, hN⟩ := hv
  have hx := B.exec
  have hb := B.bytes
  have hr := B.returns
  have hts := atoms_spec (ws := wsX10_noHold) B.pre
  have hown : s.vm.findClass RX10 = some m.cls := findClass_of_methodNamed B.named
  have hlocks := B.notSynchronized
  subst hsz
  have hD := hD0.self (sz := s.heap.size)
  have hA : ∀ q : Nat, s.heap.size ≤ q → va_A (mw G σ) s.heap.size q := fun q h => Or.inr h
  have hS : va_S (va_A (mw G σ) s.heap.size) s.heap s.heap [] := va_S.rf
  have hl := lv_entry ([.ref (G.2.2.2.2.1 0), .int x1, .int x2]) (n := 3) (Nat.le_of_ble_eq_true rfl)
  rw [lg_entry_eq]
  generalize (lg_sl ([.ref (G.2.2.2.2.1 0), .int x1, .int x2]) ++ List.replicate (3 - (lg_sl ([.ref (G.2.2.2.2.1 0), .int x1, .int x2])).length) Slot.unset).toArray = ls at hl ⊢
  have hl : lv_has ls 3 [(0, .ref (G.2.2.2.2.1 0)), (1, .int x1), (2, .int x2)] := hl
  refine bX10_noHold_0 (A := va_A (mw G σ) s.heap.size) hA ⟨⟨hx, hb, hml, hown, hts⟩, hK, hN⟩ ⟨Nat.le_of_ble_eq_true rfl, Nat.le_of_ble_eq_true rfl⟩ (o := o) (fun τ v pc H locs ls ho hz w d => ?_) σ x1 x2 _ _ _ hf ⟨hP, hD, hS⟩ hl
  exact W.zret hx hb hr (hy_bool hz) (fun t ht hW => ⟨⟨v, τ, rfl, ⟨by rw [ho], by rw [ho]⟩, by have h9 := w.1; rw [← ht] at h9; exact h9⟩, w.2.2.F ht⟩) w.2.2.2.2 d
theorem in_X10_weight_X10 : ∀ w ∈ u_ws RX10 TX10 43, w ∈ wsX10_weight := fun _ h => xt1 (xr (h))
noncomputable def fX10_weight (σ : hy_S) (x1 : Int32) : Option (hy_S × Int32) := hy_ga σ 3 60 x1 (fun v1 => hy_ga σ 0 8 v1 (fun v4 => hy_ga σ 6 60 x1 (fun v7 => some (σ, (v4 + v7)))))
set_option maxHeartbeats 4000000 in
set_option maxRecDepth 100000 in
theorem bX10_weight_0 (hA : ∀ q : Nat, s.heap.size ≤ q → A q) (B : hy_B RX10 cX10_weight 2 wsX10_weight G A p s m args c) (hR : 0 ≤ R.frames ∧ 0 ≤ R.locals) {o : hy_S × Int32}  (hret : ∀ (σ : hy_S) (v : Int32) (pc : Nat) (H : Heap) (locs : List Loc) (ls : Array Slot), o = (σ, v) → hy_w mw G A s σ H locs → decode cX10_weight pc = .ok (.ireturn, 1) → W p l e R s m args below meth c H locs 0 0 Q (F0 m pc ls [.int v])) (σ : hy_S) (x1 : Int32) (H : Heap) (locs : List Loc) (ls : Array Slot) (hf : fX10_weight σ x1 = some o) (w : hy_w mw G A s σ H locs) (hl : lv_has ls 2 [(0, .ref (G.2.2.2.2.1 0)), (1, .int x1)]) : W p l e R s m args below meth c H locs 0 0 Q (F0 m 0 ls []) := by
  unfold fX10_weight at hf
  refine lv_aload_n B.1.1 B.1.2.1 dX10_weight_0 rfl (lv_at hl 0 rfl) ?_
  refine hy_get (k := 1) (v := .ref (G.2.2.2.2.1 1)) B w (mwq_0 G) rfl in_X10_weight_X10 (by decide) (by decide +kernel) rfl dX10_weight_1 ?_
  refine lv_aload_n B.1.1 B.1.2.1 dX10_weight_4 rfl (lv_at hl 0 rfl) ?_
  refine hy_get (k := 5) (v := .ref (G.2.2.2.2.1 4)) B w (mwq_0 G) rfl in_X10_weight_X10 (by decide) (by decide +kernel) rfl dX10_weight_5 ?_
  refine lv_iload_n B.1.1 B.1.2.1 dX10_weight_8 rfl (lv_at hl 1 rfl) ?_
  obtain ⟨h3, v1, e2, hf⟩ := hy_ga_some hf
  refine hy_iald B w (mwq_4 G) h3 e2 dX10_weight_9 ?_
  obtain ⟨h6, v4, e5, hf⟩ := hy_ga_some hf
  refine hy_iald B w (mwq_1 G) h6 e5 dX10_weight_10 ?_
  refine lv_aload_n B.1.1 B.1.2.1 dX10_weight_11 rfl (lv_at hl 0 rfl) ?_
  refine hy_get (k := 8) (v := .ref (G.2.2.2.2.1 7)) B w (mwq_0 G) rfl in_X10_weight_X10 (by decide) (by decide +kernel) rfl dX10_weight_12 ?_
  refine lv_iload_n B.1.1 B.1.2.1 dX10_weight_15 rfl (lv_at hl 1 rfl) ?_
  obtain ⟨h9, v7, e8, hf⟩ := hy_ga_some hf
  refine hy_iald B w (mwq_7 G) h9 e8 dX10_weight_16 ?_
  refine lv_iadd B.1.1 B.1.2.1 dX10_weight_17 ?_
  exact hret _ _ _ _ _ _ (Option.some.inj hf).symm w dX10_weight_18
set_option maxHeartbeats 4000000 in
set_option maxRecDepth 100000 in
theorem mX10_weight (l : Launch) (G : hy_G) (sz : Nat) (σ : hy_S) (x1 : Int32) (o : hy_S × Int32) (hf : fX10_weight σ x1 = some o) : hy_M l yX10_weight wsX10_weight ({ frames := 0, cells := 0, slots := 0, locals := 0 }) mw G σ sz [.ref (G.2.2.2.2.1 0), .int x1] o := by
  refine Met.ofW (cc := cX10_weight) (maxL := 2) (ret := (some .int)) (by decide +kernel) rfl ?_
  intro p e s m args below meth c s₁ B hml hv
  obtain ⟨rfl, hsz, hP, hK, hD0, hN⟩ := hv
  have hx := B.exec
  have hb := B.bytes
  have hr := B.returns
  have hts := atoms_spec (ws := wsX10_weight) B.pre
  have hown : s.vm.findClass RX10 = some m.cls := findClass_of_methodNamed B.named
  have hlocks := B.notSynchronized
  subst hsz
  have hD := hD0.self (sz := s.heap.size)
  have hA : ∀ q : Nat, s.heap.size ≤ q → va_A (mw G σ) s.heap.size q := fun q h => Or.inr h
  have hS : va_S (va_A (mw G σ) s.heap.size) s.heap s.heap [] := va_S.rf
  have hl := lv_entry ([.ref (G.2.2.2.2.1 0), .int x1]) (n := 2) (Nat.le_of_ble_eq_true rfl)
  rw [lg_entry_eq]
  generalize (lg_sl ([.ref (G.2.2.2.2.1 0), .int x1]) ++ List.replicate (2 - (lg_sl ([.ref (G.2.2.2.2.1 0), .int x1])).length) Slot.unset).toArray = ls at hl ⊢
  have hl : lv_has ls 2 [(0, .ref (G.2.2.2.2.1 0)), (1, .int x1)] := hl
  refine bX10_weight_0 (A := va_A (mw G σ) s.heap.size) hA ⟨⟨hx, hb, hml, hown, hts⟩, hK, hN⟩ ⟨Nat.le_of_ble_eq_true rfl, Nat.le_of_ble_eq_true rfl⟩ (o := o) (fun τ v pc H locs ls ho w d => ?_) σ x1 _ _ _ hf ⟨hP, hD, hS⟩ hl
  exact W.iret hx hb hr (fun t ht hW => ⟨⟨v, τ, rfl, ⟨by rw [ho], by rw [ho]⟩, by have h9 := w.1; rw [← ht] at h9; exact h9⟩, w.2.2.F ht⟩) w.2.2.2.2 d
theorem in_X10_kind_X10 : ∀ w ∈ u_ws RX10 TX10 43, w ∈ wsX10_kind := fun _ h => xt1 (xr (h))
noncomputable def fX10_kind_65 (σ : hy_S) (s0 : Int32) (x1 : Int32) (x2 : Int32) (x3 : Int32) : Option (hy_S × Int32) := hy_bd (fX10_throwsIf σ s0 2) (fun σ1 v2 => (if v2 = 0 then hy_pa σ1 0 8 (σ1.2 1) x1 (fun σ5 => hy_pa σ5 1 8 (σ5.2 1) x2 (fun σ8 => hy_pa σ8 2 8 (σ8.2 1) x3 (fun σ11 => hy_pf σ11 1 ((σ11.2 1) + 1) (fun σ14 => some (σ14, ((σ14.2 1) - 1)))))) else some (σ1, 0)))
noncomputable def fX10_kind_43 (σ : hy_S) (s0 : Int32) (x1 : Int32) (x2 : Int32) (x3 : Int32) : Option (hy_S × Int32) := hy_bd (fX10_throwsIf σ s0 1) (fun σ1 v2 => (if v2 = 0 then (if (σ1.2 1) = 8 then fX10_kind_65 σ1 1 x1 x2 x3 else fX10_kind_65 σ1 0 x1 x2 x3) else some (σ1, 0)))
noncomputable def fX10_kind_38 (σ : hy_S) (x1 : Int32) (x2 : Int32) (x3 : Int32) : Option (hy_S × Int32) := fX10_kind_43 σ 1 x1 x2 x3
noncomputable def fX10_kind (σ : hy_S) (x1 : Int32) (x2 : Int32) (x3 : Int32) : Option (hy_S × Int32) := hy_pf σ 0 0 (fun σ1 => hy_bd (fX10_in σ1 x1 1 100) (fun σ3 v4 => (if v4 = 0 then fX10_kind_38 σ3 x1 x2 x3 else hy_bd (fX10_in σ3 x2 1 200) (fun σ7 v8 => (if v8 = 0 then fX10_kind_38 σ7 x1 x2 x3 else hy_bd (fX10_in σ7 x3 0 5000) (fun σ11 v12 => (if v12 = 0 then fX10_kind_38 σ11 x1 x2 x3 else fX10_kind_43 σ11 0 x1 x2 x3)))))))
set_option maxHeartbeats 4000000 in
set_option maxRecDepth 100000 in
theorem bX10_kind_65 (hA : ∀ q : Nat, s.heap.size ≤ q → A q) (B : hy_B RX10 cX10_kind 4 wsX10_kind G A p s m args c) (hR : 1 ≤ R.frames ∧ 22 ≤ R.locals) {o : hy_S × Int32}  (hret : ∀ (σ : hy_S) (v : Int32) (pc : Nat) (H : Heap) (locs : List Loc) (ls : Array Slot), o = (σ, v) → hy_w mw G A s σ H locs → decode cX10_kind pc = .ok (.ireturn, 1) → W p l e R s m args below meth c H locs 0 0 Q (F0 m pc ls [.int v])) (σ : hy_S) (s0 : Int32) (x1 : Int32) (x2 : Int32) (x3 : Int32) (H : Heap) (locs : List Loc) (ls : Array Slot) (hf : fX10_kind_65 σ s0 x1 x2 x3 = some o) (w : hy_w mw G A s σ H locs) (hl : lv_has ls 4 [(0, .ref (G.2.2.2.2.1 0)), (1, .int x1), (2, .int x2), (3, .int x3)]) : W p l e R s m args below meth c H locs 0 0 Q (F0 m 65 ls [.int s0, .ref (G.2.2.2.2.1 0)]) := by
  unfold fX10_kind_65 at hf
  refine lv_iconst (v := 2) B.1.1 B.1.2.1 dX10_kind_65 (by decide) ?_
  obtain ⟨σ1, v2, h3, hf⟩ := hy_bd_some hf
  refine hy_cv (As := [.int s0, .int 2]) (rest := []) (o := (σ1, v2)) mw_fix hA B w (fun sz => mX10_throwsIf l G sz σ s0 2 _ h3) (cwV 2 B.1.2.2.2.2 gX10_kind_X10_throwsIf rfl rfl rfl (by decide +kernel) ⟨by have := hR.1; show 0 + 1 ≤ _; omega, by have := hR.2; show 8 + (3 + 11) + 0 ≤ _; omega⟩) rfl (mwq_0 G σ) rfl hl.1 rfl (Nat.le_of_ble_eq_true rfl) dX10_kind_66 ⟨Nat.zero_le _, Nat.zero_le _⟩ (fun H locs w => ?_)
  refine lv_if_eq (tgt := 74) B.1.1 B.1.2.1 dX10_kind_69 (by decide) (fun c4 => ?_) (fun c4 => ?_)
  · rw [if_pos c4] at hf
    refine lv_aload_n B.1.1 B.1.2.1 dX10_kind_74 rfl (lv_at hl 0 rfl) ?_
    refine hy_get (k := 1) (v := .ref (G.2.2.2.2.1 1)) B w (mwq_0 G) rfl in_X10_kind_X10 (by decide) (by decide +kernel) rfl dX10_kind_75 ?_
    refine lv_aload_n B.1.1 B.1.2.1 dX10_kind_78 rfl (lv_at hl 0 rfl) ?_
    refine hy_get (k := 4) (v := .int (σ1.2 1)) B w (mwq_0 G) rfl in_X10_kind_X10 (by decide) (by decide +kernel) rfl dX10_kind_79 ?_
    refine lv_iload_n B.1.1 B.1.2.1 dX10_kind_82 rfl (lv_at hl 1 rfl) ?_
    obtain ⟨h7, σ5, e6, hf⟩ := hy_pa_some hf
    refine hy_iast B w (mwq_1 G) (mws_1 G) h7 e6 dX10_kind_83 (fun H locs w => ?_)
    refine lv_aload_n B.1.1 B.1.2.1 dX10_kind_84 rfl (lv_at hl 0 rfl) ?_
    refine hy_get (k := 2) (v := .ref (G.2.2.2.2.1 2)) B w (mwq_0 G) rfl in_X10_kind_X10 (by decide) (by decide +kernel) rfl dX10_kind_85 ?_
    refine lv_aload_n B.1.1 B.1.2.1 dX10_kind_88 rfl (lv_at hl 0 rfl) ?_
    refine hy_get (k := 4) (v := .int (σ5.2 1)) B w (mwq_0 G) rfl in_X10_kind_X10 (by decide) (by decide +kernel) rfl dX10_kind_89 ?_
    refine lv_iload_n B.1.1 B.1.2.1 dX10_kind_92 rfl (lv_at hl 2 rfl) ?_
    obtain ⟨h10, σ8, e9, hf⟩ := hy_pa_some hf
    refine hy_iast B w (mwq_2 G) (mws_2 G) h10 e9 dX10_kind_93 (fun H locs w => ?_)
    refine lv_aload_n B.1.1 B.1.2.1 dX10_kind_94 rfl (lv_at hl 0 rfl) ?_
    refine hy_get (k := 3) (v := .ref (G.2.2.2.2.1 3)) B w (mwq_0 G) rfl in_X10_kind_X10 (by decide) (by decide +kernel) rfl dX10_kind_95 ?_
    refine lv_aload_n B.1.1 B.1.2.1 dX10_kind_98 rfl (lv_at hl 0 rfl) ?_
    refine hy_get (k := 4) (v := .int (σ8.2 1)) B w (mwq_0 G) rfl in_X10_kind_X10 (by decide) (by decide +kernel) rfl dX10_kind_99 ?_
    refine lv_iload_n B.1.1 B.1.2.1 dX10_kind_102 rfl (lv_at hl 3 rfl) ?_
    obtain ⟨h13, σ11, e12, hf⟩ := hy_pa_some hf
    refine hy_iast B w (mwq_3 G) (mws_3 G) h13 e12 dX10_kind_103 (fun H locs w => ?_)
    refine lv_aload_n B.1.1 B.1.2.1 dX10_kind_104 rfl (lv_at hl 0 rfl) ?_
    refine lv_dup B.1.1 B.1.2.1 dX10_kind_105 rfl ?_
    refine hy_get (k := 4) (v := .int (σ11.2 1)) B w (mwq_0 G) rfl in_X10_kind_X10 (by decide) (by decide +kernel) rfl dX10_kind_106 ?_
    refine lv_iconst (v := 1) B.1.1 B.1.2.1 dX10_kind_109 (by decide) ?_
    refine lv_iadd B.1.1 B.1.2.1 dX10_kind_110 ?_
    obtain ⟨σ14, e15, hf⟩ := hy_pf_some hf
    refine hy_put (k := 4) B w (mwq_0 G) rfl in_X10_kind_X10 tyX10 tyX10_ok nmX10 (by decide) (by decide +kernel) rfl rfl (by show 4 < 43; decide) (mwp_1 G) e15 dX10_kind_111 (fun H locs w => ?_)
    refine lv_aload_n B.1.1 B.1.2.1 dX10_kind_114 rfl (lv_at hl 0 rfl) ?_
    refine hy_get (k := 4) (v := .int (σ14.2 1)) B w (mwq_0 G) rfl in_X10_kind_X10 (by decide) (by decide +kernel) rfl dX10_kind_115 ?_
    refine lv_iconst (v := 1) B.1.1 B.1.2.1 dX10_kind_118 (by decide) ?_
    refine lv_isub B.1.1 B.1.2.1 dX10_kind_119 ?_
    exact hret _ _ _ _ _ _ (Option.some.inj hf).symm w dX10_kind_120
  · rw [if_neg c4] at hf
    refine lv_iconst (v := 0) B.1.1 B.1.2.1 dX10_kind_72 (by decide) ?_
    exact hret _ _ _ _ _ _ (Option.some.inj hf).symm w dX10_kind_73
set_option maxHeartbeats 4000000 in
set_option maxRecDepth 100000 in
theorem bX10_kind_43 (hA : ∀ q : Nat, s.heap.size ≤ q → A q) (B : hy_B RX10 cX10_kind 4 wsX10_kind G A p s m args c) (hR : 1 ≤ R.frames ∧ 22 ≤ R.locals) {o : hy_S × Int32}  (hret : ∀ (σ : hy_S) (v : Int32) (pc : Nat) (H : Heap) (locs : List Loc) (ls : Array Slot), o = (σ, v) → hy_w mw G A s σ H locs → decode cX10_kind pc = .ok (.ireturn, 1) → W p l e R s m args below meth c H locs 0 0 Q (F0 m pc ls [.int v])) (σ : hy_S) (s0 : Int32) (x1 : Int32) (x2 : Int32) (x3 : Int32) (H : Heap) (locs : List Loc) (ls : Array Slot) (hf : fX10_kind_43 σ s0 x1 x2 x3 = some o) (w : hy_w mw G A s σ H locs) (hl : lv_has ls 4 [(0, .ref (G.2.2.2.2.1 0)), (1, .int x1), (2, .int x2), (3, .int x3)]) : W p l e R s m args below meth c H locs 0 0 Q (F0 m 43 ls [.int s0, .ref (G.2.2.2.2.1 0)]) := by
  unfold fX10_kind_43 at hf
  refine lv_iconst (v := 1) B.1.1 B.1.2.1 dX10_kind_43 (by decide) ?_
  obtain ⟨σ1, v2, h3, hf⟩ := hy_bd_some hf
  refine hy_cv (As := [.int s0, .int 1]) (rest := []) (o := (σ1, v2)) mw_fix hA B w (fun sz => mX10_throwsIf l G sz σ s0 1 _ h3) (cwV 2 B.1.2.2.2.2 gX10_kind_X10_throwsIf rfl rfl rfl (by decide +kernel) ⟨by have := hR.1; show 0 + 1 ≤ _; omega, by have := hR.2; show 8 + (3 + 11) + 0 ≤ _; omega⟩) rfl (mwq_0 G σ) rfl hl.1 rfl (Nat.le_of_ble_eq_true rfl) dX10_kind_44 ⟨Nat.zero_le _, Nat.zero_le _⟩ (fun H locs w => ?_)
  refine lv_if_ne (tgt := 72) B.1.1 B.1.2.1 dX10_kind_47 (by decide) (fun c4 => ?_) (fun c4 => ?_)
  · rw [if_neg c4] at hf
    refine lv_iconst (v := 0) B.1.1 B.1.2.1 dX10_kind_72 (by decide) ?_
    exact hret _ _ _ _ _ _ (Option.some.inj hf).symm w dX10_kind_73
  · rw [if_pos c4] at hf
    refine lv_aload_n B.1.1 B.1.2.1 dX10_kind_50 rfl (lv_at hl 0 rfl) ?_
    refine lv_aload_n B.1.1 B.1.2.1 dX10_kind_51 rfl (lv_at hl 0 rfl) ?_
    refine hy_get (k := 4) (v := .int (σ1.2 1)) B w (mwq_0 G) rfl in_X10_kind_X10 (by decide) (by decide +kernel) rfl dX10_kind_52 ?_
    refine lv_bipush (v := 8) B.1.1 B.1.2.1 dX10_kind_55 (by decide) ?_
    refine lv_icmp_ne (tgt := 64) B.1.1 B.1.2.1 dX10_kind_57 (by decide) (fun c5 => ?_) (fun c5 => ?_)
    · rw [if_neg c5] at hf
      refine lv_iconst (v := 0) B.1.1 B.1.2.1 dX10_kind_64 (by decide) ?_
      exact bX10_kind_65 hA B hR  hret _ _ _ _ _ _ _ _ hf w (lv_sub hl [0, 1, 2, 3] rfl)
    · rw [if_pos c5] at hf
      refine lv_iconst (v := 1) B.1.1 B.1.2.1 dX10_kind_60 (by decide) ?_
      refine lv_goto (tgt := 65) B.1.1 B.1.2.1 dX10_kind_61 (by decide) ?_
      exact bX10_kind_65 hA B hR  hret _ _ _ _ _ _ _ _ hf w (lv_sub hl [0, 1, 2, 3] rfl)
set_option maxHeartbeats 4000000 in
set_option maxRecDepth 100000 in
theorem bX10_kind_38 (hA : ∀ q : Nat, s.heap.size ≤ q → A q) (B : hy_B RX10 cX10_kind 4 wsX10_kind G A p s m args c) (hR : 1 ≤ R.frames ∧ 22 ≤ R.locals) {o : hy_S × Int32}  (hret : ∀ (σ : hy_S) (v : Int32) (pc : Nat) (H : Heap) (locs : List Loc) (ls : Array Slot), o = (σ, v) → hy_w mw G A s σ H locs → decode cX10_kind pc = .ok (.ireturn, 1) → W p l e R s m args below meth c H locs 0 0 Q (F0 m pc ls [.int v])) (σ : hy_S) (x1 : Int32) (x2 : Int32) (x3 : Int32) (H : Heap) (locs : List Loc) (ls : Array Slot) (hf : fX10_kind_38 σ x1 x2 x3 = some o) (w : hy_w mw G A s σ H locs) (hl : lv_has ls 4 [(0, .ref (G.2.2.2.2.1 0)), (1, .int x1), (2, .int x2), (3, .int x3)]) : W p l e R s m args below meth c H locs 0 0 Q (F0 m 38 ls [.ref (G.2.2.2.2.1 0)]) := by
  unfold fX10_kind_38 at hf
  refine lv_iconst (v := 1) B.1.1 B.1.2.1 dX10_kind_38 (by decide) ?_
  refine lv_goto (tgt := 43) B.1.1 B.1.2.1 dX10_kind_39 (by decide) ?_
  exact bX10_kind_43 hA B hR  hret _ _ _ _ _ _ _ _ hf w (lv_sub hl [0, 1, 2, 3] rfl)
set_option maxHeartbeats 4000000 in
set_option maxRecDepth 100000 in
theorem bX10_kind_0 (hA : ∀ q : Nat, s.heap.size ≤ q → A q) (B : hy_B RX10 cX10_kind 4 wsX10_kind G A p s m args c) (hR : 1 ≤ R.frames ∧ 22 ≤ R.locals) {o : hy_S × Int32}  (hret : ∀ (σ : hy_S) (v : Int32) (pc : Nat) (H : Heap) (locs : List Loc) (ls : Array Slot), o = (σ, v) → hy_w mw G A s σ H locs → decode cX10_kind pc = .ok (.ireturn, 1) → W p l e R s m args below meth c H locs 0 0 Q (F0 m pc ls [.int v])) (σ : hy_S) (x1 : Int32) (x2 : Int32) (x3 : Int32) (H : Heap) (locs : List Loc) (ls : Array Slot) (hf : fX10_kind σ x1 x2 x3 = some o) (w : hy_w mw G A s σ H locs) (hl : lv_has ls 4 [(0, .ref (G.2.2.2.2.1 0)), (1, .int x1), (2, .int x2), (3, .int x3)]) : W p l e R s m args below meth c H locs 0 0 Q (F0 m 0 ls []) := by
  unfold fX10_kind at hf
  refine lv_aload_n B.1.1 B.1.2.1 dX10_kind_0 rfl (lv_at hl 0 rfl) ?_
  refine lv_iconst (v := 0) B.1.1 B.1.2.1 dX10_kind_1 (by decide) ?_
  obtain ⟨σ1, e2, hf⟩ := hy_pf_some hf
  refine hy_put (k := 0) B w (mwq_0 G) rfl in_X10_kind_X10 tyX10 tyX10_ok nmX10 (by decide) (by decide +kernel) rfl rfl (by show 0 < 43; decide) (mwp_0 G) e2 dX10_kind_2 (fun H locs w => ?_)
  refine lv_aload_n B.1.1 B.1.2.1 dX10_kind_5 rfl (lv_at hl 0 rfl) ?_
  refine lv_iload_n B.1.1 B.1.2.1 dX10_kind_6 rfl (lv_at hl 1 rfl) ?_
  refine lv_iconst (v := 1) B.1.1 B.1.2.1 dX10_kind_7 (by decide) ?_
  refine lv_bipush (v := 100) B.1.1 B.1.2.1 dX10_kind_8 (by decide) ?_
  obtain ⟨σ3, v4, h5, hf⟩ := hy_bd_some hf
  refine hy_cs (As := [.int x1, .int 1, .int 100]) (rest := [.ref (G.2.2.2.2.1 0)]) (o := (σ3, v4)) mw_fix hA B w (fun sz => mX10_in l G sz σ1 x1 1 100 _ h5) (cwS 3 B.1.2.2.2.2 gX10_kind_X10_in rfl rfl rfl (by decide +kernel) ⟨by have := hR.1; show 0 + 1 ≤ _; omega, by have := hR.2; show 8 + (3 + 11) + 0 ≤ _; omega⟩) rfl hl.1 rfl (Nat.le_of_ble_eq_true rfl) dX10_kind_10 ⟨Nat.zero_le _, Nat.zero_le _⟩ (fun H locs w => ?_)
  refine lv_if_eq (tgt := 38) B.1.1 B.1.2.1 dX10_kind_13 (by decide) (fun c6 => ?_) (fun c6 => ?_)
  · rw [if_pos c6] at hf
    exact bX10_kind_38 hA B hR  hret _ _ _ _ _ _ _ hf w (lv_sub hl [0, 1, 2, 3] rfl)
  · rw [if_neg c6] at hf
    refine lv_iload_n B.1.1 B.1.2.1 dX10_kind_16 rfl (lv_at hl 2 rfl) ?_
    refine lv_iconst (v := 1) B.1.1 B.1.2.1 dX10_kind_17 (by decide) ?_
    refine lv_sipush (v := 200) B.1.1 B.1.2.1 dX10_kind_18 (by decide) ?_
    obtain ⟨σ7, v8, h9, hf⟩ := hy_bd_some hf
    refine hy_cs (As := [.int x2, .int 1, .int 200]) (rest := [.ref (G.2.2.2.2.1 0)]) (o := (σ7, v8)) mw_fix hA B w (fun sz => mX10_in l G sz σ3 x2 1 200 _ h9) (cwS 3 B.1.2.2.2.2 gX10_kind_X10_in rfl rfl rfl (by decide +kernel) ⟨by have := hR.1; show 0 + 1 ≤ _; omega, by have := hR.2; show 8 + (3 + 11) + 0 ≤ _; omega⟩) rfl hl.1 rfl (Nat.le_of_ble_eq_true rfl) dX10_kind_21 ⟨Nat.zero_le _, Nat.zero_le _⟩ (fun H locs w => ?_)
    refine lv_if_eq (tgt := 38) B.1.1 B.1.2.1 dX10_kind_24 (by decide) (fun c10 => ?_) (fun c10 => ?_)
    · rw [if_pos c10] at hf
      exact bX10_kind_38 hA B hR  hret _ _ _ _ _ _ _ hf w (lv_sub hl [0, 1, 2, 3] rfl)
    · rw [if_neg c10] at hf
      refine lv_iload_n B.1.1 B.1.2.1 dX10_kind_27 rfl (lv_at hl 3 rfl) ?_
      refine lv_iconst (v := 0) B.1.1 B.1.2.1 dX10_kind_28 (by decide) ?_
      refine lv_sipush (v := 5000) B.1.1 B.1.2.1 dX10_kind_29 (by decide) ?_
      obtain ⟨σ11, v12, h13, hf⟩ := hy_bd_some hf
      refine hy_cs (As := [.int x3, .int 0, .int 5000]) (rest := [.ref (G.2.2.2.2.1 0)]) (o := (σ11, v12)) mw_fix hA B w (fun sz => mX10_in l G sz σ7 x3 0 5000 _ h13) (cwS 3 B.1.2.2.2.2 gX10_kind_X10_in rfl rfl rfl (by decide +kernel) ⟨by have := hR.1; show 0 + 1 ≤ _; omega, by have := hR.2; show 8 + (3 + 11) + 0 ≤ _; omega⟩) rfl hl.1 rfl (Nat.le_of_ble_eq_true rfl) dX10_kind_32 ⟨Nat.zero_le _, Nat.zero_le _⟩ (fun H locs w => ?_)
      refine lv_if_ne (tgt := 42) B.1.1 B.1.2.1 dX10_kind_35 (by decide) (fun c14 => ?_) (fun c14 => ?_)
      · rw [if_neg c14] at hf
        refine lv_iconst (v := 0) B.1.1 B.1.2.1 dX10_kind_42 (by decide) ?_
        exact bX10_kind_43 hA B hR  hret _ _ _ _ _ _ _ _ hf w (lv_sub hl [0, 1, 2, 3] rfl)
      · rw [if_pos c14] at hf
        exact bX10_kind_38 hA B hR  hret _ _ _ _ _ _ _ hf w (lv_sub hl [0, 1, 2, 3] rfl)
set_option maxHeartbeats 4000000 in
set_option maxRecDepth 100000 in
theorem mX10_kind (l : Launch) (G : hy_G) (sz : Nat) (σ : hy_S) (x1 : Int32) (x2 : Int32) (x3 : Int32) (o : hy_S × Int32) (hf : fX10_kind σ x1 x2 x3 = some o) : hy_M l yX10_kind wsX10_kind ({ frames := 1, cells := 0, slots := 0, locals := 22 }) mw G σ sz [.ref (G.2.2.2.2.1 0), .int x1, .int x2, .int x3] o := by
  refine Met.ofW (cc := cX10_kind) (maxL := 4) (ret := (some .int)) (by decide +kernel) rfl ?_
  intro p e s m args below meth c s₁ B hml hv
  obtain ⟨rfl, hsz, hP, hK, hD0, hN⟩ := hv
  have hx := B.exec
  have hb := B.bytes
  have hr := B.returns
  have hts := atoms_spec (ws := wsX10_kind) B.pre
  have hown : s.vm.findClass RX10 = some m.cls := findClass_of_methodNamed B.named
  have hlocks := B.notSynchronized
  subst hsz
  have hD := hD0.self (sz := s.heap.size)
  have hA : ∀ q : Nat, s.heap.size ≤ q → va_A (mw G σ) s.heap.size q := fun q h => Or.inr h
  have hS : va_S (va_A (mw G σ) s.heap.size) s.heap s.heap [] := va_S.rf
  have hl := lv_entry ([.ref (G.2.2.2.2.1 0), .int x1, .int x2, .int x3]) (n := 4) (Nat.le_of_ble_eq_true rfl)
  rw [lg_entry_eq]
  generalize (lg_sl ([.ref (G.2.2.2.2.1 0), .int x1, .int x2, .int x3]) ++ List.replicate (4 - (lg_sl ([.ref (G.2.2.2.2.1 0), .int x1, .int x2, .int x3])).length) Slot.unset).toArray = ls at hl ⊢
  have hl : lv_has ls 4 [(0, .ref (G.2.2.2.2.1 0)), (1, .int x1), (2, .int x2), (3, .int x3)] := hl
  refine bX10_kind_0 (A := va_A (mw G σ) s.heap.size) hA ⟨⟨hx, hb, hml, hown, hts⟩, hK, hN⟩ ⟨Nat.le_of_ble_eq_true rfl, Nat.le_of_ble_eq_true rfl⟩ (o := o) (fun τ v pc H locs ls ho w d => ?_) σ x1 x2 x3 _ _ _ hf ⟨hP, hD, hS⟩ hl
  exact W.iret hx hb hr (fun t ht hW => ⟨⟨v, τ, rfl, ⟨by rw [ho], by rw [ho]⟩, by have h9 := w.1; rw [← ht] at h9; exact h9⟩, w.2.2.F ht⟩) w.2.2.2.2 d
theorem in_X10_fire_X10 : ∀ w ∈ u_ws RX10 TX10 43, w ∈ wsX10_fire := fun _ h => xt1 (xr (h))
noncomputable def fX10_fire_81 (σ : hy_S) (s0 : Int32) (x1 : Int32) (x2 : Int32) (x3 : Int32) : Option (hy_S × Int32) := hy_bd (fX10_throwsIf σ s0 3) (fun σ1 v2 => (if v2 = 0 then hy_pa σ1 3 60 (σ1.2 2) x1 (fun σ5 => hy_pa σ5 4 60 (σ5.2 2) x2 (fun σ8 => hy_pa σ8 5 60 (σ8.2 2) x3 (fun σ11 => hy_pa σ11 8 60 (σ11.2 2) (-1) (fun σ14 => hy_pf σ14 2 ((σ14.2 2) + 1) (fun σ17 => some (σ17, ((σ17.2 2) - 1))))))) else some (σ1, 0)))
noncomputable def fX10_fire_59 (σ : hy_S) (s0 : Int32) (x1 : Int32) (x2 : Int32) (x3 : Int32) : Option (hy_S × Int32) := hy_bd (fX10_throwsIf σ s0 2) (fun σ1 v2 => (if v2 = 0 then (if (σ1.2 2) = 60 then fX10_fire_81 σ1 1 x1 x2 x3 else fX10_fire_81 σ1 0 x1 x2 x3) else some (σ1, 0)))
noncomputable def fX10_fire_54 (σ : hy_S) (x1 : Int32) (x2 : Int32) (x3 : Int32) : Option (hy_S × Int32) := fX10_fire_59 σ 1 x1 x2 x3
noncomputable def fX10_fire_25 (σ : hy_S) (s0 : Int32) (x1 : Int32) (x2 : Int32) (x3 : Int32) : Option (hy_S × Int32) := hy_bd (fX10_throwsIf σ s0 1) (fun σ1 v2 => (if v2 = 0 then hy_bd (fX10_in σ1 x2 0 15) (fun σ5 v6 => (if v6 = 0 then fX10_fire_54 σ5 x1 x2 x3 else hy_bd (fX10_in σ5 x3 1 300) (fun σ9 v10 => (if v10 = 0 then fX10_fire_54 σ9 x1 x2 x3 else fX10_fire_59 σ9 0 x1 x2 x3)))) else some (σ1, 0)))
noncomputable def fX10_fire (σ : hy_S) (x1 : Int32) (x2 : Int32) (x3 : Int32) : Option (hy_S × Int32) := hy_pf σ 0 0 (fun σ1 => hy_bd (fX10_in σ1 x1 0 ((σ1.2 1) - 1)) (fun σ3 v4 => (if v4 = 0 then fX10_fire_25 σ3 1 x1 x2 x3 else fX10_fire_25 σ3 0 x1 x2 x3)))
set_option maxHeartbeats 4000000 in
set_option maxRecDepth 100000 in
theorem bX10_fire_81 (hA : ∀ q : Nat, s.heap.size ≤ q → A q) (B : hy_B RX10 cX10_fire 4 wsX10_fire G A p s m args c) (hR : 1 ≤ R.frames ∧ 22 ≤ R.locals) {o : hy_S × Int32}  (hret : ∀ (σ : hy_S) (v : Int32) (pc : Nat) (H : Heap) (locs : List Loc) (ls : Array Slot), o = (σ, v) → hy_w mw G A s σ H locs → decode cX10_fire pc = .ok (.ireturn, 1) → W p l e R s m args below meth c H locs 0 0 Q (F0 m pc ls [.int v])) (σ : hy_S) (s0 : Int32) (x1 : Int32) (x2 : Int32) (x3 : Int32) (H : Heap) (locs : List Loc) (ls : Array Slot) (hf : fX10_fire_81 σ s0 x1 x2 x3 = some o) (w : hy_w mw G A s σ H locs) (hl : lv_has ls 4 [(0, .ref (G.2.2.2.2.1 0)), (1, .int x1), (2, .int x2), (3, .int x3)]) : W p l e R s m args below meth c H locs 0 0 Q (F0 m 81 ls [.int s0, .ref (G.2.2.2.2.1 0)]) := by
  unfold fX10_fire_81 at hf
  refine lv_iconst (v := 3) B.1.1 B.1.2.1 dX10_fire_81 (by decide) ?_
  obtain ⟨σ1, v2, h3, hf⟩ := hy_bd_some hf
  refine hy_cv (As := [.int s0, .int 3]) (rest := []) (o := (σ1, v2)) mw_fix hA B w (fun sz => mX10_throwsIf l G sz σ s0 3 _ h3) (cwV 2 B.1.2.2.2.2 gX10_fire_X10_throwsIf rfl rfl rfl (by decide +kernel) ⟨by have := hR.1; show 0 + 1 ≤ _; omega, by have := hR.2; show 8 + (3 + 11) + 0 ≤ _; omega⟩) rfl (mwq_0 G σ) rfl hl.1 rfl (Nat.le_of_ble_eq_true rfl) dX10_fire_82 ⟨Nat.zero_le _, Nat.zero_le _⟩ (fun H locs w => ?_)
  refine lv_if_eq (tgt := 90) B.1.1 B.1.2.1 dX10_fire_85 (by decide) (fun c4 => ?_) (fun c4 => ?_)
  · rw [if_pos c4] at hf
    refine lv_aload_n B.1.1 B.1.2.1 dX10_fire_90 rfl (lv_at hl 0 rfl) ?_
    refine hy_get (k := 5) (v := .ref (G.2.2.2.2.1 4)) B w (mwq_0 G) rfl in_X10_fire_X10 (by decide) (by decide +kernel) rfl dX10_fire_91 ?_
    refine lv_aload_n B.1.1 B.1.2.1 dX10_fire_94 rfl (lv_at hl 0 rfl) ?_
    refine hy_get (k := 11) (v := .int (σ1.2 2)) B w (mwq_0 G) rfl in_X10_fire_X10 (by decide) (by decide +kernel) rfl dX10_fire_95 ?_
    refine lv_iload_n B.1.1 B.1.2.1 dX10_fire_98 rfl (lv_at hl 1 rfl) ?_
    obtain ⟨h7, σ5, e6, hf⟩ := hy_pa_some hf
    refine hy_iast B w (mwq_4 G) (mws_4 G) h7 e6 dX10_fire_99 (fun H locs w => ?_)
    refine lv_aload_n B.1.1 B.1.2.1 dX10_fire_100 rfl (lv_at hl 0 rfl) ?_
    refine hy_get (k := 6) (v := .ref (G.2.2.2.2.1 5)) B w (mwq_0 G) rfl in_X10_fire_X10 (by decide) (by decide +kernel) rfl dX10_fire_101 ?_
    refine lv_aload_n B.1.1 B.1.2.1 dX10_fire_104 rfl (lv_at hl 0 rfl) ?_
    refine hy_get (k := 11) (v := .int (σ5.2 2)) B w (mwq_0 G) rfl in_X10_fire_X10 (by decide) (by decide +kernel) rfl dX10_fire_105 ?_
    refine lv_iload_n B.1.1 B.1.2.1 dX10_fire_108 rfl (lv_at hl 2 rfl) ?_
    obtain ⟨h10, σ8, e9, hf⟩ := hy_pa_some hf
    refine hy_iast B w (mwq_5 G) (mws_5 G) h10 e9 dX10_fire_109 (fun H locs w => ?_)
    refine lv_aload_n B.1.1 B.1.2.1 dX10_fire_110 rfl (lv_at hl 0 rfl) ?_
    refine hy_get (k := 7) (v := .ref (G.2.2.2.2.1 6)) B w (mwq_0 G) rfl in_X10_fire_X10 (by decide) (by decide +kernel) rfl dX10_fire_111 ?_
    refine lv_aload_n B.1.1 B.1.2.1 dX10_fire_114 rfl (lv_at hl 0 rfl) ?_
    refine hy_get (k := 11) (v := .int (σ8.2 2)) B w (mwq_0 G) rfl in_X10_fire_X10 (by decide) (by decide +kernel) rfl dX10_fire_115 ?_
    refine lv_iload_n B.1.1 B.1.2.1 dX10_fire_118 rfl (lv_at hl 3 rfl) ?_
    obtain ⟨h13, σ11, e12, hf⟩ := hy_pa_some hf
    refine hy_iast B w (mwq_6 G) (mws_6 G) h13 e12 dX10_fire_119 (fun H locs w => ?_)
    refine lv_aload_n B.1.1 B.1.2.1 dX10_fire_120 rfl (lv_at hl 0 rfl) ?_
    refine hy_get (k := 10) (v := .ref (G.2.2.2.2.1 9)) B w (mwq_0 G) rfl in_X10_fire_X10 (by decide) (by decide +kernel) rfl dX10_fire_121 ?_
    refine lv_aload_n B.1.1 B.1.2.1 dX10_fire_124 rfl (lv_at hl 0 rfl) ?_
    refine hy_get (k := 11) (v := .int (σ11.2 2)) B w (mwq_0 G) rfl in_X10_fire_X10 (by decide) (by decide +kernel) rfl dX10_fire_125 ?_
    refine lv_iconst (v := (-1)) B.1.1 B.1.2.1 dX10_fire_128 (by decide) ?_
    obtain ⟨h16, σ14, e15, hf⟩ := hy_pa_some hf
    refine hy_iast B w (mwq_9 G) (mws_9 G) h16 e15 dX10_fire_129 (fun H locs w => ?_)
    refine lv_aload_n B.1.1 B.1.2.1 dX10_fire_130 rfl (lv_at hl 0 rfl) ?_
    refine lv_dup B.1.1 B.1.2.1 dX10_fire_131 rfl ?_
    refine hy_get (k := 11) (v := .int (σ14.2 2)) B w (mwq_0 G) rfl in_X10_fire_X10 (by decide) (by decide +kernel) rfl dX10_fire_132 ?_
    refine lv_iconst (v := 1) B.1.1 B.1.2.1 dX10_fire_135 (by decide) ?_
    refine lv_iadd B.1.1 B.1.2.1 dX10_fire_136 ?_
    obtain ⟨σ17, e18, hf⟩ := hy_pf_some hf
    refine hy_put (k := 11) B w (mwq_0 G) rfl in_X10_fire_X10 tyX10 tyX10_ok nmX10 (by decide) (by decide +kernel) rfl rfl (by show 11 < 43; decide) (mwp_2 G) e18 dX10_fire_137 (fun H locs w => ?_)
    refine lv_aload_n B.1.1 B.1.2.1 dX10_fire_140 rfl (lv_at hl 0 rfl) ?_
    refine hy_get (k := 11) (v := .int (σ17.2 2)) B w (mwq_0 G) rfl in_X10_fire_X10 (by decide) (by decide +kernel) rfl dX10_fire_141 ?_
    refine lv_iconst (v := 1) B.1.1 B.1.2.1 dX10_fire_144 (by decide) ?_
    refine lv_isub B.1.1 B.1.2.1 dX10_fire_145 ?_
    exact hret _ _ _ _ _ _ (Option.some.inj hf).symm w dX10_fire_146
  · rw [if_neg c4] at hf
    refine lv_iconst (v := 0) B.1.1 B.1.2.1 dX10_fire_88 (by decide) ?_
    exact hret _ _ _ _ _ _ (Option.some.inj hf).symm w dX10_fire_89
set_option maxHeartbeats 4000000 in
set_option maxRecDepth 100000 in
theorem bX10_fire_59 (hA : ∀ q : Nat, s.heap.size ≤ q → A q) (B : hy_B RX10 cX10_fire 4 wsX10_fire G A p s m args c) (hR : 1 ≤ R.frames ∧ 22 ≤ R.locals) {o : hy_S × Int32}  (hret : ∀ (σ : hy_S) (v : Int32) (pc : Nat) (H : Heap) (locs : List Loc) (ls : Array Slot), o = (σ, v) → hy_w mw G A s σ H locs → decode cX10_fire pc = .ok (.ireturn, 1) → W p l e R s m args below meth c H locs 0 0 Q (F0 m pc ls [.int v])) (σ : hy_S) (s0 : Int32) (x1 : Int32) (x2 : Int32) (x3 : Int32) (H : Heap) (locs : List Loc) (ls : Array Slot) (hf : fX10_fire_59 σ s0 x1 x2 x3 = some o) (w : hy_w mw G A s σ H locs) (hl : lv_has ls 4 [(0, .ref (G.2.2.2.2.1 0)), (1, .int x1), (2, .int x2), (3, .int x3)]) : W p l e R s m args below meth c H locs 0 0 Q (F0 m 59 ls [.int s0, .ref (G.2.2.2.2.1 0)]) := by
  unfold fX10_fire_59 at hf
  refine lv_iconst (v := 2) B.1.1 B.1.2.1 dX10_fire_59 (by decide) ?_
  obtain ⟨σ1, v2, h3, hf⟩ := hy_bd_some hf
  refine hy_cv (As := [.int s0, .int 2]) (rest := []) (o := (σ1, v2)) mw_fix hA B w (fun sz => mX10_throwsIf l G sz σ s0 2 _ h3) (cwV 2 B.1.2.2.2.2 gX10_fire_X10_throwsIf rfl rfl rfl (by decide +kernel) ⟨by have := hR.1; show 0 + 1 ≤ _; omega, by have := hR.2; show 8 + (3 + 11) + 0 ≤ _; omega⟩) rfl (mwq_0 G σ) rfl hl.1 rfl (Nat.le_of_ble_eq_true rfl) dX10_fire_60 ⟨Nat.zero_le _, Nat.zero_le _⟩ (fun H locs w => ?_)
  refine lv_if_ne (tgt := 88) B.1.1 B.1.2.1 dX10_fire_63 (by decide) (fun c4 => ?_) (fun c4 => ?_)
  · rw [if_neg c4] at hf
    refine lv_iconst (v := 0) B.1.1 B.1.2.1 dX10_fire_88 (by decide) ?_
    exact hret _ _ _ _ _ _ (Option.some.inj hf).symm w dX10_fire_89
  · rw [if_pos c4] at hf
    refine lv_aload_n B.1.1 B.1.2.1 dX10_fire_66 rfl (lv_at hl 0 rfl) ?_
    refine lv_aload_n B.1.1 B.1.2.1 dX10_fire_67 rfl (lv_at hl 0 rfl) ?_
    refine hy_get (k := 11) (v := .int (σ1.2 2)) B w (mwq_0 G) rfl in_X10_fire_X10 (by decide) (by decide +kernel) rfl dX10_fire_68 ?_
    refine lv_bipush (v := 60) B.1.1 B.1.2.1 dX10_fire_71 (by decide) ?_
    refine lv_icmp_ne (tgt := 80) B.1.1 B.1.2.1 dX10_fire_73 (by decide) (fun c5 => ?_) (fun c5 => ?_)
    · rw [if_neg c5] at hf
      refine lv_iconst (v := 0) B.1.1 B.1.2.1 dX10_fire_80 (by decide) ?_
      exact bX10_fire_81 hA B hR  hret _ _ _ _ _ _ _ _ hf w (lv_sub hl [0, 1, 2, 3] rfl)
    · rw [if_pos c5] at hf
      refine lv_iconst (v := 1) B.1.1 B.1.2.1 dX10_fire_76 (by decide) ?_
      refine lv_goto (tgt := 81) B.1.1 B.1.2.1 dX10_fire_77 (by decide) ?_
      exact bX10_fire_81 hA B hR  hret _ _ _ _ _ _ _ _ hf w (lv_sub hl [0, 1, 2, 3] rfl)
set_option maxHeartbeats 4000000 in
set_option maxRecDepth 100000 in
theorem bX10_fire_54 (hA : ∀ q : Nat, s.heap.size ≤ q → A q) (B : hy_B RX10 cX10_fire 4 wsX10_fire G A p s m args c) (hR : 1 ≤ R.frames ∧ 22 ≤ R.locals) {o : hy_S × Int32}  (hret : ∀ (σ : hy_S) (v : Int32) (pc : Nat) (H : Heap) (locs : List Loc) (ls : Array Slot), o = (σ, v) → hy_w mw G A s σ H locs → decode cX10_fire pc = .ok (.ireturn, 1) → W p l e R s m args below meth c H locs 0 0 Q (F0 m pc ls [.int v])) (σ : hy_S) (x1 : Int32) (x2 : Int32) (x3 : Int32) (H : Heap) (locs : List Loc) (ls : Array Slot) (hf : fX10_fire_54 σ x1 x2 x3 = some o) (w : hy_w mw G A s σ H locs) (hl : lv_has ls 4 [(0, .ref (G.2.2.2.2.1 0)), (1, .int x1), (2, .int x2), (3, .int x3)]) : W p l e R s m args below meth c H locs 0 0 Q (F0 m 54 ls [.ref (G.2.2.2.2.1 0)]) := by
  unfold fX10_fire_54 at hf
  refine lv_iconst (v := 1) B.1.1 B.1.2.1 dX10_fire_54 (by decide) ?_
  refine lv_goto (tgt := 59) B.1.1 B.1.2.1 dX10_fire_55 (by decide) ?_
  exact bX10_fire_59 hA B hR  hret _ _ _ _ _ _ _ _ hf w (lv_sub hl [0, 1, 2, 3] rfl)
set_option maxHeartbeats 4000000 in
set_option maxRecDepth 100000 in
theorem bX10_fire_25 (hA : ∀ q : Nat, s.heap.size ≤ q → A q) (B : hy_B RX10 cX10_fire 4 wsX10_fire G A p s m args c) (hR : 1 ≤ R.frames ∧ 22 ≤ R.locals) {o : hy_S × Int32}  (hret : ∀ (σ : hy_S) (v : Int32) (pc : Nat) (H : Heap) (locs : List Loc) (ls : Array Slot), o = (σ, v) → hy_w mw G A s σ H locs → decode cX10_fire pc = .ok (.ireturn, 1) → W p l e R s m args below meth c H locs 0 0 Q (F0 m pc ls [.int v])) (σ : hy_S) (s0 : Int32) (x1 : Int32) (x2 : Int32) (x3 : Int32) (H : Heap) (locs : List Loc) (ls : Array Slot) (hf : fX10_fire_25 σ s0 x1 x2 x3 = some o) (w : hy_w mw G A s σ H locs) (hl : lv_has ls 4 [(0, .ref (G.2.2.2.2.1 0)), (1, .int x1), (2, .int x2), (3, .int x3)]) : W p l e R s m args below meth c H locs 0 0 Q (F0 m 25 ls [.int s0, .ref (G.2.2.2.2.1 0)]) := by
  unfold fX10_fire_25 at hf
  refine lv_iconst (v := 1) B.1.1 B.1.2.1 dX10_fire_25 (by decide) ?_
  obtain ⟨σ1, v2, h3, hf⟩ := hy_bd_some hf
  refine hy_cv (As := [.int s0, .int 1]) (rest := []) (o := (σ1, v2)) mw_fix hA B w (fun sz => mX10_throwsIf l G sz σ s0 1 _ h3) (cwV 2 B.1.2.2.2.2 gX10_fire_X10_throwsIf rfl rfl rfl (by decide +kernel) ⟨by have := hR.1; show 0 + 1 ≤ _; omega, by have := hR.2; show 8 + (3 + 11) + 0 ≤ _; omega⟩) rfl (mwq_0 G σ) rfl hl.1 rfl (Nat.le_of_ble_eq_true rfl) dX10_fire_26 ⟨Nat.zero_le _, Nat.zero_le _⟩ (fun H locs w => ?_)
  refine lv_if_ne (tgt := 88) B.1.1 B.1.2.1 dX10_fire_29 (by decide) (fun c4 => ?_) (fun c4 => ?_)
  · rw [if_neg c4] at hf
    refine lv_iconst (v := 0) B.1.1 B.1.2.1 dX10_fire_88 (by decide) ?_
    exact hret _ _ _ _ _ _ (Option.some.inj hf).symm w dX10_fire_89
  · rw [if_pos c4] at hf
    refine lv_aload_n B.1.1 B.1.2.1 dX10_fire_32 rfl (lv_at hl 0 rfl) ?_
    refine lv_iload_n B.1.1 B.1.2.1 dX10_fire_33 rfl (lv_at hl 2 rfl) ?_
    refine lv_iconst (v := 0) B.1.1 B.1.2.1 dX10_fire_34 (by decide) ?_
    refine lv_bipush (v := 15) B.1.1 B.1.2.1 dX10_fire_35 (by decide) ?_
    obtain ⟨σ5, v6, h7, hf⟩ := hy_bd_some hf
    refine hy_cs (As := [.int x2, .int 0, .int 15]) (rest := [.ref (G.2.2.2.2.1 0)]) (o := (σ5, v6)) mw_fix hA B w (fun sz => mX10_in l G sz σ1 x2 0 15 _ h7) (cwS 3 B.1.2.2.2.2 gX10_fire_X10_in rfl rfl rfl (by decide +kernel) ⟨by have := hR.1; show 0 + 1 ≤ _; omega, by have := hR.2; show 8 + (3 + 11) + 0 ≤ _; omega⟩) rfl hl.1 rfl (Nat.le_of_ble_eq_true rfl) dX10_fire_37 ⟨Nat.zero_le _, Nat.zero_le _⟩ (fun H locs w => ?_)
    refine lv_if_eq (tgt := 54) B.1.1 B.1.2.1 dX10_fire_40 (by decide) (fun c8 => ?_) (fun c8 => ?_)
    · rw [if_pos c8] at hf
      exact bX10_fire_54 hA B hR  hret _ _ _ _ _ _ _ hf w (lv_sub hl [0, 1, 2, 3] rfl)
    · rw [if_neg c8] at hf
      refine lv_iload_n B.1.1 B.1.2.1 dX10_fire_43 rfl (lv_at hl 3 rfl) ?_
      refine lv_iconst (v := 1) B.1.1 B.1.2.1 dX10_fire_44 (by decide) ?_
      refine lv_sipush (v := 300) B.1.1 B.1.2.1 dX10_fire_45 (by decide) ?_
      obtain ⟨σ9, v10, h11, hf⟩ := hy_bd_some hf
      refine hy_cs (As := [.int x3, .int 1, .int 300]) (rest := [.ref (G.2.2.2.2.1 0)]) (o := (σ9, v10)) mw_fix hA B w (fun sz => mX10_in l G sz σ5 x3 1 300 _ h11) (cwS 3 B.1.2.2.2.2 gX10_fire_X10_in rfl rfl rfl (by decide +kernel) ⟨by have := hR.1; show 0 + 1 ≤ _; omega, by have := hR.2; show 8 + (3 + 11) + 0 ≤ _; omega⟩) rfl hl.1 rfl (Nat.le_of_ble_eq_true rfl) dX10_fire_48 ⟨Nat.zero_le _, Nat.zero_le _⟩ (fun H locs w => ?_)
      refine lv_if_ne (tgt := 58) B.1.1 B.1.2.1 dX10_fire_51 (by decide) (fun c12 => ?_) (fun c12 => ?_)
      · rw [if_neg c12] at hf
        refine lv_iconst (v := 0) B.1.1 B.1.2.1 dX10_fire_58 (by decide) ?_
        exact bX10_fire_59 hA B hR  hret _ _ _ _ _ _ _ _ hf w (lv_sub hl [0, 1, 2, 3] rfl)
      · rw [if_pos c12] at hf
        exact bX10_fire_54 hA B hR  hret _ _ _ _ _ _ _ hf w (lv_sub hl [0, 1, 2, 3] rfl)
set_option maxHeartbeats 4000000 in
set_option maxRecDepth 100000 in
theorem bX10_fire_0 (hA : ∀ q : Nat, s.heap.size ≤ q → A q) (B : hy_B RX10 cX10_fire 4 wsX10_fire G A p s m args c) (hR : 1 ≤ R.frames ∧ 22 ≤ R.locals) {o : hy_S × Int32}  (hret : ∀ (σ : hy_S) (v : Int32) (pc : Nat) (H : Heap) (locs : List Loc) (ls : Array Slot), o = (σ, v) → hy_w mw G A s σ H locs → decode cX10_fire pc = .ok (.ireturn, 1) → W p l e R s m args below meth c H locs 0 0 Q (F0 m pc ls [.int v])) (σ : hy_S) (x1 : Int32) (x2 : Int32) (x3 : Int32) (H : Heap) (locs : List Loc) (ls : Array Slot) (hf : fX10_fire σ x1 x2 x3 = some o) (w : hy_w mw G A s σ H locs) (hl : lv_has ls 4 [(0, .ref (G.2.2.2.2.1 0)), (1, .int x1), (2, .int x2), (3, .int x3)]) : W p l e R s m args below meth c H locs 0 0 Q (F0 m 0 ls []) := by
  unfold fX10_fire at hf
  refine lv_aload_n B.1.1 B.1.2.1 dX10_fire_0 rfl (lv_at hl 0 rfl) ?_
  refine lv_iconst (v := 0) B.1.1 B.1.2.1 dX10_fire_1 (by decide) ?_
  obtain ⟨σ1, e2, hf⟩ := hy_pf_some hf
  refine hy_put (k := 0) B w (mwq_0 G) rfl in_X10_fire_X10 tyX10 tyX10_ok nmX10 (by decide) (by decide +kernel) rfl rfl (by show 0 < 43; decide) (mwp_0 G) e2 dX10_fire_2 (fun H locs w => ?_)
  refine lv_aload_n B.1.1 B.1.2.1 dX10_fire_5 rfl (lv_at hl 0 rfl) ?_
  refine lv_iload_n B.1.1 B.1.2.1 dX10_fire_6 rfl (lv_at hl 1 rfl) ?_
  refine lv_iconst (v := 0) B.1.1 B.1.2.1 dX10_fire_7 (by decide) ?_
  refine lv_aload_n B.1.1 B.1.2.1 dX10_fire_8 rfl (lv_at hl 0 rfl) ?_
  refine hy_get (k := 4) (v := .int (σ1.2 1)) B w (mwq_0 G) rfl in_X10_fire_X10 (by decide) (by decide +kernel) rfl dX10_fire_9 ?_
  refine lv_iconst (v := 1) B.1.1 B.1.2.1 dX10_fire_12 (by decide) ?_
  refine lv_isub B.1.1 B.1.2.1 dX10_fire_13 ?_
  obtain ⟨σ3, v4, h5, hf⟩ := hy_bd_some hf
  refine hy_cs (As := [.int x1, .int 0, .int ((σ1.2 1) - 1)]) (rest := [.ref (G.2.2.2.2.1 0)]) (o := (σ3, v4)) mw_fix hA B w (fun sz => mX10_in l G sz σ1 x1 0 ((σ1.2 1) - 1) _ h5) (cwS 3 B.1.2.2.2.2 gX10_fire_X10_in rfl rfl rfl (by decide +kernel) ⟨by have := hR.1; show 0 + 1 ≤ _; omega, by have := hR.2; show 8 + (3 + 11) + 0 ≤ _; omega⟩) rfl hl.1 rfl (Nat.le_of_ble_eq_true rfl) dX10_fire_14 ⟨Nat.zero_le _, Nat.zero_le _⟩ (fun H locs w => ?_)
  refine lv_if_ne (tgt := 24) B.1.1 B.1.2.1 dX10_fire_17 (by decide) (fun c6 => ?_) (fun c6 => ?_)
  · rw [if_neg c6] at hf
    refine lv_iconst (v := 0) B.1.1 B.1.2.1 dX10_fire_24 (by decide) ?_
    exact bX10_fire_25 hA B hR  hret _ _ _ _ _ _ _ _ hf w (lv_sub hl [0, 1, 2, 3] rfl)
  · rw [if_pos c6] at hf
    refine lv_iconst (v := 1) B.1.1 B.1.2.1 dX10_fire_20 (by decide) ?_
    refine lv_goto (tgt := 25) B.1.1 B.1.2.1 dX10_fire_21 (by decide) ?_
    exact bX10_fire_25 hA B hR  hret _ _ _ _ _ _ _ _ hf w (lv_sub hl [0, 1, 2, 3] rfl)
set_option maxHeartbeats 4000000 in
set_option maxRecDepth 100000 in
theorem mX10_fire (l : Launch) (G : hy_G) (sz : Nat) (σ : hy_S) (x1 : Int32) (x2 : Int32) (x3 : Int32) (o : hy_S × Int32) (hf : fX10_fire σ x1 x2 x3 = some o) : hy_M l yX10_fire wsX10_fire ({ frames := 1, cells := 0, slots := 0, locals := 22 }) mw G σ sz [.ref (G.2.2.2.2.1 0), .int x1, .int x2, .int x3] o := by
  refine Met.ofW (cc := cX10_fire) (maxL := 4) (ret := (some .int)) (by decide +kernel) rfl ?_
  intro p e s m args below meth c s₁ B hml hv
  obtain ⟨rfl, hsz, hP, hK, hD0, hN⟩ := hv
  have hx := B.exec
  have hb := B.bytes
  have hr := B.returns
  have hts := atoms_spec (ws := wsX10_fire) B.pre
  have hown : s.vm.findClass RX10 = some m.cls := findClass_of_methodNamed B.named
  have hlocks := B.notSynchronized
  subst hsz
  have hD := hD0.self (sz := s.heap.size)
  have hA : ∀ q : Nat, s.heap.size ≤ q → va_A (mw G σ) s.heap.size q := fun q h => Or.inr h
  have hS : va_S (va_A (mw G σ) s.heap.size) s.heap s.heap [] := va_S.rf
  have hl := lv_entry ([.ref (G.2.2.2.2.1 0), .int x1, .int x2, .int x3]) (n := 4) (Nat.le_of_ble_eq_true rfl)
  rw [lg_entry_eq]
  generalize (lg_sl ([.ref (G.2.2.2.2.1 0), .int x1, .int x2, .int x3]) ++ List.replicate (4 - (lg_sl ([.ref (G.2.2.2.2.1 0), .int x1, .int x2, .int x3])).length) Slot.unset).toArray = ls at hl ⊢
  have hl : lv_has ls 4 [(0, .ref (G.2.2.2.2.1 0)), (1, .int x1), (2, .int x2), (3, .int x3)] := hl
  refine bX10_fire_0 (A := va_A (mw G σ) s.heap.size) hA ⟨⟨hx, hb, hml, hown, hts⟩, hK, hN⟩ ⟨Nat.le_of_ble_eq_true rfl, Nat.le_of_ble_eq_true rfl⟩ (o := o) (fun τ v pc H locs ls ho w d => ?_) σ x1 x2 x3 _ _ _ hf ⟨hP, hD, hS⟩ hl
  exact W.iret hx hb hr (fun t ht hW => ⟨⟨v, τ, rfl, ⟨by rw [ho], by rw [ho]⟩, by have h9 := w.1; rw [← ht] at h9; exact h9⟩, w.2.2.F ht⟩) w.2.2.2.2 d
theorem in_X10_fill_X10 : ∀ w ∈ u_ws RX10 TX10 43, w ∈ wsX10_fill := fun _ h => xt1 (xr (h))
noncomputable def fX10_fill_35 (σ : hy_S) (s0 : Int32) (x1 : Int32) (x2 : Int32) : Option (hy_S × Int32) := hy_bd (fX10_throwsIf σ s0 2) (fun σ1 v2 => (if v2 = 0 then hy_ga σ1 7 60 x1 (fun v5 => (if v5 = 0 then hy_ga σ1 6 60 x1 (fun v9 => hy_ga σ1 3 60 x1 (fun v12 => hy_ga σ1 1 8 v12 (fun v15 => (if (v9 + x2) ≤ v15 then hy_ga σ1 6 60 x1 (fun v19 => hy_pa σ1 6 60 x1 (v19 + x2) (fun σ22 => hy_ga σ22 6 60 x1 (fun v25 => some (σ22, v25)))) else some (σ1, (-1)))))) else some (σ1, (-1)))) else some (σ1, 0)))
noncomputable def fX10_fill (σ : hy_S) (x1 : Int32) (x2 : Int32) : Option (hy_S × Int32) := hy_pf σ 0 0 (fun σ1 => hy_bd (fX10_noJar σ1 x1) (fun σ3 v4 => hy_bd (fX10_throwsIf σ3 v4 1) (fun σ6 v7 => (if v7 = 0 then hy_bd (fX10_in σ6 x2 1 200) (fun σ10 v11 => (if v11 = 0 then fX10_fill_35 σ10 1 x1 x2 else fX10_fill_35 σ10 0 x1 x2)) else some (σ6, 0)))))
set_option maxHeartbeats 4000000 in
set_option maxRecDepth 100000 in
theorem bX10_fill_35 (hA : ∀ q : Nat, s.heap.size ≤ q → A q) (B : hy_B RX10 cX10_fill 3 wsX10_fill G A p s m args c) (hR : 2 ≤ R.frames ∧ 43 ≤ R.locals) {o : hy_S × Int32}  (hret : ∀ (σ : hy_S) (v : Int32) (pc : Nat) (H : Heap) (locs : List Loc) (ls : Array Slot), o = (σ, v) → hy_w mw G A s σ H locs → decode cX10_fill pc = .ok (.ireturn, 1) → W p l e R s m args below meth c H locs 0 0 Q (F0 m pc ls [.int v])) (σ : hy_S) (s0 : Int32) (x1 : Int32) (x2 : Int32) (H : Heap) (locs : List Loc) (ls : Array Slot) (hf : fX10_fill_35 σ s0 x1 x2 = some o) (w : hy_w mw G A s σ H locs) (hl : lv_has ls 3 [(0, .ref (G.2.2.2.2.1 0)), (1, .int x1), (2, .int x2)]) : W p l e R s m args below meth c H locs 0 0 Q (F0 m 35 ls [.int s0, .ref (G.2.2.2.2.1 0)]) := by
  unfold fX10_fill_35 at hf
  refine lv_iconst (v := 2) B.1.1 B.1.2.1 dX10_fill_35 (by decide) ?_
  obtain ⟨σ1, v2, h3, hf⟩ := hy_bd_some hf
  refine hy_cv (As := [.int s0, .int 2]) (rest := []) (o := (σ1, v2)) mw_fix hA B w (fun sz => mX10_throwsIf l G sz σ s0 2 _ h3) (cwV 2 B.1.2.2.2.2 gX10_fill_X10_throwsIf rfl rfl rfl (by decide +kernel) ⟨by have := hR.1; show 0 + 1 ≤ _; omega, by have := hR.2; show 8 + (3 + 11) + 0 ≤ _; omega⟩) rfl (mwq_0 G σ) rfl hl.1 rfl (Nat.le_of_ble_eq_true rfl) dX10_fill_36 ⟨Nat.zero_le _, Nat.zero_le _⟩ (fun H locs w => ?_)
  refine lv_if_eq (tgt := 44) B.1.1 B.1.2.1 dX10_fill_39 (by decide) (fun c4 => ?_) (fun c4 => ?_)
  · rw [if_pos c4] at hf
    refine lv_aload_n B.1.1 B.1.2.1 dX10_fill_44 rfl (lv_at hl 0 rfl) ?_
    refine hy_get (k := 9) (v := .ref (G.2.2.2.2.1 8)) B w (mwq_0 G) rfl in_X10_fill_X10 (by decide) (by decide +kernel) rfl dX10_fill_45 ?_
    refine lv_iload_n B.1.1 B.1.2.1 dX10_fill_48 rfl (lv_at hl 1 rfl) ?_
    obtain ⟨h7, v5, e6, hf⟩ := hy_ga_some hf
    refine hy_iald B w (mwq_8 G) h7 e6 dX10_fill_49 ?_
    refine lv_if_ne (tgt := 75) B.1.1 B.1.2.1 dX10_fill_50 (by decide) (fun c8 => ?_) (fun c8 => ?_)
    · rw [if_neg c8] at hf
      refine lv_iconst (v := (-1)) B.1.1 B.1.2.1 dX10_fill_75 (by decide) ?_
      exact hret _ _ _ _ _ _ (Option.some.inj hf).symm w dX10_fill_76
    · rw [if_pos c8] at hf
      refine lv_aload_n B.1.1 B.1.2.1 dX10_fill_53 rfl (lv_at hl 0 rfl) ?_
      refine hy_get (k := 8) (v := .ref (G.2.2.2.2.1 7)) B w (mwq_0 G) rfl in_X10_fill_X10 (by decide) (by decide +kernel) rfl dX10_fill_54 ?_
      refine lv_iload_n B.1.1 B.1.2.1 dX10_fill_57 rfl (lv_at hl 1 rfl) ?_
      obtain ⟨h11, v9, e10, hf⟩ := hy_ga_some hf
      refine hy_iald B w (mwq_7 G) h11 e10 dX10_fill_58 ?_
      refine lv_iload_n B.1.1 B.1.2.1 dX10_fill_59 rfl (lv_at hl 2 rfl) ?_
      refine lv_iadd B.1.1 B.1.2.1 dX10_fill_60 ?_
      refine lv_aload_n B.1.1 B.1.2.1 dX10_fill_61 rfl (lv_at hl 0 rfl) ?_
      refine hy_get (k := 2) (v := .ref (G.2.2.2.2.1 2)) B w (mwq_0 G) rfl in_X10_fill_X10 (by decide) (by decide +kernel) rfl dX10_fill_62 ?_
      refine lv_aload_n B.1.1 B.1.2.1 dX10_fill_65 rfl (lv_at hl 0 rfl) ?_
      refine hy_get (k := 5) (v := .ref (G.2.2.2.2.1 4)) B w (mwq_0 G) rfl in_X10_fill_X10 (by decide) (by decide +kernel) rfl dX10_fill_66 ?_
      refine lv_iload_n B.1.1 B.1.2.1 dX10_fill_69 rfl (lv_at hl 1 rfl) ?_
      obtain ⟨h14, v12, e13, hf⟩ := hy_ga_some hf
      refine hy_iald B w (mwq_4 G) h14 e13 dX10_fill_70 ?_
      obtain ⟨h17, v15, e16, hf⟩ := hy_ga_some hf
      refine hy_iald B w (mwq_2 G) h17 e16 dX10_fill_71 ?_
      refine lv_icmp_le (tgt := 77) B.1.1 B.1.2.1 dX10_fill_72 (by decide) (fun c18 => ?_) (fun c18 => ?_)
      · rw [if_pos c18] at hf
        refine lv_aload_n B.1.1 B.1.2.1 dX10_fill_77 rfl (lv_at hl 0 rfl) ?_
        refine hy_get (k := 8) (v := .ref (G.2.2.2.2.1 7)) B w (mwq_0 G) rfl in_X10_fill_X10 (by decide) (by decide +kernel) rfl dX10_fill_78 ?_
        refine lv_iload_n B.1.1 B.1.2.1 dX10_fill_81 rfl (lv_at hl 1 rfl) ?_
        refine lv_dup2_11 B.1.1 B.1.2.1 dX10_fill_82 rfl rfl ?_
        obtain ⟨h21, v19, e20, hf⟩ := hy_ga_some hf
        refine hy_iald B w (mwq_7 G) h21 e20 dX10_fill_83 ?_
        refine lv_iload_n B.1.1 B.1.2.1 dX10_fill_84 rfl (lv_at hl 2 rfl) ?_
        refine lv_iadd B.1.1 B.1.2.1 dX10_fill_85 ?_
        obtain ⟨h24, σ22, e23, hf⟩ := hy_pa_some hf
        refine hy_iast B w (mwq_7 G) (mws_7 G) h24 e23 dX10_fill_86 (fun H locs w => ?_)
        refine lv_aload_n B.1.1 B.1.2.1 dX10_fill_87 rfl (lv_at hl 0 rfl) ?_
        refine hy_get (k := 8) (v := .ref (G.2.2.2.2.1 7)) B w (mwq_0 G) rfl in_X10_fill_X10 (by decide) (by decide +kernel) rfl dX10_fill_88 ?_
        refine lv_iload_n B.1.1 B.1.2.1 dX10_fill_91 rfl (lv_at hl 1 rfl) ?_
        obtain ⟨h27, v25, e26, hf⟩ := hy_ga_some hf
        refine hy_iald B w (mwq_7 G) h27 e26 dX10_fill_92 ?_
        exact hret _ _ _ _ _ _ (Option.some.inj hf).symm w dX10_fill_93
      · rw [if_neg c18] at hf
        refine lv_iconst (v := (-1)) B.1.1 B.1.2.1 dX10_fill_75 (by decide) ?_
        exact hret _ _ _ _ _ _ (Option.some.inj hf).symm w dX10_fill_76
  · rw [if_neg c4] at hf
    refine lv_iconst (v := 0) B.1.1 B.1.2.1 dX10_fill_42 (by decide) ?_
    exact hret _ _ _ _ _ _ (Option.some.inj hf).symm w dX10_fill_43
set_option maxHeartbeats 4000000 in
set_option maxRecDepth 100000 in
theorem bX10_fill_0 (hA : ∀ q : Nat, s.heap.size ≤ q → A q) (B : hy_B RX10 cX10_fill 3 wsX10_fill G A p s m args c) (hR : 2 ≤ R.frames ∧ 43 ≤ R.locals) {o : hy_S × Int32}  (hret : ∀ (σ : hy_S) (v : Int32) (pc : Nat) (H : Heap) (locs : List Loc) (ls : Array Slot), o = (σ, v) → hy_w mw G A s σ H locs → decode cX10_fill pc = .ok (.ireturn, 1) → W p l e R s m args below meth c H locs 0 0 Q (F0 m pc ls [.int v])) (σ : hy_S) (x1 : Int32) (x2 : Int32) (H : Heap) (locs : List Loc) (ls : Array Slot) (hf : fX10_fill σ x1 x2 = some o) (w : hy_w mw G A s σ H locs) (hl : lv_has ls 3 [(0, .ref (G.2.2.2.2.1 0)), (1, .int x1), (2, .int x2)]) : W p l e R s m args below meth c H locs 0 0 Q (F0 m 0 ls []) := by
  unfold fX10_fill at hf
  refine lv_aload_n B.1.1 B.1.2.1 dX10_fill_0 rfl (lv_at hl 0 rfl) ?_
  refine lv_iconst (v := 0) B.1.1 B.1.2.1 dX10_fill_1 (by decide) ?_
  obtain ⟨σ1, e2, hf⟩ := hy_pf_some hf
  refine hy_put (k := 0) B w (mwq_0 G) rfl in_X10_fill_X10 tyX10 tyX10_ok nmX10 (by decide) (by decide +kernel) rfl rfl (by show 0 < 43; decide) (mwp_0 G) e2 dX10_fill_2 (fun H locs w => ?_)
  refine lv_aload_n B.1.1 B.1.2.1 dX10_fill_5 rfl (lv_at hl 0 rfl) ?_
  refine lv_aload_n B.1.1 B.1.2.1 dX10_fill_6 rfl (lv_at hl 0 rfl) ?_
  refine lv_iload_n B.1.1 B.1.2.1 dX10_fill_7 rfl (lv_at hl 1 rfl) ?_
  obtain ⟨σ3, v4, h5, hf⟩ := hy_bd_some hf
  refine hy_cv (As := [.int x1]) (rest := [.ref (G.2.2.2.2.1 0)]) (o := (σ3, v4)) mw_fix hA B w (fun sz => mX10_noJar l G sz σ1 x1 _ h5) (cwV 1 B.1.2.2.2.2 gX10_fill_X10_noJar rfl rfl rfl (by decide +kernel) ⟨by have := hR.1; show 1 + 1 ≤ _; omega, by have := hR.2; show 8 + (2 + 11) + 22 ≤ _; omega⟩) rfl (mwq_0 G σ1) rfl hl.1 rfl (Nat.le_of_ble_eq_true rfl) dX10_fill_8 ⟨Nat.zero_le _, Nat.zero_le _⟩ (fun H locs w => ?_)
  refine lv_iconst (v := 1) B.1.1 B.1.2.1 dX10_fill_11 (by decide) ?_
  obtain ⟨σ6, v7, h8, hf⟩ := hy_bd_some hf
  refine hy_cv (As := [.int v4, .int 1]) (rest := []) (o := (σ6, v7)) mw_fix hA B w (fun sz => mX10_throwsIf l G sz σ3 v4 1 _ h8) (cwV 2 B.1.2.2.2.2 gX10_fill_X10_throwsIf rfl rfl rfl (by decide +kernel) ⟨by have := hR.1; show 0 + 1 ≤ _; omega, by have := hR.2; show 8 + (3 + 11) + 0 ≤ _; omega⟩) rfl (mwq_0 G σ3) rfl hl.1 rfl (Nat.le_of_ble_eq_true rfl) dX10_fill_12 ⟨Nat.zero_le _, Nat.zero_le _⟩ (fun H locs w => ?_)
  refine lv_if_ne (tgt := 42) B.1.1 B.1.2.1 dX10_fill_15 (by decide) (fun c9 => ?_) (fun c9 => ?_)
  · rw [if_neg c9] at hf
    refine lv_iconst (v := 0) B.1.1 B.1.2.1 dX10_fill_42 (by decide) ?_
    exact hret _ _ _ _ _ _ (Option.some.inj hf).symm w dX10_fill_43
  · rw [if_pos c9] at hf
    refine lv_aload_n B.1.1 B.1.2.1 dX10_fill_18 rfl (lv_at hl 0 rfl) ?_
    refine lv_iload_n B.1.1 B.1.2.1 dX10_fill_19 rfl (lv_at hl 2 rfl) ?_
    refine lv_iconst (v := 1) B.1.1 B.1.2.1 dX10_fill_20 (by decide) ?_
    refine lv_sipush (v := 200) B.1.1 B.1.2.1 dX10_fill_21 (by decide) ?_
    obtain ⟨σ10, v11, h12, hf⟩ := hy_bd_some hf
    refine hy_cs (As := [.int x2, .int 1, .int 200]) (rest := [.ref (G.2.2.2.2.1 0)]) (o := (σ10, v11)) mw_fix hA B w (fun sz => mX10_in l G sz σ6 x2 1 200 _ h12) (cwS 3 B.1.2.2.2.2 gX10_fill_X10_in rfl rfl rfl (by decide +kernel) ⟨by have := hR.1; show 0 + 1 ≤ _; omega, by have := hR.2; show 8 + (3 + 11) + 0 ≤ _; omega⟩) rfl hl.1 rfl (Nat.le_of_ble_eq_true rfl) dX10_fill_24 ⟨Nat.zero_le _, Nat.zero_le _⟩ (fun H locs w => ?_)
    refine lv_if_ne (tgt := 34) B.1.1 B.1.2.1 dX10_fill_27 (by decide) (fun c13 => ?_) (fun c13 => ?_)
    · rw [if_neg c13] at hf
      refine lv_iconst (v := 0) B.1.1 B.1.2.1 dX10_fill_34 (by decide) ?_
      exact bX10_fill_35 hA B hR  hret _ _ _ _ _ _ _ hf w (lv_sub hl [0, 1, 2] rfl)
    · rw [if_pos c13] at hf
      refine lv_iconst (v := 1) B.1.1 B.1.2.1 dX10_fill_30 (by decide) ?_
      refine lv_goto (tgt := 35) B.1.1 B.1.2.1 dX10_fill_31 (by decide) ?_
      exact bX10_fill_35 hA B hR  hret _ _ _ _ _ _ _ hf w (lv_sub hl [0, 1, 2] rfl)
set_option maxHeartbeats 4000000 in
set_option maxRecDepth 100000 in
theorem mX10_fill (l : Launch) (G : hy_G) (sz : Nat) (σ : hy_S) (x1 : Int32) (x2 : Int32) (o : hy_S × Int32) (hf : fX10_fill σ x1 x2 = some o) : hy_M l yX10_fill wsX10_fill ({ frames := 2, cells := 0, slots := 0, locals := 43 }) mw G σ sz [.ref (G.2.2.2.2.1 0), .int x1, .int x2] o := by
  refine Met.ofW (cc := cX10_fill) (maxL := 3) (ret := (some .int)) (by decide +kernel) rfl ?_
  intro p e s m args below meth c s₁ B hml hv
  obtain ⟨rfl, hsz, hP, hK, hD0, hN⟩ := hv
  have hx := B.exec
  have hb := B.bytes
  have hr := B.returns
  have hts := atoms_spec (ws := wsX10_fill) B.pre
  have hown : s.vm.findClass RX10 = some m.cls := findClass_of_methodNamed B.named
  have hlocks := B.notSynchronized
  subst hsz
  have hD := hD0.self (sz := s.heap.size)
  have hA : ∀ q : Nat, s.heap.size ≤ q → va_A (mw G σ) s.heap.size q := fun q h => Or.inr h
  have hS : va_S (va_A (mw G σ) s.heap.size) s.heap s.heap [] := va_S.rf
  have hl := lv_entry ([.ref (G.2.2.2.2.1 0), .int x1, .int x2]) (n := 3) (Nat.le_of_ble_eq_true rfl)
  rw [lg_entry_eq]
  generalize (lg_sl ([.ref (G.2.2.2.2.1 0), .int x1, .int x2]) ++ List.replicate (3 - (lg_sl ([.ref (G.2.2.2.2.1 0), .int x1, .int x2])).length) Slot.unset).toArray = ls at hl ⊢
  have hl : lv_has ls 3 [(0, .ref (G.2.2.2.2.1 0)), (1, .int x1), (2, .int x2)] := hl
  refine bX10_fill_0 (A := va_A (mw G σ) s.heap.size) hA ⟨⟨hx, hb, hml, hown, hts⟩, hK, hN⟩ ⟨Nat.le_of_ble_eq_true rfl, Nat.le_of_ble_eq_true rfl⟩ (o := o) (fun τ v pc H locs ls ho w d => ?_) σ x1 x2 _ _ _ hf ⟨hP, hD, hS⟩ hl
  exact W.iret hx hb hr (fun t ht hW => ⟨⟨v, τ, rfl, ⟨by rw [ho], by rw [ho]⟩, by have h9 := w.1; rw [← ht] at h9; exact h9⟩, w.2.2.F ht⟩) w.2.2.2.2 d
theorem in_X10_ship_X10 : ∀ w ∈ u_ws RX10 TX10 43, w ∈ wsX10_ship := fun _ h => xt1 (xr (h))
noncomputable def fX10_ship_19 (σ : hy_S) (s0 : Int32) : Option (hy_S × Int32) := hy_bd (fX10_throwsIf σ s0 1) (fun σ1 v2 => (if v2 = 0 then hy_pf σ1 3 ((σ1.2 3) + 1) (fun σ5 => some (σ5, ((σ5.2 3) - 1))) else some (σ1, 0)))
noncomputable def fX10_ship (σ : hy_S) : Option (hy_S × Int32) := hy_pf σ 0 0 (fun σ1 => (if (σ1.2 3) = 4 then fX10_ship_19 σ1 1 else fX10_ship_19 σ1 0))
set_option maxHeartbeats 4000000 in
set_option maxRecDepth 100000 in
theorem bX10_ship_19 (hA : ∀ q : Nat, s.heap.size ≤ q → A q) (B : hy_B RX10 cX10_ship 1 wsX10_ship G A p s m args c) (hR : 1 ≤ R.frames ∧ 22 ≤ R.locals) {o : hy_S × Int32}  (hret : ∀ (σ : hy_S) (v : Int32) (pc : Nat) (H : Heap) (locs : List Loc) (ls : Array Slot), o = (σ, v) → hy_w mw G A s σ H locs → decode cX10_ship pc = .ok (.ireturn, 1) → W p l e R s m args below meth c H locs 0 0 Q (F0 m pc ls [.int v])) (σ : hy_S) (s0 : Int32) (H : Heap) (locs : List Loc) (ls : Array Slot) (hf : fX10_ship_19 σ s0 = some o) (w : hy_w mw G A s σ H locs) (hl : lv_has ls 1 [(0, .ref (G.2.2.2.2.1 0))]) : W p l e R s m args below meth c H locs 0 0 Q (F0 m 19 ls [.int s0, .ref (G.2.2.2.2.1 0)]) := by
  unfold fX10_ship_19 at hf
  refine lv_iconst (v := 1) B.1.1 B.1.2.1 dX10_ship_19 (by decide) ?_
  obtain ⟨σ1, v2, h3, hf⟩ := hy_bd_some hf
  refine hy_cv (As := [.int s0, .int 1]) (rest := []) (o := (σ1, v2)) mw_fix hA B w (fun sz => mX10_throwsIf l G sz σ s0 1 _ h3) (cwV 2 B.1.2.2.2.2 gX10_ship_X10_throwsIf rfl rfl rfl (by decide +kernel) ⟨by have := hR.1; show 0 + 1 ≤ _; omega, by have := hR.2; show 8 + (3 + 11) + 0 ≤ _; omega⟩) rfl (mwq_0 G σ) rfl hl.1 rfl (Nat.le_of_ble_eq_true rfl) dX10_ship_20 ⟨Nat.zero_le _, Nat.zero_le _⟩ (fun H locs w => ?_)
  refine lv_if_eq (tgt := 28) B.1.1 B.1.2.1 dX10_ship_23 (by decide) (fun c4 => ?_) (fun c4 => ?_)
  · rw [if_pos c4] at hf
    refine lv_aload_n B.1.1 B.1.2.1 dX10_ship_28 rfl (lv_at hl 0 rfl) ?_
    refine lv_dup B.1.1 B.1.2.1 dX10_ship_29 rfl ?_
    refine hy_get (k := 14) (v := .int (σ1.2 3)) B w (mwq_0 G) rfl in_X10_ship_X10 (by decide) (by decide +kernel) rfl dX10_ship_30 ?_
    refine lv_iconst (v := 1) B.1.1 B.1.2.1 dX10_ship_33 (by decide) ?_
    refine lv_iadd B.1.1 B.1.2.1 dX10_ship_34 ?_
    obtain ⟨σ5, e6, hf⟩ := hy_pf_some hf
    refine hy_put (k := 14) B w (mwq_0 G) rfl in_X10_ship_X10 tyX10 tyX10_ok nmX10 (by decide) (by decide +kernel) rfl rfl (by show 14 < 43; decide) (mwp_3 G) e6 dX10_ship_35 (fun H locs w => ?_)
    refine lv_aload_n B.1.1 B.1.2.1 dX10_ship_38 rfl (lv_at hl 0 rfl) ?_
    refine hy_get (k := 14) (v := .int (σ5.2 3)) B w (mwq_0 G) rfl in_X10_ship_X10 (by decide) (by decide +kernel) rfl dX10_ship_39 ?_
    refine lv_iconst (v := 1) B.1.1 B.1.2.1 dX10_ship_42 (by decide) ?_
    refine lv_isub B.1.1 B.1.2.1 dX10_ship_43 ?_
    exact hret _ _ _ _ _ _ (Option.some.inj hf).symm w dX10_ship_44
  · rw [if_neg c4] at hf
    refine lv_iconst (v := 0) B.1.1 B.1.2.1 dX10_ship_26 (by decide) ?_
    exact hret _ _ _ _ _ _ (Option.some.inj hf).symm w dX10_ship_27
set_option maxHeartbeats 4000000 in
set_option maxRecDepth 100000 in
theorem bX10_ship_0 (hA : ∀ q : Nat, s.heap.size ≤ q → A q) (B : hy_B RX10 cX10_ship 1 wsX10_ship G A p s m args c) (hR : 1 ≤ R.frames ∧ 22 ≤ R.locals) {o : hy_S × Int32}  (hret : ∀ (σ : hy_S) (v : Int32) (pc : Nat) (H : Heap) (locs : List Loc) (ls : Array Slot), o = (σ, v) → hy_w mw G A s σ H locs → decode cX10_ship pc = .ok (.ireturn, 1) → W p l e R s m args below meth c H locs 0 0 Q (F0 m pc ls [.int v])) (σ : hy_S) (H : Heap) (locs : List Loc) (ls : Array Slot) (hf : fX10_ship σ = some o) (w : hy_w mw G A s σ H locs) (hl : lv_has ls 1 [(0, .ref (G.2.2.2.2.1 0))]) : W p l e R s m args below meth c H locs 0 0 Q (F0 m 0 ls []) := by
  unfold fX10_ship at hf
  refine lv_aload_n B.1.1 B.1.2.1 dX10_ship_0 rfl (lv_at hl 0 rfl) ?_
  refine lv_iconst (v := 0) B.1.1 B.1.2.1 dX10_ship_1 (by decide) ?_
  obtain ⟨σ1, e2, hf⟩ := hy_pf_some hf
  refine hy_put (k := 0) B w (mwq_0 G) rfl in_X10_ship_X10 tyX10 tyX10_ok nmX10 (by decide) (by decide +kernel) rfl rfl (by show 0 < 43; decide) (mwp_0 G) e2 dX10_ship_2 (fun H locs w => ?_)
  refine lv_aload_n B.1.1 B.1.2.1 dX10_ship_5 rfl (lv_at hl 0 rfl) ?_
  refine lv_aload_n B.1.1 B.1.2.1 dX10_ship_6 rfl (lv_at hl 0 rfl) ?_
  refine hy_get (k := 14) (v := .int (σ1.2 3)) B w (mwq_0 G) rfl in_X10_ship_X10 (by decide) (by decide +kernel) rfl dX10_ship_7 ?_
  refine lv_iconst (v := 4) B.1.1 B.1.2.1 dX10_ship_10 (by decide) ?_
  refine lv_icmp_ne (tgt := 18) B.1.1 B.1.2.1 dX10_ship_11 (by decide) (fun c3 => ?_) (fun c3 => ?_)
  · rw [if_neg c3] at hf
    refine lv_iconst (v := 0) B.1.1 B.1.2.1 dX10_ship_18 (by decide) ?_
    exact bX10_ship_19 hA B hR  hret _ _ _ _ _ hf w (lv_sub hl [0] rfl)
  · rw [if_pos c3] at hf
    refine lv_iconst (v := 1) B.1.1 B.1.2.1 dX10_ship_14 (by decide) ?_
    refine lv_goto (tgt := 19) B.1.1 B.1.2.1 dX10_ship_15 (by decide) ?_
    exact bX10_ship_19 hA B hR  hret _ _ _ _ _ hf w (lv_sub hl [0] rfl)
set_option maxHeartbeats 4000000 in
set_option maxRecDepth 100000 in
theorem mX10_ship (l : Launch) (G : hy_G) (sz : Nat) (σ : hy_S) (o : hy_S × Int32) (hf : fX10_ship σ = some o) : hy_M l yX10_ship wsX10_ship ({ frames := 1, cells := 0, slots := 0, locals := 22 }) mw G σ sz [.ref (G.2.2.2.2.1 0)] o := by
  refine Met.ofW (cc := cX10_ship) (maxL := 1) (ret := (some .int)) (by decide +kernel) rfl ?_
  intro p e s m args below meth c s₁ B hml hv
  obtain ⟨rfl, hsz, hP, hK, hD0, hN⟩ := hv
  have hx := B.exec
  have hb := B.bytes
  have hr := B.returns
  have hts := atoms_spec (ws := wsX10_ship) B.pre
  have hown : s.vm.findClass RX10 = some m.cls := findClass_of_methodNamed B.named
  have hlocks := B.notSynchronized
  subst hsz
  have hD := hD0.self (sz := s.heap.size)
  have hA : ∀ q : Nat, s.heap.size ≤ q → va_A (mw G σ) s.heap.size q := fun q h => Or.inr h
  have hS : va_S (va_A (mw G σ) s.heap.size) s.heap s.heap [] := va_S.rf
  have hl := lv_entry ([.ref (G.2.2.2.2.1 0)]) (n := 1) (Nat.le_of_ble_eq_true rfl)
  rw [lg_entry_eq]
  generalize (lg_sl ([.ref (G.2.2.2.2.1 0)]) ++ List.replicate (1 - (lg_sl ([.ref (G.2.2.2.2.1 0)])).length) Slot.unset).toArray = ls at hl ⊢
  have hl : lv_has ls 1 [(0, .ref (G.2.2.2.2.1 0))] := hl
  refine bX10_ship_0 (A := va_A (mw G σ) s.heap.size) hA ⟨⟨hx, hb, hml, hown, hts⟩, hK, hN⟩ ⟨Nat.le_of_ble_eq_true rfl, Nat.le_of_ble_eq_true rfl⟩ (o := o) (fun τ v pc H locs ls ho w d => ?_) σ _ _ _ hf ⟨hP, hD, hS⟩ hl
  exact W.iret hx hb hr (fun t ht hW => ⟨⟨v, τ, rfl, ⟨by rw [ho], by rw [ho]⟩, by have h9 := w.1; rw [← ht] at h9; exact h9⟩, w.2.2.F ht⟩) w.2.2.2.2 d
theorem in_X10_above_X10 : ∀ w ∈ u_ws RX10 TX10 43, w ∈ wsX10_above := fun _ h => xt1 (xr (h))
noncomputable def fX10_above_7 : Nat → hy_S → Int32 → Int32 → Int32 → Option (hy_S × Int32)
  | 0, _, _, _, _ => none
  | n + 1, σ, x1, x3, x4 => hy_ga σ 10 24 x1 (fun v1 => (if v1 ≤ x4 then some (σ, x3) else hy_ga σ 9 240 ((10 * x1) + x4) (fun v5 => hy_bd (fX10_weight σ v5) (fun σ8 v9 => (fX10_above_7 n) σ8 x1 (x3 + v9) (x4 + 1)))))
noncomputable def fX10_above (σ : hy_S) (x1 : Int32) (x2 : Int32) : Option (hy_S × Int32) := fX10_above_7 hy_fu σ x1 0 (x2 + 1)
set_option maxHeartbeats 4000000 in
set_option maxRecDepth 100000 in
theorem bX10_above_7 (hA : ∀ q : Nat, s.heap.size ≤ q → A q) (B : hy_B RX10 cX10_above 5 wsX10_above G A p s m args c) (hR : 1 ≤ R.frames ∧ 21 ≤ R.locals) {o : hy_S × Int32}  (hret : ∀ (σ : hy_S) (v : Int32) (pc : Nat) (H : Heap) (locs : List Loc) (ls : Array Slot), o = (σ, v) → hy_w mw G A s σ H locs → decode cX10_above pc = .ok (.ireturn, 1) → W p l e R s m args below meth c H locs 0 0 Q (F0 m pc ls [.int v])) : ∀ (n : Nat) (σ : hy_S) (x1 : Int32) (x3 : Int32) (x4 : Int32) (H : Heap) (locs : List Loc) (ls : Array Slot), fX10_above_7 n σ x1 x3 x4 = some o → hy_w mw G A s σ H locs → lv_has ls 5 [(0, .ref (G.2.2.2.2.1 0)), (1, .int x1), (3, .int x3), (4, .int x4)] → W p l e R s m args below meth c H locs 0 0 Q (F0 m 7 ls []) := by
  intro n
  induction n with
  | zero => intro σ x1 x3 x4 H locs ls hf; cases hf
  | succ n hk7 =>
    intro σ x1 x3 x4 H locs ls hf w hl
    unfold fX10_above_7 at hf
    refine lv_iload B.1.1 B.1.2.1 dX10_above_7 (lv_at hl 3 rfl) ?_
    refine lv_aload_n B.1.1 B.1.2.1 dX10_above_9 rfl (lv_at hl 0 rfl) ?_
    refine hy_get (k := 13) (v := .ref (G.2.2.2.2.1 11)) B w (mwq_0 G) rfl in_X10_above_X10 (by decide) (by decide +kernel) rfl dX10_above_10 ?_
    refine lv_iload_n B.1.1 B.1.2.1 dX10_above_13 rfl (lv_at hl 1 rfl) ?_
    obtain ⟨h3, v1, e2, hf⟩ := hy_ga_some hf
    refine hy_iald B w (mwq_11 G) h3 e2 dX10_above_14 ?_
    refine lv_icmp_ge (tgt := 43) B.1.1 B.1.2.1 dX10_above_15 (by decide) (fun c4 => ?_) (fun c4 => ?_)
    · rw [if_pos c4] at hf
      refine lv_iload_n B.1.1 B.1.2.1 dX10_above_43 rfl (lv_at hl 2 rfl) ?_
      exact hret _ _ _ _ _ _ (Option.some.inj hf).symm w dX10_above_44
    · rw [if_neg c4] at hf
      refine lv_iload_n B.1.1 B.1.2.1 dX10_above_18 rfl (lv_at hl 2 rfl) ?_
      refine lv_aload_n B.1.1 B.1.2.1 dX10_above_19 rfl (lv_at hl 0 rfl) ?_
      refine lv_aload_n B.1.1 B.1.2.1 dX10_above_20 rfl (lv_at hl 0 rfl) ?_
      refine hy_get (k := 12) (v := .ref (G.2.2.2.2.1 10)) B w (mwq_0 G) rfl in_X10_above_X10 (by decide) (by decide +kernel) rfl dX10_above_21 ?_
      refine lv_bipush (v := 10) B.1.1 B.1.2.1 dX10_above_24 (by decide) ?_
      refine lv_iload_n B.1.1 B.1.2.1 dX10_above_26 rfl (lv_at hl 1 rfl) ?_
      refine lv_imul B.1.1 B.1.2.1 dX10_above_27 ?_
      refine lv_iload B.1.1 B.1.2.1 dX10_above_28 (lv_at hl 3 rfl) ?_
      refine lv_iadd B.1.1 B.1.2.1 dX10_above_30 ?_
      obtain ⟨h7, v5, e6, hf⟩ := hy_ga_some hf
      refine hy_iald B w (mwq_10 G) h7 e6 dX10_above_31 ?_
      obtain ⟨σ8, v9, h10, hf⟩ := hy_bd_some hf
      refine hy_cv (As := [.int v5]) (rest := [.int x3]) (o := (σ8, v9)) mw_fix hA B w (fun sz => mX10_weight l G sz σ v5 _ h10) (cwV 1 B.1.2.2.2.2 gX10_above_X10_weight rfl rfl rfl (by decide +kernel) ⟨by have := hR.1; show 0 + 1 ≤ _; omega, by have := hR.2; show 8 + (2 + 11) + 0 ≤ _; omega⟩) rfl (mwq_0 G σ) rfl hl.1 rfl (Nat.le_of_ble_eq_true rfl) dX10_above_32 ⟨Nat.zero_le _, Nat.zero_le _⟩ (fun H locs w => ?_)
      refine lv_iadd B.1.1 B.1.2.1 dX10_above_35 ?_
      refine lv_istore_n (lv' := [(3, .int (x3 + v9)), (0, .ref (G.2.2.2.2.1 0)), (1, .int x1), (4, .int x4)]) B.1.1 B.1.2.1 dX10_above_36 rfl hl (by decide) rfl (fun ls hl => ?_)
      refine lv_iinc (v := (x4 + 1)) (lv' := [(4, .int (x4 + 1)), (3, .int (x3 + v9)), (0, .ref (G.2.2.2.2.1 0)), (1, .int x1)]) B.1.1 B.1.2.1 dX10_above_37 hl (k := 3) rfl rfl (by decide) rfl (fun ls hl => ?_)
      refine lv_goto (tgt := 7) B.1.1 B.1.2.1 dX10_above_40 (by decide) ?_
      exact hk7 _ _ _ _ _ _ _ hf w (lv_sub hl [2, 3, 1, 0] rfl)
set_option maxHeartbeats 4000000 in
set_option maxRecDepth 100000 in
theorem bX10_above_0 (hA : ∀ q : Nat, s.heap.size ≤ q → A q) (B : hy_B RX10 cX10_above 5 wsX10_above G A p s m args c) (hR : 1 ≤ R.frames ∧ 21 ≤ R.locals) {o : hy_S × Int32}  (hret : ∀ (σ : hy_S) (v : Int32) (pc : Nat) (H : Heap) (locs : List Loc) (ls : Array Slot), o = (σ, v) → hy_w mw G A s σ H locs → decode cX10_above pc = .ok (.ireturn, 1) → W p l e R s m args below meth c H locs 0 0 Q (F0 m pc ls [.int v])) (σ : hy_S) (x1 : Int32) (x2 : Int32) (H : Heap) (locs : List Loc) (ls : Array Slot) (hf : fX10_above σ x1 x2 = some o) (w : hy_w mw G A s σ H locs) (hl : lv_has ls 5 [(0, .ref (G.2.2.2.2.1 0)), (1, .int x1), (2, .int x2)]) : W p l e R s m args below meth c H locs 0 0 Q (F0 m 0 ls []) := by
  unfold fX10_above at hf
  refine lv_iconst (v := 0) B.1.1 B.1.2.1 dX10_above_0 (by decide) ?_
  refine lv_istore_n (lv' := [(3, .int 0), (0, .ref (G.2.2.2.2.1 0)), (1, .int x1), (2, .int x2)]) B.1.1 B.1.2.1 dX10_above_1 rfl hl (by decide) rfl (fun ls hl => ?_)
  refine lv_iload_n B.1.1 B.1.2.1 dX10_above_2 rfl (lv_at hl 3 rfl) ?_
  refine lv_iconst (v := 1) B.1.1 B.1.2.1 dX10_above_3 (by decide) ?_
  refine lv_iadd B.1.1 B.1.2.1 dX10_above_4 ?_
  refine lv_istore (lv' := [(4, .int (x2 + 1)), (3, .int 0), (0, .ref (G.2.2.2.2.1 0)), (1, .int x1), (2, .int x2)]) B.1.1 B.1.2.1 dX10_above_5 hl (by decide) rfl (fun ls hl => ?_)
  exact bX10_above_7 hA B hR  hret _ _ _ _ _ _ _ _ hf w (lv_sub hl [2, 3, 1, 0] rfl)
set_option maxHeartbeats 4000000 in
set_option maxRecDepth 100000 in
theorem mX10_above (l : Launch) (G : hy_G) (sz : Nat) (σ : hy_S) (x1 : Int32) (x2 : Int32) (o : hy_S × Int32) (hf : fX10_above σ x1 x2 = some o) : hy_M l yX10_above wsX10_above ({ frames := 1, cells := 0, slots := 0, locals := 21 }) mw G σ sz [.ref (G.2.2.2.2.1 0), .int x1, .int x2] o := by
  refine Met.ofW (cc := cX10_above) (maxL := 5) (ret := (some .int)) (by decide +kernel) rfl ?_
  intro p e s m args below meth c s₁ B hml hv
  obtain ⟨rfl, hsz, hP, hK, hD0, hN⟩ := hv
  have hx := B.exec
  have hb := B.bytes
  have hr := B.returns
  have hts := atoms_spec (ws := wsX10_above) B.pre
  have hown : s.vm.findClass RX10 = some m.cls := findClass_of_methodNamed B.named
  have hlocks := B.notSynchronized
  subst hsz
  have hD := hD0.self (sz := s.heap.size)
  have hA : ∀ q : Nat, s.heap.size ≤ q → va_A (mw G σ) s.heap.size q := fun q h => Or.inr h
  have hS : va_S (va_A (mw G σ) s.heap.size) s.heap s.heap [] := va_S.rf
  have hl := lv_entry ([.ref (G.2.2.2.2.1 0), .int x1, .int x2]) (n := 5) (Nat.le_of_ble_eq_true rfl)
  rw [lg_entry_eq]
  generalize (lg_sl ([.ref (G.2.2.2.2.1 0), .int x1, .int x2]) ++ List.replicate (5 - (lg_sl ([.ref (G.2.2.2.2.1 0), .int x1, .int x2])).length) Slot.unset).toArray = ls at hl ⊢
  have hl : lv_has ls 5 [(0, .ref (G.2.2.2.2.1 0)), (1, .int x1), (2, .int x2)] := hl
  refine bX10_above_0 (A := va_A (mw G σ) s.heap.size) hA ⟨⟨hx, hb, hml, hown, hts⟩, hK, hN⟩ ⟨Nat.le_of_ble_eq_true rfl, Nat.le_of_ble_eq_true rfl⟩ (o := o) (fun τ v pc H locs ls ho w d => ?_) σ x1 x2 _ _ _ hf ⟨hP, hD, hS⟩ hl
  exact W.iret hx hb hr (fun t ht hW => ⟨⟨v, τ, rfl, ⟨by rw [ho], by rw [ho]⟩, by have h9 := w.1; rw [← ht] at h9; exact h9⟩, w.2.2.F ht⟩) w.2.2.2.2 d
theorem in_X10_load_X10 : ∀ w ∈ u_ws RX10 TX10 43, w ∈ wsX10_load := fun _ h => xt1 (xr (h))
noncomputable def fX10_load_71 : Nat → hy_S → Int32 → Int32 → Int32 → Option (hy_S × Int32)
  | 0, _, _, _, _ => none
  | n + 1, σ, x1, x4, x5 => hy_ga σ 10 24 x4 (fun v1 => (if v1 ≤ x5 then hy_ga σ 10 24 x4 (fun v5 => hy_pa σ 9 240 ((10 * x4) + v5) x1 (fun σ8 => hy_ga σ8 10 24 x4 (fun v11 => hy_pa σ8 10 24 x4 (v11 + 1) (fun σ14 => hy_pa σ14 7 60 x1 1 (fun σ17 => hy_pa σ17 8 60 x1 x4 (fun σ20 => some (σ20, 1))))))) else hy_bd (fX10_above σ x4 x5) (fun σ23 v24 => hy_bd (fX10_weight σ23 x1) (fun σ26 v27 => hy_ga σ26 9 240 ((10 * x4) + x5) (fun v29 => hy_ga σ26 3 60 v29 (fun v32 => hy_ga σ26 2 8 v32 (fun v35 => (if (v24 + v27) ≤ v35 then (fX10_load_71 n) σ26 x1 x4 (x5 + 1) else some (σ26, 0)))))))))
noncomputable def fX10_load_28 (σ : hy_S) (s0 : Int32) (x1 : Int32) (x2 : Int32) (x3 : Int32) : Option (hy_S × Int32) := hy_bd (fX10_throwsIf σ s0 1) (fun σ1 v2 => (if v2 = 0 then hy_ga σ1 7 60 x1 (fun v5 => (if v5 = 0 then hy_ga σ1 10 24 ((6 * x2) + x3) (fun v9 => (if v9 = 10 then some (σ1, 0) else fX10_load_71 hy_fu σ1 x1 ((6 * x2) + x3) 0)) else some (σ1, 0))) else some (σ1, 0)))
noncomputable def fX10_load_23 (σ : hy_S) (x1 : Int32) (x2 : Int32) (x3 : Int32) : Option (hy_S × Int32) := fX10_load_28 σ 1 x1 x2 x3
noncomputable def fX10_load (σ : hy_S) (x1 : Int32) (x2 : Int32) (x3 : Int32) : Option (hy_S × Int32) := hy_pf σ 0 0 (fun σ1 => hy_bd (fX10_noJar σ1 x1) (fun σ3 v4 => (if v4 = 0 then hy_bd (fX10_noHold σ3 x2 x3) (fun σ7 v8 => (if v8 = 0 then fX10_load_28 σ7 0 x1 x2 x3 else fX10_load_23 σ7 x1 x2 x3)) else fX10_load_23 σ3 x1 x2 x3)))
set_option maxHeartbeats 4000000 in
set_option maxRecDepth 100000 in
theorem bX10_load_71 (hA : ∀ q : Nat, s.heap.size ≤ q → A q) (B : hy_B RX10 cX10_load 6 wsX10_load G A p s m args c) (hR : 2 ≤ R.frames ∧ 45 ≤ R.locals) {o : hy_S × Int32}  (hret : ∀ (σ : hy_S) (v : Int32) (pc : Nat) (H : Heap) (locs : List Loc) (ls : Array Slot), o = (σ, v) → (v = 0 ∨ v = 1) → hy_w mw G A s σ H locs → decode cX10_load pc = .ok (.ireturn, 1) → W p l e R s m args below meth c H locs 0 0 Q (F0 m pc ls [.int v])) : ∀ (n : Nat) (σ : hy_S) (x1 : Int32) (x4 : Int32) (x5 : Int32) (H : Heap) (locs : List Loc) (ls : Array Slot), fX10_load_71 n σ x1 x4 x5 = some o → hy_w mw G A s σ H locs → lv_has ls 6 [(0, .ref (G.2.2.2.2.1 0)), (1, .int x1), (4, .int x4), (5, .int x5)] → W p l e R s m args below meth c H locs 0 0 Q (F0 m 71 ls []) := by
  intro n
  induction n with
  | zero => intro σ x1 x4 x5 H locs ls hf; cases hf
  | succ n hk71 =>
    intro σ x1 x4 x5 H locs ls hf w hl
    unfold fX10_load_71 at hf
    refine lv_iload B.1.1 B.1.2.1 dX10_load_71 (lv_at hl 3 rfl) ?_
    refine lv_aload_n B.1.1 B.1.2.1 dX10_load_73 rfl (lv_at hl 0 rfl) ?_
    refine hy_get (k := 13) (v := .ref (G.2.2.2.2.1 11)) B w (mwq_0 G) rfl in_X10_load_X10 (by decide) (by decide +kernel) rfl dX10_load_74 ?_
    refine lv_iload B.1.1 B.1.2.1 dX10_load_77 (lv_at hl 2 rfl) ?_
    obtain ⟨h3, v1, e2, hf⟩ := hy_ga_some hf
    refine hy_iald B w (mwq_11 G) h3 e2 dX10_load_79 ?_
    refine lv_icmp_ge (tgt := 131) B.1.1 B.1.2.1 dX10_load_80 (by decide) (fun c4 => ?_) (fun c4 => ?_)
    · rw [if_pos c4] at hf
      refine lv_aload_n B.1.1 B.1.2.1 dX10_load_131 rfl (lv_at hl 0 rfl) ?_
      refine hy_get (k := 12) (v := .ref (G.2.2.2.2.1 10)) B w (mwq_0 G) rfl in_X10_load_X10 (by decide) (by decide +kernel) rfl dX10_load_132 ?_
      refine lv_bipush (v := 10) B.1.1 B.1.2.1 dX10_load_135 (by decide) ?_
      refine lv_iload B.1.1 B.1.2.1 dX10_load_137 (lv_at hl 2 rfl) ?_
      refine lv_imul B.1.1 B.1.2.1 dX10_load_139 ?_
      refine lv_aload_n B.1.1 B.1.2.1 dX10_load_140 rfl (lv_at hl 0 rfl) ?_
      refine hy_get (k := 13) (v := .ref (G.2.2.2.2.1 11)) B w (mwq_0 G) rfl in_X10_load_X10 (by decide) (by decide +kernel) rfl dX10_load_141 ?_
      refine lv_iload B.1.1 B.1.2.1 dX10_load_144 (lv_at hl 2 rfl) ?_
      obtain ⟨h7, v5, e6, hf⟩ := hy_ga_some hf
      refine hy_iald B w (mwq_11 G) h7 e6 dX10_load_146 ?_
      refine lv_iadd B.1.1 B.1.2.1 dX10_load_147 ?_
      refine lv_iload_n B.1.1 B.1.2.1 dX10_load_148 rfl (lv_at hl 1 rfl) ?_
      obtain ⟨h10, σ8, e9, hf⟩ := hy_pa_some hf
      refine hy_iast B w (mwq_10 G) (mws_10 G) h10 e9 dX10_load_149 (fun H locs w => ?_)
      refine lv_aload_n B.1.1 B.1.2.1 dX10_load_150 rfl (lv_at hl 0 rfl) ?_
      refine hy_get (k := 13) (v := .ref (G.2.2.2.2.1 11)) B w (mwq_0 G) rfl in_X10_load_X10 (by decide) (by decide +kernel) rfl dX10_load_151 ?_
      refine lv_iload B.1.1 B.1.2.1 dX10_load_154 (lv_at hl 2 rfl) ?_
      refine lv_dup2_11 B.1.1 B.1.2.1 dX10_load_156 rfl rfl ?_
      obtain ⟨h13, v11, e12, hf⟩ := hy_ga_some hf
      refine hy_iald B w (mwq_11 G) h13 e12 dX10_load_157 ?_
      refine lv_iconst (v := 1) B.1.1 B.1.2.1 dX10_load_158 (by decide) ?_
      refine lv_iadd B.1.1 B.1.2.1 dX10_load_159 ?_
      obtain ⟨h16, σ14, e15, hf⟩ := hy_pa_some hf
      refine hy_iast B w (mwq_11 G) (mws_11 G) h16 e15 dX10_load_160 (fun H locs w => ?_)
      refine lv_aload_n B.1.1 B.1.2.1 dX10_load_161 rfl (lv_at hl 0 rfl) ?_
      refine hy_get (k := 9) (v := .ref (G.2.2.2.2.1 8)) B w (mwq_0 G) rfl in_X10_load_X10 (by decide) (by decide +kernel) rfl dX10_load_162 ?_
      refine lv_iload_n B.1.1 B.1.2.1 dX10_load_165 rfl (lv_at hl 1 rfl) ?_
      refine lv_iconst (v := 1) B.1.1 B.1.2.1 dX10_load_166 (by decide) ?_
      obtain ⟨h19, σ17, e18, hf⟩ := hy_pa_some hf
      refine hy_iast B w (mwq_8 G) (mws_8 G) h19 e18 dX10_load_167 (fun H locs w => ?_)
      refine lv_aload_n B.1.1 B.1.2.1 dX10_load_168 rfl (lv_at hl 0 rfl) ?_
      refine hy_get (k := 10) (v := .ref (G.2.2.2.2.1 9)) B w (mwq_0 G) rfl in_X10_load_X10 (by decide) (by decide +kernel) rfl dX10_load_169 ?_
      refine lv_iload_n B.1.1 B.1.2.1 dX10_load_172 rfl (lv_at hl 1 rfl) ?_
      refine lv_iload B.1.1 B.1.2.1 dX10_load_173 (lv_at hl 2 rfl) ?_
      obtain ⟨h22, σ20, e21, hf⟩ := hy_pa_some hf
      refine hy_iast B w (mwq_9 G) (mws_9 G) h22 e21 dX10_load_175 (fun H locs w => ?_)
      refine lv_iconst (v := 1) B.1.1 B.1.2.1 dX10_load_176 (by decide) ?_
      exact hret _ _ _ _ _ _ (Option.some.inj hf).symm (Or.inr rfl) w dX10_load_177
    · rw [if_neg c4] at hf
      refine lv_aload_n B.1.1 B.1.2.1 dX10_load_83 rfl (lv_at hl 0 rfl) ?_
      refine lv_iload B.1.1 B.1.2.1 dX10_load_84 (lv_at hl 2 rfl) ?_
      refine lv_iload B.1.1 B.1.2.1 dX10_load_86 (lv_at hl 3 rfl) ?_
      obtain ⟨σ23, v24, h25, hf⟩ := hy_bd_some hf
      refine hy_cv (As := [.int x4, .int x5]) (rest := []) (o := (σ23, v24)) mw_fix hA B w (fun sz => mX10_above l G sz σ x4 x5 _ h25) (cwV 2 B.1.2.2.2.2 gX10_load_X10_above rfl rfl rfl (by decide +kernel) ⟨by have := hR.1; show 1 + 1 ≤ _; omega, by have := hR.2; show 8 + (5 + 11) + 21 ≤ _; omega⟩) rfl (mwq_0 G σ) rfl hl.1 rfl (Nat.le_of_ble_eq_true rfl) dX10_load_88 ⟨Nat.zero_le _, Nat.zero_le _⟩ (fun H locs w => ?_)
      refine lv_aload_n B.1.1 B.1.2.1 dX10_load_91 rfl (lv_at hl 0 rfl) ?_
      refine lv_iload_n B.1.1 B.1.2.1 dX10_load_92 rfl (lv_at hl 1 rfl) ?_
      obtain ⟨σ26, v27, h28, hf⟩ := hy_bd_some hf
      refine hy_cv (As := [.int x1]) (rest := [.int v24]) (o := (σ26, v27)) mw_fix hA B w (fun sz => mX10_weight l G sz σ23 x1 _ h28) (cwV 1 B.1.2.2.2.2 gX10_load_X10_weight rfl rfl rfl (by decide +kernel) ⟨by have := hR.1; show 0 + 1 ≤ _; omega, by have := hR.2; show 8 + (2 + 11) + 0 ≤ _; omega⟩) rfl (mwq_0 G σ23) rfl hl.1 rfl (Nat.le_of_ble_eq_true rfl) dX10_load_93 ⟨Nat.zero_le _, Nat.zero_le _⟩ (fun H locs w => ?_)
      refine lv_iadd B.1.1 B.1.2.1 dX10_load_96 ?_
      refine lv_aload_n B.1.1 B.1.2.1 dX10_load_97 rfl (lv_at hl 0 rfl) ?_
      refine hy_get (k := 3) (v := .ref (G.2.2.2.2.1 3)) B w (mwq_0 G) rfl in_X10_load_X10 (by decide) (by decide +kernel) rfl dX10_load_98 ?_
      refine lv_aload_n B.1.1 B.1.2.1 dX10_load_101 rfl (lv_at hl 0 rfl) ?_
      refine hy_get (k := 5) (v := .ref (G.2.2.2.2.1 4)) B w (mwq_0 G) rfl in_X10_load_X10 (by decide) (by decide +kernel) rfl dX10_load_102 ?_
      refine lv_aload_n B.1.1 B.1.2.1 dX10_load_105 rfl (lv_at hl 0 rfl) ?_
      refine hy_get (k := 12) (v := .ref (G.2.2.2.2.1 10)) B w (mwq_0 G) rfl in_X10_load_X10 (by decide) (by decide +kernel) rfl dX10_load_106 ?_
      refine lv_bipush (v := 10) B.1.1 B.1.2.1 dX10_load_109 (by decide) ?_
      refine lv_iload B.1.1 B.1.2.1 dX10_load_111 (lv_at hl 2 rfl) ?_
      refine lv_imul B.1.1 B.1.2.1 dX10_load_113 ?_
      refine lv_iload B.1.1 B.1.2.1 dX10_load_114 (lv_at hl 3 rfl) ?_
      refine lv_iadd B.1.1 B.1.2.1 dX10_load_116 ?_
      obtain ⟨h31, v29, e30, hf⟩ := hy_ga_some hf
      refine hy_iald B w (mwq_10 G) h31 e30 dX10_load_117 ?_
      obtain ⟨h34, v32, e33, hf⟩ := hy_ga_some hf
      refine hy_iald B w (mwq_4 G) h34 e33 dX10_load_118 ?_
      obtain ⟨h37, v35, e36, hf⟩ := hy_ga_some hf
      refine hy_iald B w (mwq_3 G) h37 e36 dX10_load_119 ?_
      refine lv_icmp_le (tgt := 125) B.1.1 B.1.2.1 dX10_load_120 (by decide) (fun c38 => ?_) (fun c38 => ?_)
      · rw [if_pos c38] at hf
        refine lv_iinc (v := (x5 + 1)) (lv' := [(5, .int (x5 + 1)), (0, .ref (G.2.2.2.2.1 0)), (1, .int x1), (4, .int x4)]) B.1.1 B.1.2.1 dX10_load_125 hl (k := 3) rfl rfl (by decide) rfl (fun ls hl => ?_)
        refine lv_goto (tgt := 71) B.1.1 B.1.2.1 dX10_load_128 (by decide) ?_
        exact hk71 _ _ _ _ _ _ _ hf w (lv_sub hl [1, 2, 3, 0] rfl)
      · rw [if_neg c38] at hf
        refine lv_iconst (v := 0) B.1.1 B.1.2.1 dX10_load_123 (by decide) ?_
        exact hret _ _ _ _ _ _ (Option.some.inj hf).symm (Or.inl rfl) w dX10_load_124
set_option maxHeartbeats 4000000 in
set_option maxRecDepth 100000 in
theorem bX10_load_28 (hA : ∀ q : Nat, s.heap.size ≤ q → A q) (B : hy_B RX10 cX10_load 6 wsX10_load G A p s m args c) (hR : 2 ≤ R.frames ∧ 45 ≤ R.locals) {o : hy_S × Int32}  (hret : ∀ (σ : hy_S) (v : Int32) (pc : Nat) (H : Heap) (locs : List Loc) (ls : Array Slot), o = (σ, v) → (v = 0 ∨ v = 1) → hy_w mw G A s σ H locs → decode cX10_load pc = .ok (.ireturn, 1) → W p l e R s m args below meth c H locs 0 0 Q (F0 m pc ls [.int v])) (σ : hy_S) (s0 : Int32) (x1 : Int32) (x2 : Int32) (x3 : Int32) (H : Heap) (locs : List Loc) (ls : Array Slot) (hf : fX10_load_28 σ s0 x1 x2 x3 = some o) (w : hy_w mw G A s σ H locs) (hl : lv_has ls 6 [(0, .ref (G.2.2.2.2.1 0)), (1, .int x1), (2, .int x2), (3, .int x3)]) : W p l e R s m args below meth c H locs 0 0 Q (F0 m 28 ls [.int s0, .ref (G.2.2.2.2.1 0)]) := by
  unfold fX10_load_28 at hf
  refine lv_iconst (v := 1) B.1.1 B.1.2.1 dX10_load_28 (by decide) ?_
  obtain ⟨σ1, v2, h3, hf⟩ := hy_bd_some hf
  refine hy_cv (As := [.int s0, .int 1]) (rest := []) (o := (σ1, v2)) mw_fix hA B w (fun sz => mX10_throwsIf l G sz σ s0 1 _ h3) (cwV 2 B.1.2.2.2.2 gX10_load_X10_throwsIf rfl rfl rfl (by decide +kernel) ⟨by have := hR.1; show 0 + 1 ≤ _; omega, by have := hR.2; show 8 + (3 + 11) + 0 ≤ _; omega⟩) rfl (mwq_0 G σ) rfl hl.1 rfl (Nat.le_of_ble_eq_true rfl) dX10_load_29 ⟨Nat.zero_le _, Nat.zero_le _⟩ (fun H locs w => ?_)
  refine lv_if_eq (tgt := 37) B.1.1 B.1.2.1 dX10_load_32 (by decide) (fun c4 => ?_) (fun c4 => ?_)
  · rw [if_pos c4] at hf
    refine lv_bipush (v := 6) B.1.1 B.1.2.1 dX10_load_37 (by decide) ?_
    refine lv_iload_n B.1.1 B.1.2.1 dX10_load_39 rfl (lv_at hl 2 rfl) ?_
    refine lv_imul B.1.1 B.1.2.1 dX10_load_40 ?_
    refine lv_iload_n B.1.1 B.1.2.1 dX10_load_41 rfl (lv_at hl 3 rfl) ?_
    refine lv_iadd B.1.1 B.1.2.1 dX10_load_42 ?_
    refine lv_istore (lv' := [(4, .int ((6 * x2) + x3)), (0, .ref (G.2.2.2.2.1 0)), (1, .int x1), (2, .int x2), (3, .int x3)]) B.1.1 B.1.2.1 dX10_load_43 hl (by decide) rfl (fun ls hl => ?_)
    refine lv_aload_n B.1.1 B.1.2.1 dX10_load_45 rfl (lv_at hl 1 rfl) ?_
    refine hy_get (k := 9) (v := .ref (G.2.2.2.2.1 8)) B w (mwq_0 G) rfl in_X10_load_X10 (by decide) (by decide +kernel) rfl dX10_load_46 ?_
    refine lv_iload_n B.1.1 B.1.2.1 dX10_load_49 rfl (lv_at hl 2 rfl) ?_
    obtain ⟨h7, v5, e6, hf⟩ := hy_ga_some hf
    refine hy_iald B w (mwq_8 G) h7 e6 dX10_load_50 ?_
    refine lv_if_ne (tgt := 66) B.1.1 B.1.2.1 dX10_load_51 (by decide) (fun c8 => ?_) (fun c8 => ?_)
    · rw [if_neg c8] at hf
      refine lv_iconst (v := 0) B.1.1 B.1.2.1 dX10_load_66 (by decide) ?_
      exact hret _ _ _ _ _ _ (Option.some.inj hf).symm (Or.inl rfl) w dX10_load_67
    · rw [if_pos c8] at hf
      refine lv_aload_n B.1.1 B.1.2.1 dX10_load_54 rfl (lv_at hl 1 rfl) ?_
      refine hy_get (k := 13) (v := .ref (G.2.2.2.2.1 11)) B w (mwq_0 G) rfl in_X10_load_X10 (by decide) (by decide +kernel) rfl dX10_load_55 ?_
      refine lv_iload B.1.1 B.1.2.1 dX10_load_58 (lv_at hl 0 rfl) ?_
      obtain ⟨h11, v9, e10, hf⟩ := hy_ga_some hf
      refine hy_iald B w (mwq_11 G) h11 e10 dX10_load_60 ?_
      refine lv_bipush (v := 10) B.1.1 B.1.2.1 dX10_load_61 (by decide) ?_
      refine lv_icmp_ne (tgt := 68) B.1.1 B.1.2.1 dX10_load_63 (by decide) (fun c12 => ?_) (fun c12 => ?_)
      · rw [if_neg c12] at hf
        refine lv_iconst (v := 0) B.1.1 B.1.2.1 dX10_load_68 (by decide) ?_
        refine lv_istore (lv' := [(5, .int 0), (4, .int ((6 * x2) + x3)), (0, .ref (G.2.2.2.2.1 0)), (1, .int x1), (2, .int x2), (3, .int x3)]) B.1.1 B.1.2.1 dX10_load_69 hl (by decide) rfl (fun ls hl => ?_)
        exact bX10_load_71 hA B hR  hret _ _ _ _ _ _ _ _ hf w (lv_sub hl [2, 3, 1, 0] rfl)
      · rw [if_pos c12] at hf
        refine lv_iconst (v := 0) B.1.1 B.1.2.1 dX10_load_66 (by decide) ?_
        exact hret _ _ _ _ _ _ (Option.some.inj hf).symm (Or.inl rfl) w dX10_load_67
  · rw [if_neg c4] at hf
    refine lv_iconst (v := 0) B.1.1 B.1.2.1 dX10_load_35 (by decide) ?_
    exact hret _ _ _ _ _ _ (Option.some.inj hf).symm (Or.inl rfl) w dX10_load_36
set_option maxHeartbeats 4000000 in
set_option maxRecDepth 100000 in
theorem bX10_load_23 (hA : ∀ q : Nat, s.heap.size ≤ q → A q) (B : hy_B RX10 cX10_load 6 wsX10_load G A p s m args c) (hR : 2 ≤ R.frames ∧ 45 ≤ R.locals) {o : hy_S × Int32}  (hret : ∀ (σ : hy_S) (v : Int32) (pc : Nat) (H : Heap) (locs : List Loc) (ls : Array Slot), o = (σ, v) → (v = 0 ∨ v = 1) → hy_w mw G A s σ H locs → decode cX10_load pc = .ok (.ireturn, 1) → W p l e R s m args below meth c H locs 0 0 Q (F0 m pc ls [.int v])) (σ : hy_S) (x1 : Int32) (x2 : Int32) (x3 : Int32) (H : Heap) (locs : List Loc) (ls : Array Slot) (hf : fX10_load_23 σ x1 x2 x3 = some o) (w : hy_w mw G A s σ H locs) (hl : lv_has ls 6 [(0, .ref (G.2.2.2.2.1 0)), (1, .int x1), (2, .int x2), (3, .int x3)]) : W p l e R s m args below meth c H locs 0 0 Q (F0 m 23 ls [.ref (G.2.2.2.2.1 0)]) := by
  unfold fX10_load_23 at hf
  refine lv_iconst (v := 1) B.1.1 B.1.2.1 dX10_load_23 (by decide) ?_
  refine lv_goto (tgt := 28) B.1.1 B.1.2.1 dX10_load_24 (by decide) ?_
  exact bX10_load_28 hA B hR  hret _ _ _ _ _ _ _ _ hf w (lv_sub hl [0, 1, 2, 3] rfl)
set_option maxHeartbeats 4000000 in
set_option maxRecDepth 100000 in
theorem bX10_load_0 (hA : ∀ q : Nat, s.heap.size ≤ q → A q) (B : hy_B RX10 cX10_load 6 wsX10_load G A p s m args c) (hR : 2 ≤ R.frames ∧ 45 ≤ R.locals) {o : hy_S × Int32}  (hret : ∀ (σ : hy_S) (v : Int32) (pc : Nat) (H : Heap) (locs : List Loc) (ls : Array Slot), o = (σ, v) → (v = 0 ∨ v = 1) → hy_w mw G A s σ H locs → decode cX10_load pc = .ok (.ireturn, 1) → W p l e R s m args below meth c H locs 0 0 Q (F0 m pc ls [.int v])) (σ : hy_S) (x1 : Int32) (x2 : Int32) (x3 : Int32) (H : Heap) (locs : List Loc) (ls : Array Slot) (hf : fX10_load σ x1 x2 x3 = some o) (w : hy_w mw G A s σ H locs) (hl : lv_has ls 6 [(0, .ref (G.2.2.2.2.1 0)), (1, .int x1), (2, .int x2), (3, .int x3)]) : W p l e R s m args below meth c H locs 0 0 Q (F0 m 0 ls []) := by
  unfold fX10_load at hf
  refine lv_aload_n B.1.1 B.1.2.1 dX10_load_0 rfl (lv_at hl 0 rfl) ?_
  refine lv_iconst (v := 0) B.1.1 B.1.2.1 dX10_load_1 (by decide) ?_
  obtain ⟨σ1, e2, hf⟩ := hy_pf_some hf
  refine hy_put (k := 0) B w (mwq_0 G) rfl in_X10_load_X10 tyX10 tyX10_ok nmX10 (by decide) (by decide +kernel) rfl rfl (by show 0 < 43; decide) (mwp_0 G) e2 dX10_load_2 (fun H locs w => ?_)
  refine lv_aload_n B.1.1 B.1.2.1 dX10_load_5 rfl (lv_at hl 0 rfl) ?_
  refine lv_aload_n B.1.1 B.1.2.1 dX10_load_6 rfl (lv_at hl 0 rfl) ?_
  refine lv_iload_n B.1.1 B.1.2.1 dX10_load_7 rfl (lv_at hl 1 rfl) ?_
  obtain ⟨σ3, v4, h5, hf⟩ := hy_bd_some hf
  refine hy_cv (As := [.int x1]) (rest := [.ref (G.2.2.2.2.1 0)]) (o := (σ3, v4)) mw_fix hA B w (fun sz => mX10_noJar l G sz σ1 x1 _ h5) (cwV 1 B.1.2.2.2.2 gX10_load_X10_noJar rfl rfl rfl (by decide +kernel) ⟨by have := hR.1; show 1 + 1 ≤ _; omega, by have := hR.2; show 8 + (2 + 11) + 22 ≤ _; omega⟩) rfl (mwq_0 G σ1) rfl hl.1 rfl (Nat.le_of_ble_eq_true rfl) dX10_load_8 ⟨Nat.zero_le _, Nat.zero_le _⟩ (fun H locs w => ?_)
  refine lv_if_ne (tgt := 23) B.1.1 B.1.2.1 dX10_load_11 (by decide) (fun c6 => ?_) (fun c6 => ?_)
  · rw [if_neg c6] at hf
    exact bX10_load_23 hA B hR  hret _ _ _ _ _ _ _ hf w (lv_sub hl [0, 1, 2, 3] rfl)
  · rw [if_pos c6] at hf
    refine lv_aload_n B.1.1 B.1.2.1 dX10_load_14 rfl (lv_at hl 0 rfl) ?_
    refine lv_iload_n B.1.1 B.1.2.1 dX10_load_15 rfl (lv_at hl 2 rfl) ?_
    refine lv_iload_n B.1.1 B.1.2.1 dX10_load_16 rfl (lv_at hl 3 rfl) ?_
    obtain ⟨σ7, v8, h9, hf⟩ := hy_bd_some hf
    refine hy_cv (As := [.int x2, .int x3]) (rest := [.ref (G.2.2.2.2.1 0)]) (o := (σ7, v8)) mw_fix hA B w (fun sz => mX10_noHold l G sz σ3 x2 x3 _ h9) (cwV 2 B.1.2.2.2.2 gX10_load_X10_noHold rfl rfl rfl (by decide +kernel) ⟨by have := hR.1; show 1 + 1 ≤ _; omega, by have := hR.2; show 8 + (3 + 11) + 22 ≤ _; omega⟩) rfl (mwq_0 G σ3) rfl hl.1 rfl (Nat.le_of_ble_eq_true rfl) dX10_load_17 ⟨Nat.zero_le _, Nat.zero_le _⟩ (fun H locs w => ?_)
    refine lv_if_eq (tgt := 27) B.1.1 B.1.2.1 dX10_load_20 (by decide) (fun c10 => ?_) (fun c10 => ?_)
    · rw [if_pos c10] at hf
      refine lv_iconst (v := 0) B.1.1 B.1.2.1 dX10_load_27 (by decide) ?_
      exact bX10_load_28 hA B hR  hret _ _ _ _ _ _ _ _ hf w (lv_sub hl [0, 1, 2, 3] rfl)
    · rw [if_neg c10] at hf
      exact bX10_load_23 hA B hR  hret _ _ _ _ _ _ _ hf w (lv_sub hl [0, 1, 2, 3] rfl)
set_option maxHeartbeats 4000000 in
set_option maxRecDepth 100000 in
theorem mX10_load (l : Launch) (G : hy_G) (sz : Nat) (σ : hy_S) (x1 : Int32) (x2 : Int32) (x3 : Int32) (o : hy_S × Int32) (hf : fX10_load σ x1 x2 x3 = some o) : hy_M l yX10_load wsX10_load ({ frames := 2, cells := 0, slots := 0, locals := 45 }) mw G σ sz [.ref (G.2.2.2.2.1 0), .int x1, .int x2, .int x3] o := by
  refine Met.ofW (cc := cX10_load) (maxL := 6) (ret := (some .boolean)) (by decide +kernel) rfl ?_
  intro p e s m args below meth c s₁ B hml hv
  obtain ⟨rfl, hsz, hP, hK, hD0, hN⟩ := hv
  have hx := B.exec
  have hb := B.bytes
  have hr := B.returns
  have hts := atoms_spec (ws := wsX10_load) B.pre
  have hown : s.vm.findClass RX10 = some m.cls := findClass_of_methodNamed B.named
  have hlocks := B.notSynchronized
  subst hsz
  have hD := hD0.self (sz := s.heap.size)
  have hA : ∀ q : Nat, s.heap.size ≤ q → va_A (mw G σ) s.heap.size q := fun q h => Or.inr h
  have hS : va_S (va_A (mw G σ) s.heap.size) s.heap s.heap [] := va_S.rf
  have hl := lv_entry ([.ref (G.2.2.2.2.1 0), .int x1, .int x2, .int x3]) (n := 6) (Nat.le_of_ble_eq_true rfl)
  rw [lg_entry_eq]
  generalize (lg_sl ([.ref (G.2.2.2.2.1 0), .int x1, .int x2, .int x3]) ++ List.replicate (6 - (lg_sl ([.ref (G.2.2.2.2.1 0), .int x1, .int x2, .int x3])).length) Slot.unset).toArray = ls at hl ⊢
  have hl : lv_has ls 6 [(0, .ref (G.2.2.2.2.1 0)), (1, .int x1), (2, .int x2), (3, .int x3)] := hl
  refine bX10_load_0 (A := va_A (mw G σ) s.heap.size) hA ⟨⟨hx, hb, hml, hown, hts⟩, hK, hN⟩ ⟨Nat.le_of_ble_eq_true rfl, Nat.le_of_ble_eq_true rfl⟩ (o := o) (fun τ v pc H locs ls ho hz w d => ?_) σ x1 x2 x3 _ _ _ hf ⟨hP, hD, hS⟩ hl
  exact W.zret hx hb hr (hy_bool hz) (fun t ht hW => ⟨⟨v, τ, rfl, ⟨by rw [ho], by rw [ho]⟩, by have h9 := w.1; rw [← ht] at h9; exact h9⟩, w.2.2.F ht⟩) w.2.2.2.2 d
theorem in_X10_land_X10 : ∀ w ∈ u_ws RX10 TX10 43, w ∈ wsX10_land := fun _ h => xt1 (xr (h))
noncomputable def fX10_land (σ : hy_S) (x1 : Int32) (x2 : Int32) : Option (hy_S × Int32) := hy_pf σ 0 0 (fun σ1 => hy_bd (fX10_noHold σ1 x1 x2) (fun σ3 v4 => hy_bd (fX10_throwsIf σ3 v4 1) (fun σ6 v7 => (if v7 = 0 then hy_ga σ6 10 24 ((6 * x1) + x2) (fun v10 => (if v10 = 0 then some (σ6, (-1)) else hy_ga σ6 10 24 ((6 * x1) + x2) (fun v14 => hy_pa σ6 10 24 ((6 * x1) + x2) (v14 - 1) (fun σ17 => hy_ga σ17 10 24 ((6 * x1) + x2) (fun v20 => hy_ga σ17 9 240 ((10 * ((6 * x1) + x2)) + v20) (fun v23 => hy_pa σ17 7 60 v23 2 (fun σ26 => hy_pa σ26 8 60 v23 (-1) (fun σ29 => some (σ29, v23))))))))) else some (σ6, 0)))))
set_option maxHeartbeats 4000000 in
set_option maxRecDepth 100000 in
theorem bX10_land_0 (hA : ∀ q : Nat, s.heap.size ≤ q → A q) (B : hy_B RX10 cX10_land 5 wsX10_land G A p s m args c) (hR : 2 ≤ R.frames ∧ 44 ≤ R.locals) {o : hy_S × Int32}  (hret : ∀ (σ : hy_S) (v : Int32) (pc : Nat) (H : Heap) (locs : List Loc) (ls : Array Slot), o = (σ, v) → hy_w mw G A s σ H locs → decode cX10_land pc = .ok (.ireturn, 1) → W p l e R s m args below meth c H locs 0 0 Q (F0 m pc ls [.int v])) (σ : hy_S) (x1 : Int32) (x2 : Int32) (H : Heap) (locs : List Loc) (ls : Array Slot) (hf : fX10_land σ x1 x2 = some o) (w : hy_w mw G A s σ H locs) (hl : lv_has ls 5 [(0, .ref (G.2.2.2.2.1 0)), (1, .int x1), (2, .int x2)]) : W p l e R s m args below meth c H locs 0 0 Q (F0 m 0 ls []) := by
  unfold fX10_land at hf
  refine lv_aload_n B.1.1 B.1.2.1 dX10_land_0 rfl (lv_at hl 0 rfl) ?_
  refine lv_iconst (v := 0) B.1.1 B.1.2.1 dX10_land_1 (by decide) ?_
  obtain ⟨σ1, e2, hf⟩ := hy_pf_some hf
  refine hy_put (k := 0) B w (mwq_0 G) rfl in_X10_land_X10 tyX10 tyX10_ok nmX10 (by decide) (by decide +kernel) rfl rfl (by show 0 < 43; decide) (mwp_0 G) e2 dX10_land_2 (fun H locs w => ?_)
  refine lv_aload_n B.1.1 B.1.2.1 dX10_land_5 rfl (lv_at hl 0 rfl) ?_
  refine lv_aload_n B.1.1 B.1.2.1 dX10_land_6 rfl (lv_at hl 0 rfl) ?_
  refine lv_iload_n B.1.1 B.1.2.1 dX10_land_7 rfl (lv_at hl 1 rfl) ?_
  refine lv_iload_n B.1.1 B.1.2.1 dX10_land_8 rfl (lv_at hl 2 rfl) ?_
  obtain ⟨σ3, v4, h5, hf⟩ := hy_bd_some hf
  refine hy_cv (As := [.int x1, .int x2]) (rest := [.ref (G.2.2.2.2.1 0)]) (o := (σ3, v4)) mw_fix hA B w (fun sz => mX10_noHold l G sz σ1 x1 x2 _ h5) (cwV 2 B.1.2.2.2.2 gX10_land_X10_noHold rfl rfl rfl (by decide +kernel) ⟨by have := hR.1; show 1 + 1 ≤ _; omega, by have := hR.2; show 8 + (3 + 11) + 22 ≤ _; omega⟩) rfl (mwq_0 G σ1) rfl hl.1 rfl (Nat.le_of_ble_eq_true rfl) dX10_land_9 ⟨Nat.zero_le _, Nat.zero_le _⟩ (fun H locs w => ?_)
  refine lv_iconst (v := 1) B.1.1 B.1.2.1 dX10_land_12 (by decide) ?_
  obtain ⟨σ6, v7, h8, hf⟩ := hy_bd_some hf
  refine hy_cv (As := [.int v4, .int 1]) (rest := []) (o := (σ6, v7)) mw_fix hA B w (fun sz => mX10_throwsIf l G sz σ3 v4 1 _ h8) (cwV 2 B.1.2.2.2.2 gX10_land_X10_throwsIf rfl rfl rfl (by decide +kernel) ⟨by have := hR.1; show 0 + 1 ≤ _; omega, by have := hR.2; show 8 + (3 + 11) + 0 ≤ _; omega⟩) rfl (mwq_0 G σ3) rfl hl.1 rfl (Nat.le_of_ble_eq_true rfl) dX10_land_13 ⟨Nat.zero_le _, Nat.zero_le _⟩ (fun H locs w => ?_)
  refine lv_if_eq (tgt := 21) B.1.1 B.1.2.1 dX10_land_16 (by decide) (fun c9 => ?_) (fun c9 => ?_)
  · rw [if_pos c9] at hf
    refine lv_bipush (v := 6) B.1.1 B.1.2.1 dX10_land_21 (by decide) ?_
    refine lv_iload_n B.1.1 B.1.2.1 dX10_land_23 rfl (lv_at hl 1 rfl) ?_
    refine lv_imul B.1.1 B.1.2.1 dX10_land_24 ?_
    refine lv_iload_n B.1.1 B.1.2.1 dX10_land_25 rfl (lv_at hl 2 rfl) ?_
    refine lv_iadd B.1.1 B.1.2.1 dX10_land_26 ?_
    refine lv_istore_n (lv' := [(3, .int ((6 * x1) + x2)), (0, .ref (G.2.2.2.2.1 0)), (1, .int x1), (2, .int x2)]) B.1.1 B.1.2.1 dX10_land_27 rfl hl (by decide) rfl (fun ls hl => ?_)
    refine lv_aload_n B.1.1 B.1.2.1 dX10_land_28 rfl (lv_at hl 1 rfl) ?_
    refine hy_get (k := 13) (v := .ref (G.2.2.2.2.1 11)) B w (mwq_0 G) rfl in_X10_land_X10 (by decide) (by decide +kernel) rfl dX10_land_29 ?_
    refine lv_iload_n B.1.1 B.1.2.1 dX10_land_32 rfl (lv_at hl 0 rfl) ?_
    obtain ⟨h12, v10, e11, hf⟩ := hy_ga_some hf
    refine hy_iald B w (mwq_11 G) h12 e11 dX10_land_33 ?_
    refine lv_if_ne (tgt := 39) B.1.1 B.1.2.1 dX10_land_34 (by decide) (fun c13 => ?_) (fun c13 => ?_)
    · rw [if_neg c13] at hf
      refine lv_aload_n B.1.1 B.1.2.1 dX10_land_39 rfl (lv_at hl 1 rfl) ?_
      refine hy_get (k := 13) (v := .ref (G.2.2.2.2.1 11)) B w (mwq_0 G) rfl in_X10_land_X10 (by decide) (by decide +kernel) rfl dX10_land_40 ?_
      refine lv_iload_n B.1.1 B.1.2.1 dX10_land_43 rfl (lv_at hl 0 rfl) ?_
      refine lv_dup2_11 B.1.1 B.1.2.1 dX10_land_44 rfl rfl ?_
      obtain ⟨h16, v14, e15, hf⟩ := hy_ga_some hf
      refine hy_iald B w (mwq_11 G) h16 e15 dX10_land_45 ?_
      refine lv_iconst (v := 1) B.1.1 B.1.2.1 dX10_land_46 (by decide) ?_
      refine lv_isub B.1.1 B.1.2.1 dX10_land_47 ?_
      obtain ⟨h19, σ17, e18, hf⟩ := hy_pa_some hf
      refine hy_iast B w (mwq_11 G) (mws_11 G) h19 e18 dX10_land_48 (fun H locs w => ?_)
      refine lv_aload_n B.1.1 B.1.2.1 dX10_land_49 rfl (lv_at hl 1 rfl) ?_
      refine hy_get (k := 12) (v := .ref (G.2.2.2.2.1 10)) B w (mwq_0 G) rfl in_X10_land_X10 (by decide) (by decide +kernel) rfl dX10_land_50 ?_
      refine lv_bipush (v := 10) B.1.1 B.1.2.1 dX10_land_53 (by decide) ?_
      refine lv_iload_n B.1.1 B.1.2.1 dX10_land_55 rfl (lv_at hl 0 rfl) ?_
      refine lv_imul B.1.1 B.1.2.1 dX10_land_56 ?_
      refine lv_aload_n B.1.1 B.1.2.1 dX10_land_57 rfl (lv_at hl 1 rfl) ?_
      refine hy_get (k := 13) (v := .ref (G.2.2.2.2.1 11)) B w (mwq_0 G) rfl in_X10_land_X10 (by decide) (by decide +kernel) rfl dX10_land_58 ?_
      refine lv_iload_n B.1.1 B.1.2.1 dX10_land_61 rfl (lv_at hl 0 rfl) ?_
      obtain ⟨h22, v20, e21, hf⟩ := hy_ga_some hf
      refine hy_iald B w (mwq_11 G) h22 e21 dX10_land_62 ?_
      refine lv_iadd B.1.1 B.1.2.1 dX10_land_63 ?_
      obtain ⟨h25, v23, e24, hf⟩ := hy_ga_some hf
      refine hy_iald B w (mwq_10 G) h25 e24 dX10_land_64 ?_
      refine lv_istore (lv' := [(4, .int v23), (3, .int ((6 * x1) + x2)), (0, .ref (G.2.2.2.2.1 0)), (1, .int x1), (2, .int x2)]) B.1.1 B.1.2.1 dX10_land_65 hl (by decide) rfl (fun ls hl => ?_)
      refine lv_aload_n B.1.1 B.1.2.1 dX10_land_67 rfl (lv_at hl 2 rfl) ?_
      refine hy_get (k := 9) (v := .ref (G.2.2.2.2.1 8)) B w (mwq_0 G) rfl in_X10_land_X10 (by decide) (by decide +kernel) rfl dX10_land_68 ?_
      refine lv_iload B.1.1 B.1.2.1 dX10_land_71 (lv_at hl 0 rfl) ?_
      refine lv_iconst (v := 2) B.1.1 B.1.2.1 dX10_land_73 (by decide) ?_
      obtain ⟨h28, σ26, e27, hf⟩ := hy_pa_some hf
      refine hy_iast B w (mwq_8 G) (mws_8 G) h28 e27 dX10_land_74 (fun H locs w => ?_)
      refine lv_aload_n B.1.1 B.1.2.1 dX10_land_75 rfl (lv_at hl 2 rfl) ?_
      refine hy_get (k := 10) (v := .ref (G.2.2.2.2.1 9)) B w (mwq_0 G) rfl in_X10_land_X10 (by decide) (by decide +kernel) rfl dX10_land_76 ?_
      refine lv_iload B.1.1 B.1.2.1 dX10_land_79 (lv_at hl 0 rfl) ?_
      refine lv_iconst (v := (-1)) B.1.1 B.1.2.1 dX10_land_81 (by decide) ?_
      obtain ⟨h31, σ29, e30, hf⟩ := hy_pa_some hf
      refine hy_iast B w (mwq_9 G) (mws_9 G) h31 e30 dX10_land_82 (fun H locs w => ?_)
      refine lv_iload B.1.1 B.1.2.1 dX10_land_83 (lv_at hl 0 rfl) ?_
      exact hret _ _ _ _ _ _ (Option.some.inj hf).symm w dX10_land_85
    · rw [if_pos c13] at hf
      refine lv_iconst (v := (-1)) B.1.1 B.1.2.1 dX10_land_37 (by decide) ?_
      exact hret _ _ _ _ _ _ (Option.some.inj hf).symm w dX10_land_38
  · rw [if_neg c9] at hf
    refine lv_iconst (v := 0) B.1.1 B.1.2.1 dX10_land_19 (by decide) ?_
    exact hret _ _ _ _ _ _ (Option.some.inj hf).symm w dX10_land_20
set_option maxHeartbeats 4000000 in
set_option maxRecDepth 100000 in
theorem mX10_land (l : Launch) (G : hy_G) (sz : Nat) (σ : hy_S) (x1 : Int32) (x2 : Int32) (o : hy_S × Int32) (hf : fX10_land σ x1 x2 = some o) : hy_M l yX10_land wsX10_land ({ frames := 2, cells := 0, slots := 0, locals := 44 }) mw G σ sz [.ref (G.2.2.2.2.1 0), .int x1, .int x2] o := by
  refine Met.ofW (cc := cX10_land) (maxL := 5) (ret := (some .int)) (by decide +kernel) rfl ?_
  intro p e s m args below meth c s₁ B hml hv
  obtain ⟨rfl, hsz, hP, hK, hD0, hN⟩ := hv
  have hx := B.exec
  have hb := B.bytes
  have hr := B.returns
  have hts := atoms_spec (ws := wsX10_land) B.pre
  have hown : s.vm.findClass RX10 = some m.cls := findClass_of_methodNamed B.named
  have hlocks := B.notSynchronized
  subst hsz
  have hD := hD0.self (sz := s.heap.size)
  have hA : ∀ q : Nat, s.heap.size ≤ q → va_A (mw G σ) s.heap.size q := fun q h => Or.inr h
  have hS : va_S (va_A (mw G σ) s.heap.size) s.heap s.heap [] := va_S.rf
  have hl := lv_entry ([.ref (G.2.2.2.2.1 0), .int x1, .int x2]) (n := 5) (Nat.le_of_ble_eq_true rfl)
  rw [lg_entry_eq]
  generalize (lg_sl ([.ref (G.2.2.2.2.1 0), .int x1, .int x2]) ++ List.replicate (5 - (lg_sl ([.ref (G.2.2.2.2.1 0), .int x1, .int x2])).length) Slot.unset).toArray = ls at hl ⊢
  have hl : lv_has ls 5 [(0, .ref (G.2.2.2.2.1 0)), (1, .int x1), (2, .int x2)] := hl
  refine bX10_land_0 (A := va_A (mw G σ) s.heap.size) hA ⟨⟨hx, hb, hml, hown, hts⟩, hK, hN⟩ ⟨Nat.le_of_ble_eq_true rfl, Nat.le_of_ble_eq_true rfl⟩ (o := o) (fun τ v pc H locs ls ho w d => ?_) σ x1 x2 _ _ _ hf ⟨hP, hD, hS⟩ hl
  exact W.iret hx hb hr (fun t ht hW => ⟨⟨v, τ, rfl, ⟨by rw [ho], by rw [ho]⟩, by have h9 := w.1; rw [← ht] at h9; exact h9⟩, w.2.2.F ht⟩) w.2.2.2.2 d
end HM1
