section HK6
variable {p : Program} {l : Launch} {e : Env} {R : Room} {s : State} {m : MethodId} {args : Array Value} {below : List Frame} {meth : Method} {c : Code} {Q : State → Prop} {G : hy_G} {A : Nat → Prop} {Qc : Array Value → State → Outcome → State → Prop}
noncomputable def fX8_setAll_a_2 : Nat → hy_S → Int32 → Int32 → Option (hy_S × Int32)
  | 0, _, _, _ => none
  | n + 1, σ, x1, x2 => (if 13 ≤ x2 then some (σ, 0) else hy_pa σ 28 13 x2 x1 (fun σ2 => (fX8_setAll_a_2 n) σ2 x1 (x2 + 1)))
noncomputable def fX8_setAll_a (σ : hy_S) (x1 : Int32) : Option (hy_S × Int32) := fX8_setAll_a_2 hy_fu σ x1 0
set_option maxHeartbeats 4000000 in
set_option maxRecDepth 100000 in
theorem bX8_setAll_a_2 (hA : ∀ q : Nat, s.heap.size ≤ q → A q) (B : hy_B RX8 cX8_setAll 3 wsX8_setAll G A p s m args c) (hR : 0 ≤ R.frames ∧ 0 ≤ R.locals) {o : hy_S × Int32}  (hret : ∀ (σ : hy_S) (pc : Nat) (H : Heap) (locs : List Loc) (ls : Array Slot), o = (σ, 0) → hy_w cw G A s σ H locs → decode cX8_setAll pc = .ok (.return_, 1) → W p l e R s m args below meth c H locs 0 0 Q (F0 m pc ls [])) : ∀ (n : Nat) (σ : hy_S) (x1 : Int32) (x2 : Int32) (H : Heap) (locs : List Loc) (ls : Array Slot), fX8_setAll_a_2 n σ x1 x2 = some o → hy_w cw G A s σ H locs → lv_has ls 3 [(0, .ref (G.2.2.2.1 38)), (1, .int x1), (2, .int x2)] → W p l e R s m args below meth c H locs 0 0 Q (F0 m 2 ls []) := by
  intro n
  induction n with
  | zero => intro σ x1 x2 H locs ls hf; cases hf
  | succ n hk2 =>
    intro σ x1 x2 H locs ls hf w hl
    unfold fX8_setAll_a_2 at hf
    refine lv_iload_n B.1.1 B.1.2.1 dX8_setAll_2 rfl (lv_at hl 2 rfl) ?_
    refine lv_aload_n B.1.1 B.1.2.1 dX8_setAll_3 rfl (lv_at hl 0 rfl) ?_
    refine va_alen (v := 13) B.1.1 B.1.2.1 B.2.1 w.1 38 0 (cwq_38 G σ) rfl rfl dX8_setAll_4 ?_
    refine lv_icmp_ge (tgt := 18) B.1.1 B.1.2.1 dX8_setAll_5 (by decide) (fun c1 => ?_) (fun c1 => ?_)
    · rw [if_pos c1] at hf
      exact hret _ _ _ _ _ (Option.some.inj hf).symm w dX8_setAll_18
    · rw [if_neg c1] at hf
      refine lv_aload_n B.1.1 B.1.2.1 dX8_setAll_8 rfl (lv_at hl 0 rfl) ?_
      refine lv_iload_n B.1.1 B.1.2.1 dX8_setAll_9 rfl (lv_at hl 2 rfl) ?_
      refine lv_iload_n B.1.1 B.1.2.1 dX8_setAll_10 rfl (lv_at hl 1 rfl) ?_
      obtain ⟨h4, σ2, e3, hf⟩ := hy_pa_some hf
      refine hy_iast B w (cwq_38 G) (cws_38 G) h4 e3 dX8_setAll_11 (fun H locs w => ?_)
      refine lv_iinc (v := (x2 + 1)) (lv' := [(2, .int (x2 + 1)), (0, .ref (G.2.2.2.1 38)), (1, .int x1)]) B.1.1 B.1.2.1 dX8_setAll_12 hl (k := 2) rfl rfl (by decide) rfl (fun ls hl => ?_)
      refine lv_goto (tgt := 2) B.1.1 B.1.2.1 dX8_setAll_15 (by decide) ?_
      exact hk2 _ _ _ _ _ _ hf w (lv_sub hl [1, 2, 0] rfl)
set_option maxHeartbeats 4000000 in
set_option maxRecDepth 100000 in
theorem bX8_setAll_a_0 (hA : ∀ q : Nat, s.heap.size ≤ q → A q) (B : hy_B RX8 cX8_setAll 3 wsX8_setAll G A p s m args c) (hR : 0 ≤ R.frames ∧ 0 ≤ R.locals) {o : hy_S × Int32}  (hret : ∀ (σ : hy_S) (pc : Nat) (H : Heap) (locs : List Loc) (ls : Array Slot), o = (σ, 0) → hy_w cw G A s σ H locs → decode cX8_setAll pc = .ok (.return_, 1) → W p l e R s m args below meth c H locs 0 0 Q (F0 m pc ls [])) (σ : hy_S) (x1 : Int32) (H : Heap) (locs : List Loc) (ls : Array Slot) (hf : fX8_setAll_a σ x1 = some o) (w : hy_w cw G A s σ H locs) (hl : lv_has ls 3 [(0, .ref (G.2.2.2.1 38)), (1, .int x1)]) : W p l e R s m args below meth c H locs 0 0 Q (F0 m 0 ls []) := by
  unfold fX8_setAll_a at hf
  refine lv_iconst (v := 0) B.1.1 B.1.2.1 dX8_setAll_0 (by decide) ?_
  refine lv_istore_n (lv' := [(2, .int 0), (0, .ref (G.2.2.2.1 38)), (1, .int x1)]) B.1.1 B.1.2.1 dX8_setAll_1 rfl hl (by decide) rfl (fun ls hl => ?_)
  exact bX8_setAll_a_2 hA B hR  hret _ _ _ _ _ _ _ hf w (lv_sub hl [1, 2, 0] rfl)
set_option maxHeartbeats 4000000 in
set_option maxRecDepth 100000 in
theorem mX8_setAll_a (l : Launch) (G : hy_G) (sz : Nat) (σ : hy_S) (x1 : Int32) (o : hy_S × Int32) (hf : fX8_setAll_a σ x1 = some o) : hy_Mv l yX8_setAll wsX8_setAll ({ frames := 0, cells := 0, slots := 0, locals := 0 }) cw G σ sz [.ref (G.2.2.2.1 38), .int x1] o := by
  refine Met.ofW (cc := cX8_setAll) (maxL := 3) (ret := none) (by decide +kernel) rfl ?_
  intro p e s m args below meth c s₁ B hml hv
  obtain ⟨rfl, hsz, hP, hK, hD0, hN⟩ := hv
  have hx := B.exec
  have hb := B.bytes
  have hr := B.returns
  have hts := atoms_spec (ws := wsX8_setAll) B.pre
  have hown : s.vm.findClass RX8 = some m.cls := findClass_of_methodNamed B.named
  have hlocks := B.notSynchronized
  subst hsz
  have hD := hD0.self (sz := s.heap.size)
  have hA : ∀ q : Nat, s.heap.size ≤ q → va_A (cw G σ) s.heap.size q := fun q h => Or.inr h
  have hS : va_S (va_A (cw G σ) s.heap.size) s.heap s.heap [] := va_S.rf
  have hl := lv_entry ([.ref (G.2.2.2.1 38), .int x1]) (n := 3) (Nat.le_of_ble_eq_true rfl)
  rw [lg_entry_eq]
  generalize (lg_sl ([.ref (G.2.2.2.1 38), .int x1]) ++ List.replicate (3 - (lg_sl ([.ref (G.2.2.2.1 38), .int x1])).length) Slot.unset).toArray = ls at hl ⊢
  have hl : lv_has ls 3 [(0, .ref (G.2.2.2.1 38)), (1, .int x1)] := hl
  refine bX8_setAll_a_0 (A := va_A (cw G σ) s.heap.size) hA ⟨⟨hx, hb, hml, hown, hts⟩, hK, hN⟩ ⟨Nat.le_of_ble_eq_true rfl, Nat.le_of_ble_eq_true rfl⟩ (o := o) (fun τ pc H locs ls ho w d => ?_) σ x1 _ _ _ hf ⟨hP, hD, hS⟩ hl
  exact W.vret hx hb hr (fun t ht hW => ⟨⟨τ, rfl, by rw [ho], by have h9 := w.1; rw [← ht] at h9; exact h9⟩, w.2.2.F ht⟩) w.2.2.2.2 d
noncomputable def fX8_setAll_n_2 : Nat → hy_S → Int32 → Int32 → Option (hy_S × Int32)
  | 0, _, _, _ => none
  | n + 1, σ, x1, x2 => (if 13 ≤ x2 then some (σ, 0) else hy_pa σ 29 13 x2 x1 (fun σ2 => (fX8_setAll_n_2 n) σ2 x1 (x2 + 1)))
noncomputable def fX8_setAll_n (σ : hy_S) (x1 : Int32) : Option (hy_S × Int32) := fX8_setAll_n_2 hy_fu σ x1 0
set_option maxHeartbeats 4000000 in
set_option maxRecDepth 100000 in
theorem bX8_setAll_n_2 (hA : ∀ q : Nat, s.heap.size ≤ q → A q) (B : hy_B RX8 cX8_setAll 3 wsX8_setAll G A p s m args c) (hR : 0 ≤ R.frames ∧ 0 ≤ R.locals) {o : hy_S × Int32}  (hret : ∀ (σ : hy_S) (pc : Nat) (H : Heap) (locs : List Loc) (ls : Array Slot), o = (σ, 0) → hy_w cw G A s σ H locs → decode cX8_setAll pc = .ok (.return_, 1) → W p l e R s m args below meth c H locs 0 0 Q (F0 m pc ls [])) : ∀ (n : Nat) (σ : hy_S) (x1 : Int32) (x2 : Int32) (H : Heap) (locs : List Loc) (ls : Array Slot), fX8_setAll_n_2 n σ x1 x2 = some o → hy_w cw G A s σ H locs → lv_has ls 3 [(0, .ref (G.2.2.2.1 39)), (1, .int x1), (2, .int x2)] → W p l e R s m args below meth c H locs 0 0 Q (F0 m 2 ls []) := by
  intro n
  induction n with
  | zero => intro σ x1 x2 H locs ls hf; cases hf
  | succ n hk2 =>
    intro σ x1 x2 H locs ls hf w hl
    unfold fX8_setAll_n_2 at hf
    refine lv_iload_n B.1.1 B.1.2.1 dX8_setAll_2 rfl (lv_at hl 2 rfl) ?_
    refine lv_aload_n B.1.1 B.1.2.1 dX8_setAll_3 rfl (lv_at hl 0 rfl) ?_
    refine va_alen (v := 13) B.1.1 B.1.2.1 B.2.1 w.1 39 0 (cwq_39 G σ) rfl rfl dX8_setAll_4 ?_
    refine lv_icmp_ge (tgt := 18) B.1.1 B.1.2.1 dX8_setAll_5 (by decide) (fun c1 => ?_) (fun c1 => ?_)
    · rw [if_pos c1] at hf
      exact hret _ _ _ _ _ (Option.some.inj hf).symm w dX8_setAll_18
    · rw [if_neg c1] at hf
      refine lv_aload_n B.1.1 B.1.2.1 dX8_setAll_8 rfl (lv_at hl 0 rfl) ?_
      refine lv_iload_n B.1.1 B.1.2.1 dX8_setAll_9 rfl (lv_at hl 2 rfl) ?_
      refine lv_iload_n B.1.1 B.1.2.1 dX8_setAll_10 rfl (lv_at hl 1 rfl) ?_
      obtain ⟨h4, σ2, e3, hf⟩ := hy_pa_some hf
      refine hy_iast B w (cwq_39 G) (cws_39 G) h4 e3 dX8_setAll_11 (fun H locs w => ?_)
      refine lv_iinc (v := (x2 + 1)) (lv' := [(2, .int (x2 + 1)), (0, .ref (G.2.2.2.1 39)), (1, .int x1)]) B.1.1 B.1.2.1 dX8_setAll_12 hl (k := 2) rfl rfl (by decide) rfl (fun ls hl => ?_)
      refine lv_goto (tgt := 2) B.1.1 B.1.2.1 dX8_setAll_15 (by decide) ?_
      exact hk2 _ _ _ _ _ _ hf w (lv_sub hl [1, 2, 0] rfl)
set_option maxHeartbeats 4000000 in
set_option maxRecDepth 100000 in
theorem bX8_setAll_n_0 (hA : ∀ q : Nat, s.heap.size ≤ q → A q) (B : hy_B RX8 cX8_setAll 3 wsX8_setAll G A p s m args c) (hR : 0 ≤ R.frames ∧ 0 ≤ R.locals) {o : hy_S × Int32}  (hret : ∀ (σ : hy_S) (pc : Nat) (H : Heap) (locs : List Loc) (ls : Array Slot), o = (σ, 0) → hy_w cw G A s σ H locs → decode cX8_setAll pc = .ok (.return_, 1) → W p l e R s m args below meth c H locs 0 0 Q (F0 m pc ls [])) (σ : hy_S) (x1 : Int32) (H : Heap) (locs : List Loc) (ls : Array Slot) (hf : fX8_setAll_n σ x1 = some o) (w : hy_w cw G A s σ H locs) (hl : lv_has ls 3 [(0, .ref (G.2.2.2.1 39)), (1, .int x1)]) : W p l e R s m args below meth c H locs 0 0 Q (F0 m 0 ls []) := by
  unfold fX8_setAll_n at hf
  refine lv_iconst (v := 0) B.1.1 B.1.2.1 dX8_setAll_0 (by decide) ?_
  refine lv_istore_n (lv' := [(2, .int 0), (0, .ref (G.2.2.2.1 39)), (1, .int x1)]) B.1.1 B.1.2.1 dX8_setAll_1 rfl hl (by decide) rfl (fun ls hl => ?_)
  exact bX8_setAll_n_2 hA B hR  hret _ _ _ _ _ _ _ hf w (lv_sub hl [1, 2, 0] rfl)
set_option maxHeartbeats 4000000 in
set_option maxRecDepth 100000 in
theorem mX8_setAll_n (l : Launch) (G : hy_G) (sz : Nat) (σ : hy_S) (x1 : Int32) (o : hy_S × Int32) (hf : fX8_setAll_n σ x1 = some o) : hy_Mv l yX8_setAll wsX8_setAll ({ frames := 0, cells := 0, slots := 0, locals := 0 }) cw G σ sz [.ref (G.2.2.2.1 39), .int x1] o := by
  refine Met.ofW (cc := cX8_setAll) (maxL := 3) (ret := none) (by decide +kernel) rfl ?_
  intro p e s m args below meth c s₁ B hml hv
  obtain ⟨rfl, hsz, hP, hK, hD0, hN⟩ := hv
  have hx := B.exec
  have hb := B.bytes
  have hr := B.returns
  have hts := atoms_spec (ws := wsX8_setAll) B.pre
  have hown : s.vm.findClass RX8 = some m.cls := findClass_of_methodNamed B.named
  have hlocks := B.notSynchronized
  subst hsz
  have hD := hD0.self (sz := s.heap.size)
  have hA : ∀ q : Nat, s.heap.size ≤ q → va_A (cw G σ) s.heap.size q := fun q h => Or.inr h
  have hS : va_S (va_A (cw G σ) s.heap.size) s.heap s.heap [] := va_S.rf
  have hl := lv_entry ([.ref (G.2.2.2.1 39), .int x1]) (n := 3) (Nat.le_of_ble_eq_true rfl)
  rw [lg_entry_eq]
  generalize (lg_sl ([.ref (G.2.2.2.1 39), .int x1]) ++ List.replicate (3 - (lg_sl ([.ref (G.2.2.2.1 39), .int x1])).length) Slot.unset).toArray = ls at hl ⊢
  have hl : lv_has ls 3 [(0, .ref (G.2.2.2.1 39)), (1, .int x1)] := hl
  refine bX8_setAll_n_0 (A := va_A (cw G σ) s.heap.size) hA ⟨⟨hx, hb, hml, hown, hts⟩, hK, hN⟩ ⟨Nat.le_of_ble_eq_true rfl, Nat.le_of_ble_eq_true rfl⟩ (o := o) (fun τ pc H locs ls ho w d => ?_) σ x1 _ _ _ hf ⟨hP, hD, hS⟩ hl
  exact W.vret hx hb hr (fun t ht hW => ⟨⟨τ, rfl, by rw [ho], by have h9 := w.1; rw [← ht] at h9; exact h9⟩, w.2.2.F ht⟩) w.2.2.2.2 d
end HK6
