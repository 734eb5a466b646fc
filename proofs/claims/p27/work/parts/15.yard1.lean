section HY1
variable {p : Program} {l : Launch} {e : Env} {R : Room} {s : State} {m : MethodId} {args : Array Value} {below : List Frame} {meth : Method} {c : Code} {Q : State → Prop} {G : hy_G} {A : Nat → Prop} {Qc : Array Value → State → Outcome → State → Prop}
noncomputable def fX9_needIndex_9 (σ : hy_S) : Option (hy_S × Int32 × Nat) := some (σ, 0, 1)
noncomputable def fX9_needIndex (σ : hy_S) (x0 : Int32) (x1 : Int32) : Option (hy_S × Int32 × Nat) := (if x0 < 0 then fX9_needIndex_9 σ else (if x0 < x1 then some (σ, 0, 0) else fX9_needIndex_9 σ))
set_option maxHeartbeats 4000000 in
set_option maxRecDepth 100000 in
theorem bX9_needIndex_9 (hA : ∀ q : Nat, s.heap.size ≤ q → A q) (B : hy_B RX9 cX9_needIndex 2 wsX9_needIndex G A p s m args c) (hR : 6 ≤ R.frames ∧ 82 ≤ R.locals) {o : hy_S × Int32 × Nat}  (ho : o.2.2 = 0) (hret : ∀ (σ : hy_S) (pc : Nat) (H : Heap) (locs : List Loc) (ls : Array Slot), o = (σ, 0, 0) → hy_w cw G A s σ H locs → decode cX9_needIndex pc = .ok (.return_, 1) → W p l e R s m args below meth c H locs 0 0 Q (F0 m pc ls [])) (σ : hy_S) (H : Heap) (locs : List Loc) (ls : Array Slot) (hf : fX9_needIndex_9 σ = some o) (w : hy_w cw G A s σ H locs) (hl : lv_has ls 2 []) : W p l e R s m args below meth c H locs 0 0 Q (F0 m 9 ls []) := by
  unfold fX9_needIndex_9 at hf
  exact absurd ((congrArg (fun z => z.2.2) (Option.some.inj hf)).trans ho) (Nat.succ_ne_zero _)
set_option maxHeartbeats 4000000 in
set_option maxRecDepth 100000 in
theorem bX9_needIndex_0 (hA : ∀ q : Nat, s.heap.size ≤ q → A q) (B : hy_B RX9 cX9_needIndex 2 wsX9_needIndex G A p s m args c) (hR : 6 ≤ R.frames ∧ 82 ≤ R.locals) {o : hy_S × Int32 × Nat}  (ho : o.2.2 = 0) (hret : ∀ (σ : hy_S) (pc : Nat) (H : Heap) (locs : List Loc) (ls : Array Slot), o = (σ, 0, 0) → hy_w cw G A s σ H locs → decode cX9_needIndex pc = .ok (.return_, 1) → W p l e R s m args below meth c H locs 0 0 Q (F0 m pc ls [])) (σ : hy_S) (x0 : Int32) (x1 : Int32) (H : Heap) (locs : List Loc) (ls : Array Slot) (hf : fX9_needIndex σ x0 x1 = some o) (w : hy_w cw G A s σ H locs) (hl : lv_has ls 2 [(0, .int x0), (1, .int x1)]) : W p l e R s m args below meth c H locs 0 0 Q (F0 m 0 ls []) := by
  unfold fX9_needIndex at hf
  refine lv_iload_n B.1.1 B.1.2.1 dX9_needIndex_0 rfl (lv_at hl 0 rfl) ?_
  refine lv_if_lt (tgt := 9) B.1.1 B.1.2.1 dX9_needIndex_1 (by decide) (fun c1 => ?_) (fun c1 => ?_)
  · rw [if_pos c1] at hf
    exact bX9_needIndex_9 hA B hR  ho hret _ _ _ _ hf w (lv_sub hl [] rfl)
  · rw [if_neg c1] at hf
    refine lv_iload_n B.1.1 B.1.2.1 dX9_needIndex_4 rfl (lv_at hl 0 rfl) ?_
    refine lv_iload_n B.1.1 B.1.2.1 dX9_needIndex_5 rfl (lv_at hl 1 rfl) ?_
    refine lv_icmp_lt (tgt := 20) B.1.1 B.1.2.1 dX9_needIndex_6 (by decide) (fun c2 => ?_) (fun c2 => ?_)
    · rw [if_pos c2] at hf
      exact hret _ _ _ _ _ (Option.some.inj hf).symm w dX9_needIndex_20
    · rw [if_neg c2] at hf
      exact bX9_needIndex_9 hA B hR  ho hret _ _ _ _ hf w (lv_sub hl [] rfl)
set_option maxHeartbeats 4000000 in
set_option maxRecDepth 100000 in
theorem mX9_needIndex (l : Launch) (G : hy_G) (sz : Nat) (σ : hy_S) (x0 : Int32) (x1 : Int32) (o : hy_S × Int32 × Nat) (hf : fX9_needIndex σ x0 x1 = some o) (ho : o.2.2 = 0) : hy_Mv l yX9_needIndex wsX9_needIndex ({ frames := 6, cells := 0, slots := 0, locals := 82 }) cw G σ sz [.int x0, .int x1] (o.1, o.2.1) := by
  refine Met.ofW (cc := cX9_needIndex) (maxL := 2) (ret := none) (by decide +kernel) rfl ?_
  intro p e s m args below meth c s₁ B hml hv
  obtain ⟨rfl, hsz, hP, hK, hD0, hN⟩ := hv
  have hx := B.exec
  have hb := B.bytes
  have hr := B.returns
  have hts := atoms_spec (ws := wsX9_needIndex) B.pre
  have hown : s.vm.findClass RX9 = some m.cls := findClass_of_methodNamed B.named
  have hlocks := B.notSynchronized
  subst hsz
  have hD := hD0.self (sz := s.heap.size)
  have hA : ∀ q : Nat, s.heap.size ≤ q → va_A (cw G σ) s.heap.size q := fun q h => Or.inr h
  have hS : va_S (va_A (cw G σ) s.heap.size) s.heap s.heap [] := va_S.rf
  have hl := lv_entry ([.int x0, .int x1]) (n := 2) (Nat.le_of_ble_eq_true rfl)
  rw [lg_entry_eq]
  generalize (lg_sl ([.int x0, .int x1]) ++ List.replicate (2 - (lg_sl ([.int x0, .int x1])).length) Slot.unset).toArray = ls at hl ⊢
  have hl : lv_has ls 2 [(0, .int x0), (1, .int x1)] := hl
  refine bX9_needIndex_0 (A := va_A (cw G σ) s.heap.size) hA ⟨⟨hx, hb, hml, hown, hts⟩, hK, hN⟩ ⟨Nat.le_of_ble_eq_true rfl, Nat.le_of_ble_eq_true rfl⟩ (o := o) ho (fun τ pc H locs ls ho w d => ?_) σ x0 x1 _ _ _ hf ⟨hP, hD, hS⟩ hl
  exact W.vret hx hb hr (fun t ht hW => ⟨⟨τ, rfl, by rw [ho], by have h9 := w.1; rw [← ht] at h9; exact h9⟩, w.2.2.F ht⟩) w.2.2.2.2 d
set_option maxHeartbeats 4000000 in
set_option maxRecDepth 100000 in
theorem tbX9_needIndex_9 (hA : ∀ q : Nat, s.heap.size ≤ q → A q) (B : hy_B RX9 cX9_needIndex 2 wsX9_needIndex G A p s m args c) (hR : 6 ≤ R.frames ∧ 82 ≤ R.locals) {o : hy_S × Int32 × Nat}  (ho : ¬ o.2.2 = 0) (hT : hy_TC l R meth c) (σ : hy_S) (H : Heap) (locs : List Loc) (ls : Array Slot) (hf : fX9_needIndex_9 σ = some o) (w : hy_w cw G A s σ H locs) (hl : lv_has ls 2 []) : W p l e R s m args below meth c H locs 0 0 (vx_MQ below Qc (hy_X cw G o A) args s 1 6 A) (F0 m 9 ls []) := by
  unfold fX9_needIndex_9 at hf
  have he := Option.some.inj hf
  subst he
  exact hy_throwW (k := 1) (text := "there is no such thing") B w hT ⟨by have := hR.1; omega, by have := hR.2; omega⟩ (by decide +kernel) (by decide +kernel) (by decide +kernel) (by decide +kernel) (by decide +kernel) (by decide +kernel) (by decide +kernel) (by decide +kernel) hl.1 dX9_needIndex_9 dX9_needIndex_12 dX9_needIndex_13 dX9_needIndex_16 dX9_needIndex_19
set_option maxHeartbeats 4000000 in
set_option maxRecDepth 100000 in
theorem tbX9_needIndex_0 (hA : ∀ q : Nat, s.heap.size ≤ q → A q) (B : hy_B RX9 cX9_needIndex 2 wsX9_needIndex G A p s m args c) (hR : 6 ≤ R.frames ∧ 82 ≤ R.locals) {o : hy_S × Int32 × Nat}  (ho : ¬ o.2.2 = 0) (hT : hy_TC l R meth c) (σ : hy_S) (x0 : Int32) (x1 : Int32) (H : Heap) (locs : List Loc) (ls : Array Slot) (hf : fX9_needIndex σ x0 x1 = some o) (w : hy_w cw G A s σ H locs) (hl : lv_has ls 2 [(0, .int x0), (1, .int x1)]) : W p l e R s m args below meth c H locs 0 0 (vx_MQ below Qc (hy_X cw G o A) args s 1 6 A) (F0 m 0 ls []) := by
  unfold fX9_needIndex at hf
  refine lv_iload_n B.1.1 B.1.2.1 dX9_needIndex_0 rfl (lv_at hl 0 rfl) ?_
  refine lv_if_lt (tgt := 9) B.1.1 B.1.2.1 dX9_needIndex_1 (by decide) (fun c1 => ?_) (fun c1 => ?_)
  · rw [if_pos c1] at hf
    exact tbX9_needIndex_9 hA B hR  ho hT _ _ _ _ hf w (lv_sub hl [] rfl)
  · rw [if_neg c1] at hf
    refine lv_iload_n B.1.1 B.1.2.1 dX9_needIndex_4 rfl (lv_at hl 0 rfl) ?_
    refine lv_iload_n B.1.1 B.1.2.1 dX9_needIndex_5 rfl (lv_at hl 1 rfl) ?_
    refine lv_icmp_lt (tgt := 20) B.1.1 B.1.2.1 dX9_needIndex_6 (by decide) (fun c2 => ?_) (fun c2 => ?_)
    · rw [if_pos c2] at hf
      exact absurd (congrArg (fun z => z.2.2) (Option.some.inj hf)).symm ho
    · rw [if_neg c2] at hf
      exact tbX9_needIndex_9 hA B hR  ho hT _ _ _ _ hf w (lv_sub hl [] rfl)
set_option maxHeartbeats 4000000 in
set_option maxRecDepth 100000 in
theorem tX9_needIndex (l : Launch) (hlt : l.stackTraces = false) (G : hy_G) (sz : Nat) (σ : hy_S) (x0 : Int32) (x1 : Int32) (o : hy_S × Int32 × Nat) (hf : fX9_needIndex σ x0 x1 = some o) (ho : ¬ o.2.2 = 0) : hy_MTv l yX9_needIndex wsX9_needIndex ({ frames := 6, cells := 1, slots := 6, locals := 82 }) cw G σ sz [.int x0, .int x1] o := by
  refine vx_ofW (cc := cX9_needIndex) (maxL := 2) (ret := none) (by decide +kernel) rfl ?_
  intro p e s m args below meth c s₁ B hml h0 hv
  obtain ⟨rfl, hsz, hP, hK, hD0, hN⟩ := hv
  have hx := B.exec
  have hb := B.bytes
  have hr := B.returns
  have hts := atoms_spec (ws := wsX9_needIndex) B.pre
  have hown : s.vm.findClass RX9 = some m.cls := findClass_of_methodNamed B.named
  have hlocks := B.notSynchronized
  subst hsz
  have hD := hD0.self (sz := s.heap.size)
  have hA : ∀ q : Nat, s.heap.size ≤ q → va_A (cw G σ) s.heap.size q := fun q h => Or.inr h
  have hS : va_S (va_A (cw G σ) s.heap.size) s.heap s.heap [] := va_S.rf
  have hl := lv_entry ([.int x0, .int x1]) (n := 2) (Nat.le_of_ble_eq_true rfl)
  rw [lg_entry_eq]
  generalize (lg_sl ([.int x0, .int x1]) ++ List.replicate (2 - (lg_sl ([.int x0, .int x1])).length) Slot.unset).toArray = ls at hl ⊢
  have hl : lv_has ls 2 [(0, .int x0), (1, .int x1)] := hl
  exact tbX9_needIndex_0 (A := va_A (cw G σ) s.heap.size) hA ⟨⟨hx, hb, hml, hown, hts⟩, hK, hN⟩ ⟨Nat.le_of_ble_eq_true rfl, Nat.le_of_ble_eq_true rfl⟩ (o := o) ho ⟨hlt, hlocks, h0, Nat.le_refl _, Nat.le_refl _⟩ σ x0 x1 _ _ _ hf ⟨hP, hD, hS⟩ hl
noncomputable def fX9_needNumber_10 (σ : hy_S) : Option (hy_S × Int32 × Nat) := some (σ, 0, 2)
noncomputable def fX9_needNumber (σ : hy_S) (x0 : Int32) (x1 : Int32) (x2 : Int32) : Option (hy_S × Int32 × Nat) := (if x0 < x1 then fX9_needNumber_10 σ else (if x0 ≤ x2 then some (σ, 0, 0) else fX9_needNumber_10 σ))
set_option maxHeartbeats 4000000 in
set_option maxRecDepth 100000 in
theorem bX9_needNumber_10 (hA : ∀ q : Nat, s.heap.size ≤ q → A q) (B : hy_B RX9 cX9_needNumber 3 wsX9_needNumber G A p s m args c) (hR : 6 ≤ R.frames ∧ 82 ≤ R.locals) {o : hy_S × Int32 × Nat}  (ho : o.2.2 = 0) (hret : ∀ (σ : hy_S) (pc : Nat) (H : Heap) (locs : List Loc) (ls : Array Slot), o = (σ, 0, 0) → hy_w cw G A s σ H locs → decode cX9_needNumber pc = .ok (.return_, 1) → W p l e R s m args below meth c H locs 0 0 Q (F0 m pc ls [])) (σ : hy_S) (H : Heap) (locs : List Loc) (ls : Array Slot) (hf : fX9_needNumber_10 σ = some o) (w : hy_w cw G A s σ H locs) (hl : lv_has ls 3 []) : W p l e R s m args below meth c H locs 0 0 Q (F0 m 10 ls []) := by
  unfold fX9_needNumber_10 at hf
  exact absurd ((congrArg (fun z => z.2.2) (Option.some.inj hf)).trans ho) (Nat.succ_ne_zero _)
set_option maxHeartbeats 4000000 in
set_option maxRecDepth 100000 in
theorem bX9_needNumber_0 (hA : ∀ q : Nat, s.heap.size ≤ q → A q) (B : hy_B RX9 cX9_needNumber 3 wsX9_needNumber G A p s m args c) (hR : 6 ≤ R.frames ∧ 82 ≤ R.locals) {o : hy_S × Int32 × Nat}  (ho : o.2.2 = 0) (hret : ∀ (σ : hy_S) (pc : Nat) (H : Heap) (locs : List Loc) (ls : Array Slot), o = (σ, 0, 0) → hy_w cw G A s σ H locs → decode cX9_needNumber pc = .ok (.return_, 1) → W p l e R s m args below meth c H locs 0 0 Q (F0 m pc ls [])) (σ : hy_S) (x0 : Int32) (x1 : Int32) (x2 : Int32) (H : Heap) (locs : List Loc) (ls : Array Slot) (hf : fX9_needNumber σ x0 x1 x2 = some o) (w : hy_w cw G A s σ H locs) (hl : lv_has ls 3 [(0, .int x0), (1, .int x1), (2, .int x2)]) : W p l e R s m args below meth c H locs 0 0 Q (F0 m 0 ls []) := by
  unfold fX9_needNumber at hf
  refine lv_iload_n B.1.1 B.1.2.1 dX9_needNumber_0 rfl (lv_at hl 0 rfl) ?_
  refine lv_iload_n B.1.1 B.1.2.1 dX9_needNumber_1 rfl (lv_at hl 1 rfl) ?_
  refine lv_icmp_lt (tgt := 10) B.1.1 B.1.2.1 dX9_needNumber_2 (by decide) (fun c1 => ?_) (fun c1 => ?_)
  · rw [if_pos c1] at hf
    exact bX9_needNumber_10 hA B hR  ho hret _ _ _ _ hf w (lv_sub hl [] rfl)
  · rw [if_neg c1] at hf
    refine lv_iload_n B.1.1 B.1.2.1 dX9_needNumber_5 rfl (lv_at hl 0 rfl) ?_
    refine lv_iload_n B.1.1 B.1.2.1 dX9_needNumber_6 rfl (lv_at hl 2 rfl) ?_
    refine lv_icmp_le (tgt := 21) B.1.1 B.1.2.1 dX9_needNumber_7 (by decide) (fun c2 => ?_) (fun c2 => ?_)
    · rw [if_pos c2] at hf
      exact hret _ _ _ _ _ (Option.some.inj hf).symm w dX9_needNumber_21
    · rw [if_neg c2] at hf
      exact bX9_needNumber_10 hA B hR  ho hret _ _ _ _ hf w (lv_sub hl [] rfl)
set_option maxHeartbeats 4000000 in
set_option maxRecDepth 100000 in
theorem mX9_needNumber (l : Launch) (G : hy_G) (sz : Nat) (σ : hy_S) (x0 : Int32) (x1 : Int32) (x2 : Int32) (o : hy_S × Int32 × Nat) (hf : fX9_needNumber σ x0 x1 x2 = some o) (ho : o.2.2 = 0) : hy_Mv l yX9_needNumber wsX9_needNumber ({ frames := 6, cells := 0, slots := 0, locals := 82 }) cw G σ sz [.int x0, .int x1, .int x2] (o.1, o.2.1) := by
  refine Met.ofW (cc := cX9_needNumber) (maxL := 3) (ret := none) (by decide +kernel) rfl ?_
  intro p e s m args below meth c s₁ B hml hv
  obtain ⟨rfl, hsz, hP, hK, hD0, hN⟩ := hv
  have hx := B.exec
  have hb := B.bytes
  have hr := B.returns
  have hts := atoms_spec (ws := wsX9_needNumber) B.pre
  have hown : s.vm.findClass RX9 = some m.cls := findClass_of_methodNamed B.named
  have hlocks := B.notSynchronized
  subst hsz
  have hD := hD0.self (sz := s.heap.size)
  have hA : ∀ q : Nat, s.heap.size ≤ q → va_A (cw G σ) s.heap.size q := fun q h => Or.inr h
  have hS : va_S (va_A (cw G σ) s.heap.size) s.heap s.heap [] := va_S.rf
  have hl := lv_entry ([.int x0, .int x1, .int x2]) (n := 3) (Nat.le_of_ble_eq_true rfl)
  rw [lg_entry_eq]
  generalize (lg_sl ([.int x0, .int x1, .int x2]) ++ List.replicate (3 - (lg_sl ([.int x0, .int x1, .int x2])).length) Slot.unset).toArray = ls at hl ⊢
  have hl : lv_has ls 3 [(0, .int x0), (1, .int x1), (2, .int x2)] := hl
  refine bX9_needNumber_0 (A := va_A (cw G σ) s.heap.size) hA ⟨⟨hx, hb, hml, hown, hts⟩, hK, hN⟩ ⟨Nat.le_of_ble_eq_true rfl, Nat.le_of_ble_eq_true rfl⟩ (o := o) ho (fun τ pc H locs ls ho w d => ?_) σ x0 x1 x2 _ _ _ hf ⟨hP, hD, hS⟩ hl
  exact W.vret hx hb hr (fun t ht hW => ⟨⟨τ, rfl, by rw [ho], by have h9 := w.1; rw [← ht] at h9; exact h9⟩, w.2.2.F ht⟩) w.2.2.2.2 d
set_option maxHeartbeats 4000000 in
set_option maxRecDepth 100000 in
theorem tbX9_needNumber_10 (hA : ∀ q : Nat, s.heap.size ≤ q → A q) (B : hy_B RX9 cX9_needNumber 3 wsX9_needNumber G A p s m args c) (hR : 6 ≤ R.frames ∧ 82 ≤ R.locals) {o : hy_S × Int32 × Nat}  (ho : ¬ o.2.2 = 0) (hT : hy_TC l R meth c) (σ : hy_S) (H : Heap) (locs : List Loc) (ls : Array Slot) (hf : fX9_needNumber_10 σ = some o) (w : hy_w cw G A s σ H locs) (hl : lv_has ls 3 []) : W p l e R s m args below meth c H locs 0 0 (vx_MQ below Qc (hy_X cw G o A) args s 1 6 A) (F0 m 10 ls []) := by
  unfold fX9_needNumber_10 at hf
  have he := Option.some.inj hf
  subst he
  exact hy_throwW (k := 2) (text := "the number is too small or too great") B w hT ⟨by have := hR.1; omega, by have := hR.2; omega⟩ (by decide +kernel) (by decide +kernel) (by decide +kernel) (by decide +kernel) (by decide +kernel) (by decide +kernel) (by decide +kernel) (by decide +kernel) hl.1 dX9_needNumber_10 dX9_needNumber_13 dX9_needNumber_14 dX9_needNumber_17 dX9_needNumber_20
set_option maxHeartbeats 4000000 in
set_option maxRecDepth 100000 in
theorem tbX9_needNumber_0 (hA : ∀ q : Nat, s.heap.size ≤ q → A q) (B : hy_B RX9 cX9_needNumber 3 wsX9_needNumber G A p s m args c) (hR : 6 ≤ R.frames ∧ 82 ≤ R.locals) {o : hy_S × Int32 × Nat}  (ho : ¬ o.2.2 = 0) (hT : hy_TC l R meth c) (σ : hy_S) (x0 : Int32) (x1 : Int32) (x2 : Int32) (H : Heap) (locs : List Loc) (ls : Array Slot) (hf : fX9_needNumber σ x0 x1 x2 = some o) (w : hy_w cw G A s σ H locs) (hl : lv_has ls 3 [(0, .int x0), (1, .int x1), (2, .int x2)]) : W p l e R s m args below meth c H locs 0 0 (vx_MQ below Qc (hy_X cw G o A) args s 1 6 A) (F0 m 0 ls []) := by
  unfold fX9_needNumber at hf
  refine lv_iload_n B.1.1 B.1.2.1 dX9_needNumber_0 rfl (lv_at hl 0 rfl) ?_
  refine lv_iload_n B.1.1 B.1.2.1 dX9_needNumber_1 rfl (lv_at hl 1 rfl) ?_
  refine lv_icmp_lt (tgt := 10) B.1.1 B.1.2.1 dX9_needNumber_2 (by decide) (fun c1 => ?_) (fun c1 => ?_)
  · rw [if_pos c1] at hf
    exact tbX9_needNumber_10 hA B hR  ho hT _ _ _ _ hf w (lv_sub hl [] rfl)
  · rw [if_neg c1] at hf
    refine lv_iload_n B.1.1 B.1.2.1 dX9_needNumber_5 rfl (lv_at hl 0 rfl) ?_
    refine lv_iload_n B.1.1 B.1.2.1 dX9_needNumber_6 rfl (lv_at hl 2 rfl) ?_
    refine lv_icmp_le (tgt := 21) B.1.1 B.1.2.1 dX9_needNumber_7 (by decide) (fun c2 => ?_) (fun c2 => ?_)
    · rw [if_pos c2] at hf
      exact absurd (congrArg (fun z => z.2.2) (Option.some.inj hf)).symm ho
    · rw [if_neg c2] at hf
      exact tbX9_needNumber_10 hA B hR  ho hT _ _ _ _ hf w (lv_sub hl [] rfl)
set_option maxHeartbeats 4000000 in
set_option maxRecDepth 100000 in
theorem tX9_needNumber (l : Launch) (hlt : l.stackTraces = false) (G : hy_G) (sz : Nat) (σ : hy_S) (x0 : Int32) (x1 : Int32) (x2 : Int32) (o : hy_S × Int32 × Nat) (hf : fX9_needNumber σ x0 x1 x2 = some o) (ho : ¬ o.2.2 = 0) : hy_MTv l yX9_needNumber wsX9_needNumber ({ frames := 6, cells := 1, slots := 6, locals := 82 }) cw G σ sz [.int x0, .int x1, .int x2] o := by
  refine vx_ofW (cc := cX9_needNumber) (maxL := 3) (ret := none) (by decide +kernel) rfl ?_
  intro p e s m args below meth c s₁ B hml h0 hv
  obtain ⟨rfl, hsz, hP, hK, hD0, hN⟩ := hv
  have hx := B.exec
  have hb := B.bytes
  have hr := B.returns
  have hts := atoms_spec (ws := wsX9_needNumber) B.pre
  have hown : s.vm.findClass RX9 = some m.cls := findClass_of_methodNamed B.named
  have hlocks := B.notSynchronized
  subst hsz
  have hD := hD0.self (sz := s.heap.size)
  have hA : ∀ q : Nat, s.heap.size ≤ q → va_A (cw G σ) s.heap.size q := fun q h => Or.inr h
  have hS : va_S (va_A (cw G σ) s.heap.size) s.heap s.heap [] := va_S.rf
  have hl := lv_entry ([.int x0, .int x1, .int x2]) (n := 3) (Nat.le_of_ble_eq_true rfl)
  rw [lg_entry_eq]
  generalize (lg_sl ([.int x0, .int x1, .int x2]) ++ List.replicate (3 - (lg_sl ([.int x0, .int x1, .int x2])).length) Slot.unset).toArray = ls at hl ⊢
  have hl : lv_has ls 3 [(0, .int x0), (1, .int x1), (2, .int x2)] := hl
  exact tbX9_needNumber_0 (A := va_A (cw G σ) s.heap.size) hA ⟨⟨hx, hb, hml, hown, hts⟩, hK, hN⟩ ⟨Nat.le_of_ble_eq_true rfl, Nat.le_of_ble_eq_true rfl⟩ (o := o) ho ⟨hlt, hlocks, h0, Nat.le_refl _, Nat.le_refl _⟩ σ x0 x1 x2 _ _ _ hf ⟨hP, hD, hS⟩ hl
noncomputable def fX9_needPlace (σ : hy_S) (x0 : Int32) (x1 : Int32) : Option (hy_S × Int32 × Nat) := (if x0 < x1 then some (σ, 0, 0) else some (σ, 0, 3))
set_option maxHeartbeats 4000000 in
set_option maxRecDepth 100000 in
theorem bX9_needPlace_0 (hA : ∀ q : Nat, s.heap.size ≤ q → A q) (B : hy_B RX9 cX9_needPlace 2 wsX9_needPlace G A p s m args c) (hR : 6 ≤ R.frames ∧ 82 ≤ R.locals) {o : hy_S × Int32 × Nat}  (ho : o.2.2 = 0) (hret : ∀ (σ : hy_S) (pc : Nat) (H : Heap) (locs : List Loc) (ls : Array Slot), o = (σ, 0, 0) → hy_w cw G A s σ H locs → decode cX9_needPlace pc = .ok (.return_, 1) → W p l e R s m args below meth c H locs 0 0 Q (F0 m pc ls [])) (σ : hy_S) (x0 : Int32) (x1 : Int32) (H : Heap) (locs : List Loc) (ls : Array Slot) (hf : fX9_needPlace σ x0 x1 = some o) (w : hy_w cw G A s σ H locs) (hl : lv_has ls 2 [(0, .int x0), (1, .int x1)]) : W p l e R s m args below meth c H locs 0 0 Q (F0 m 0 ls []) := by
  unfold fX9_needPlace at hf
  refine lv_iload_n B.1.1 B.1.2.1 dX9_needPlace_0 rfl (lv_at hl 0 rfl) ?_
  refine lv_iload_n B.1.1 B.1.2.1 dX9_needPlace_1 rfl (lv_at hl 1 rfl) ?_
  refine lv_icmp_lt (tgt := 16) B.1.1 B.1.2.1 dX9_needPlace_2 (by decide) (fun c1 => ?_) (fun c1 => ?_)
  · rw [if_pos c1] at hf
    exact hret _ _ _ _ _ (Option.some.inj hf).symm w dX9_needPlace_16
  · rw [if_neg c1] at hf
    exact absurd ((congrArg (fun z => z.2.2) (Option.some.inj hf)).trans ho) (Nat.succ_ne_zero _)
set_option maxHeartbeats 4000000 in
set_option maxRecDepth 100000 in
theorem mX9_needPlace (l : Launch) (G : hy_G) (sz : Nat) (σ : hy_S) (x0 : Int32) (x1 : Int32) (o : hy_S × Int32 × Nat) (hf : fX9_needPlace σ x0 x1 = some o) (ho : o.2.2 = 0) : hy_Mv l yX9_needPlace wsX9_needPlace ({ frames := 6, cells := 0, slots := 0, locals := 82 }) cw G σ sz [.int x0, .int x1] (o.1, o.2.1) := by
  refine Met.ofW (cc := cX9_needPlace) (maxL := 2) (ret := none) (by decide +kernel) rfl ?_
  intro p e s m args below meth c s₁ B hml hv
  obtain ⟨rfl, hsz, hP, hK, hD0, hN⟩ := hv
  have hx := B.exec
  have hb := B.bytes
  have hr := B.returns
  have hts := atoms_spec (ws := wsX9_needPlace) B.pre
  have hown : s.vm.findClass RX9 = some m.cls := findClass_of_methodNamed B.named
  have hlocks := B.notSynchronized
  subst hsz
  have hD := hD0.self (sz := s.heap.size)
  have hA : ∀ q : Nat, s.heap.size ≤ q → va_A (cw G σ) s.heap.size q := fun q h => Or.inr h
  have hS : va_S (va_A (cw G σ) s.heap.size) s.heap s.heap [] := va_S.rf
  have hl := lv_entry ([.int x0, .int x1]) (n := 2) (Nat.le_of_ble_eq_true rfl)
  rw [lg_entry_eq]
  generalize (lg_sl ([.int x0, .int x1]) ++ List.replicate (2 - (lg_sl ([.int x0, .int x1])).length) Slot.unset).toArray = ls at hl ⊢
  have hl : lv_has ls 2 [(0, .int x0), (1, .int x1)] := hl
  refine bX9_needPlace_0 (A := va_A (cw G σ) s.heap.size) hA ⟨⟨hx, hb, hml, hown, hts⟩, hK, hN⟩ ⟨Nat.le_of_ble_eq_true rfl, Nat.le_of_ble_eq_true rfl⟩ (o := o) ho (fun τ pc H locs ls ho w d => ?_) σ x0 x1 _ _ _ hf ⟨hP, hD, hS⟩ hl
  exact W.vret hx hb hr (fun t ht hW => ⟨⟨τ, rfl, by rw [ho], by have h9 := w.1; rw [← ht] at h9; exact h9⟩, w.2.2.F ht⟩) w.2.2.2.2 d
set_option maxHeartbeats 4000000 in
set_option maxRecDepth 100000 in
theorem tbX9_needPlace_0 (hA : ∀ q : Nat, s.heap.size ≤ q → A q) (B : hy_B RX9 cX9_needPlace 2 wsX9_needPlace G A p s m args c) (hR : 6 ≤ R.frames ∧ 82 ≤ R.locals) {o : hy_S × Int32 × Nat}  (ho : ¬ o.2.2 = 0) (hT : hy_TC l R meth c) (σ : hy_S) (x0 : Int32) (x1 : Int32) (H : Heap) (locs : List Loc) (ls : Array Slot) (hf : fX9_needPlace σ x0 x1 = some o) (w : hy_w cw G A s σ H locs) (hl : lv_has ls 2 [(0, .int x0), (1, .int x1)]) : W p l e R s m args below meth c H locs 0 0 (vx_MQ below Qc (hy_X cw G o A) args s 1 6 A) (F0 m 0 ls []) := by
  unfold fX9_needPlace at hf
  refine lv_iload_n B.1.1 B.1.2.1 dX9_needPlace_0 rfl (lv_at hl 0 rfl) ?_
  refine lv_iload_n B.1.1 B.1.2.1 dX9_needPlace_1 rfl (lv_at hl 1 rfl) ?_
  refine lv_icmp_lt (tgt := 16) B.1.1 B.1.2.1 dX9_needPlace_2 (by decide) (fun c1 => ?_) (fun c1 => ?_)
  · rw [if_pos c1] at hf
    exact absurd (congrArg (fun z => z.2.2) (Option.some.inj hf)).symm ho
  · rw [if_neg c1] at hf
    have he := Option.some.inj hf
    subst he
    exact hy_throwW (k := 3) (text := "there are as many as there may be") B w hT ⟨by have := hR.1; omega, by have := hR.2; omega⟩ (by decide +kernel) (by decide +kernel) (by decide +kernel) (by decide +kernel) (by decide +kernel) (by decide +kernel) (by decide +kernel) (by decide +kernel) hl.1 dX9_needPlace_5 dX9_needPlace_8 dX9_needPlace_9 dX9_needPlace_12 dX9_needPlace_15
set_option maxHeartbeats 4000000 in
set_option maxRecDepth 100000 in
theorem tX9_needPlace (l : Launch) (hlt : l.stackTraces = false) (G : hy_G) (sz : Nat) (σ : hy_S) (x0 : Int32) (x1 : Int32) (o : hy_S × Int32 × Nat) (hf : fX9_needPlace σ x0 x1 = some o) (ho : ¬ o.2.2 = 0) : hy_MTv l yX9_needPlace wsX9_needPlace ({ frames := 6, cells := 1, slots := 6, locals := 82 }) cw G σ sz [.int x0, .int x1] o := by
  refine vx_ofW (cc := cX9_needPlace) (maxL := 2) (ret := none) (by decide +kernel) rfl ?_
  intro p e s m args below meth c s₁ B hml h0 hv
  obtain ⟨rfl, hsz, hP, hK, hD0, hN⟩ := hv
  have hx := B.exec
  have hb := B.bytes
  have hr := B.returns
  have hts := atoms_spec (ws := wsX9_needPlace) B.pre
  have hown : s.vm.findClass RX9 = some m.cls := findClass_of_methodNamed B.named
  have hlocks := B.notSynchronized
  subst hsz
  have hD := hD0.self (sz := s.heap.size)
  have hA : ∀ q : Nat, s.heap.size ≤ q → va_A (cw G σ) s.heap.size q := fun q h => Or.inr h
  have hS : va_S (va_A (cw G σ) s.heap.size) s.heap s.heap [] := va_S.rf
  have hl := lv_entry ([.int x0, .int x1]) (n := 2) (Nat.le_of_ble_eq_true rfl)
  rw [lg_entry_eq]
  generalize (lg_sl ([.int x0, .int x1]) ++ List.replicate (2 - (lg_sl ([.int x0, .int x1])).length) Slot.unset).toArray = ls at hl ⊢
  have hl : lv_has ls 2 [(0, .int x0), (1, .int x1)] := hl
  exact tbX9_needPlace_0 (A := va_A (cw G σ) s.heap.size) hA ⟨⟨hx, hb, hml, hown, hts⟩, hK, hN⟩ ⟨Nat.le_of_ble_eq_true rfl, Nat.le_of_ble_eq_true rfl⟩ (o := o) ho ⟨hlt, hlocks, h0, Nat.le_refl _, Nat.le_refl _⟩ σ x0 x1 _ _ _ hf ⟨hP, hD, hS⟩ hl
noncomputable def fX9_needStampOrNone (σ : hy_S) (x0 : Int32) : Option (hy_S × Int32 × Nat) := (if x0 = (-1) then some (σ, 0, 0) else hy_bt (fX9_needIndex σ x0 12) some (fun σ2 v3 => some (σ2, 0, 0)))
set_option maxHeartbeats 4000000 in
set_option maxRecDepth 100000 in
theorem bX9_needStampOrNone_0 (hA : ∀ q : Nat, s.heap.size ≤ q → A q) (B : hy_B RX9 cX9_needStampOrNone 1 wsX9_needStampOrNone G A p s m args c) (hR : 7 ≤ R.frames ∧ 103 ≤ R.locals) {o : hy_S × Int32 × Nat}  (ho : o.2.2 = 0) (hret : ∀ (σ : hy_S) (pc : Nat) (H : Heap) (locs : List Loc) (ls : Array Slot), o = (σ, 0, 0) → hy_w cw G A s σ H locs → decode cX9_needStampOrNone pc = .ok (.return_, 1) → W p l e R s m args below meth c H locs 0 0 Q (F0 m pc ls [])) (σ : hy_S) (x0 : Int32) (H : Heap) (locs : List Loc) (ls : Array Slot) (hf : fX9_needStampOrNone σ x0 = some o) (w : hy_w cw G A s σ H locs) (hl : lv_has ls 1 [(0, .int x0)]) : W p l e R s m args below meth c H locs 0 0 Q (F0 m 0 ls []) := by
  unfold fX9_needStampOrNone at hf
  refine lv_iload_n B.1.1 B.1.2.1 dX9_needStampOrNone_0 rfl (lv_at hl 0 rfl) ?_
  refine lv_iconst (v := (-1)) B.1.1 B.1.2.1 dX9_needStampOrNone_1 (by decide) ?_
  refine lv_icmp_eq (tgt := 11) B.1.1 B.1.2.1 dX9_needStampOrNone_2 (by decide) (fun c1 => ?_) (fun c1 => ?_)
  · rw [if_pos c1] at hf
    exact hret _ _ _ _ _ (Option.some.inj hf).symm w dX9_needStampOrNone_11
  · rw [if_neg c1] at hf
    refine lv_iload_n B.1.1 B.1.2.1 dX9_needStampOrNone_5 rfl (lv_at hl 0 rfl) ?_
    refine lv_bipush (v := 12) B.1.1 B.1.2.1 dX9_needStampOrNone_6 (by decide) ?_
    rcases hy_bt_some hf with ⟨σ2, v3, h4, hf⟩ | ⟨h4, h5⟩
    · refine hy_csv (As := [.int x0, .int 12]) (rest := []) (o := (σ2, v3)) cw_fix hA B w (fun sz => mX9_needIndex l G sz σ x0 12 _ h4 rfl) (cwS 2 B.1.2.2.2.2 gX9_needStampOrNone_X9_needIndex rfl rfl rfl (by decide +kernel) ⟨by have := hR.1; show 6 + 1 ≤ _; omega, by have := hR.2; show 8 + (2 + 11) + 82 ≤ _; omega⟩) rfl hl.1 rfl (Nat.le_of_ble_eq_true rfl) dX9_needStampOrNone_8 ⟨Nat.zero_le _, Nat.zero_le _⟩ (fun H locs w => ?_)
      exact hret _ _ _ _ _ (Option.some.inj hf).symm w dX9_needStampOrNone_11
    · exact absurd ho h5
set_option maxHeartbeats 4000000 in
set_option maxRecDepth 100000 in
theorem mX9_needStampOrNone (l : Launch) (G : hy_G) (sz : Nat) (σ : hy_S) (x0 : Int32) (o : hy_S × Int32 × Nat) (hf : fX9_needStampOrNone σ x0 = some o) (ho : o.2.2 = 0) : hy_Mv l yX9_needStampOrNone wsX9_needStampOrNone ({ frames := 7, cells := 0, slots := 0, locals := 103 }) cw G σ sz [.int x0] (o.1, o.2.1) := by
  refine Met.ofW (cc := cX9_needStampOrNone) (maxL := 1) (ret := none) (by decide +kernel) rfl ?_
  intro p e s m args below meth c s₁ B hml hv
  obtain ⟨rfl, hsz, hP, hK, hD0, hN⟩ := hv
  have hx := B.exec
  have hb := B.bytes
  have hr := B.returns
  have hts := atoms_spec (ws := wsX9_needStampOrNone) B.pre
  have hown : s.vm.findClass RX9 = some m.cls := findClass_of_methodNamed B.named
  have hlocks := B.notSynchronized
  subst hsz
  have hD := hD0.self (sz := s.heap.size)
  have hA : ∀ q : Nat, s.heap.size ≤ q → va_A (cw G σ) s.heap.size q := fun q h => Or.inr h
  have hS : va_S (va_A (cw G σ) s.heap.size) s.heap s.heap [] := va_S.rf
  have hl := lv_entry ([.int x0]) (n := 1) (Nat.le_of_ble_eq_true rfl)
  rw [lg_entry_eq]
  generalize (lg_sl ([.int x0]) ++ List.replicate (1 - (lg_sl ([.int x0])).length) Slot.unset).toArray = ls at hl ⊢
  have hl : lv_has ls 1 [(0, .int x0)] := hl
  refine bX9_needStampOrNone_0 (A := va_A (cw G σ) s.heap.size) hA ⟨⟨hx, hb, hml, hown, hts⟩, hK, hN⟩ ⟨Nat.le_of_ble_eq_true rfl, Nat.le_of_ble_eq_true rfl⟩ (o := o) ho (fun τ pc H locs ls ho w d => ?_) σ x0 _ _ _ hf ⟨hP, hD, hS⟩ hl
  exact W.vret hx hb hr (fun t ht hW => ⟨⟨τ, rfl, by rw [ho], by have h9 := w.1; rw [← ht] at h9; exact h9⟩, w.2.2.F ht⟩) w.2.2.2.2 d
set_option maxHeartbeats 4000000 in
set_option maxRecDepth 100000 in
theorem tbX9_needStampOrNone_0 (hA : ∀ q : Nat, s.heap.size ≤ q → A q) (B : hy_B RX9 cX9_needStampOrNone 1 wsX9_needStampOrNone G A p s m args c) (hR : 7 ≤ R.frames ∧ 103 ≤ R.locals) {o : hy_S × Int32 × Nat}  (ho : ¬ o.2.2 = 0) (hT : hy_TC l R meth c) (σ : hy_S) (x0 : Int32) (H : Heap) (locs : List Loc) (ls : Array Slot) (hf : fX9_needStampOrNone σ x0 = some o) (w : hy_w cw G A s σ H locs) (hl : lv_has ls 1 [(0, .int x0)]) : W p l e R s m args below meth c H locs 0 0 (vx_MQ below Qc (hy_X cw G o A) args s 1 6 A) (F0 m 0 ls []) := by
  unfold fX9_needStampOrNone at hf
  refine lv_iload_n B.1.1 B.1.2.1 dX9_needStampOrNone_0 rfl (lv_at hl 0 rfl) ?_
  refine lv_iconst (v := (-1)) B.1.1 B.1.2.1 dX9_needStampOrNone_1 (by decide) ?_
  refine lv_icmp_eq (tgt := 11) B.1.1 B.1.2.1 dX9_needStampOrNone_2 (by decide) (fun c1 => ?_) (fun c1 => ?_)
  · rw [if_pos c1] at hf
    exact absurd (congrArg (fun z => z.2.2) (Option.some.inj hf)).symm ho
  · rw [if_neg c1] at hf
    refine lv_iload_n B.1.1 B.1.2.1 dX9_needStampOrNone_5 rfl (lv_at hl 0 rfl) ?_
    refine lv_bipush (v := 12) B.1.1 B.1.2.1 dX9_needStampOrNone_6 (by decide) ?_
    rcases hy_bt_some hf with ⟨σ2, v3, h4, hf⟩ | ⟨h4, h5⟩
    · refine hy_csv (As := [.int x0, .int 12]) (rest := []) (o := (σ2, v3)) cw_fix hA B w (fun sz => mX9_needIndex l G sz σ x0 12 _ h4 rfl) (cwS 2 B.1.2.2.2.2 gX9_needStampOrNone_X9_needIndex rfl rfl rfl (by decide +kernel) ⟨by have := hR.1; show 6 + 1 ≤ _; omega, by have := hR.2; show 8 + (2 + 11) + 82 ≤ _; omega⟩) rfl hl.1 rfl (Nat.le_of_ble_eq_true rfl) dX9_needStampOrNone_8 ⟨Nat.zero_le _, Nat.zero_le _⟩ (fun H locs w => ?_)
      exact absurd (congrArg (fun z => z.2.2) (Option.some.inj hf)).symm ho
    · exact hy_tsv (As := [.int x0, .int 12]) (rest := []) hA B w hT (fun sz => tX9_needIndex l hT.1 G sz σ x0 12 _ h4 h5) (cwS 2 B.1.2.2.2.2 gX9_needStampOrNone_X9_needIndex rfl rfl rfl (by decide +kernel) ⟨by have := hR.1; show 6 + 1 ≤ _; omega, by have := hR.2; show 8 + (2 + 11) + 82 ≤ _; omega⟩) rfl hl.1 rfl (Nat.le_of_ble_eq_true rfl) dX9_needStampOrNone_8
set_option maxHeartbeats 4000000 in
set_option maxRecDepth 100000 in
theorem tX9_needStampOrNone (l : Launch) (hlt : l.stackTraces = false) (G : hy_G) (sz : Nat) (σ : hy_S) (x0 : Int32) (o : hy_S × Int32 × Nat) (hf : fX9_needStampOrNone σ x0 = some o) (ho : ¬ o.2.2 = 0) : hy_MTv l yX9_needStampOrNone wsX9_needStampOrNone ({ frames := 7, cells := 1, slots := 6, locals := 103 }) cw G σ sz [.int x0] o := by
  refine vx_ofW (cc := cX9_needStampOrNone) (maxL := 1) (ret := none) (by decide +kernel) rfl ?_
  intro p e s m args below meth c s₁ B hml h0 hv
  obtain ⟨rfl, hsz, hP, hK, hD0, hN⟩ := hv
  have hx := B.exec
  have hb := B.bytes
  have hr := B.returns
  have hts := atoms_spec (ws := wsX9_needStampOrNone) B.pre
  have hown : s.vm.findClass RX9 = some m.cls := findClass_of_methodNamed B.named
  have hlocks := B.notSynchronized
  subst hsz
  have hD := hD0.self (sz := s.heap.size)
  have hA : ∀ q : Nat, s.heap.size ≤ q → va_A (cw G σ) s.heap.size q := fun q h => Or.inr h
  have hS : va_S (va_A (cw G σ) s.heap.size) s.heap s.heap [] := va_S.rf
  have hl := lv_entry ([.int x0]) (n := 1) (Nat.le_of_ble_eq_true rfl)
  rw [lg_entry_eq]
  generalize (lg_sl ([.int x0]) ++ List.replicate (1 - (lg_sl ([.int x0])).length) Slot.unset).toArray = ls at hl ⊢
  have hl : lv_has ls 1 [(0, .int x0)] := hl
  exact tbX9_needStampOrNone_0 (A := va_A (cw G σ) s.heap.size) hA ⟨⟨hx, hb, hml, hown, hts⟩, hK, hN⟩ ⟨Nat.le_of_ble_eq_true rfl, Nat.le_of_ble_eq_true rfl⟩ (o := o) ho ⟨hlt, hlocks, h0, Nat.le_refl _, Nat.le_refl _⟩ σ x0 _ _ _ hf ⟨hP, hD, hS⟩ hl
theorem in_X9_needHold_X0 : ∀ w ∈ u_ws RX0 TX0 4, w ∈ wsX9_needHold := fun _ h => xt1 (xl (xr (h)))
theorem in_X9_needHold_X9 : ∀ w ∈ u_ws RX9 TX9 11, w ∈ wsX9_needHold := fun _ h => xt1 (xl (xl (xr (h))))
noncomputable def fX9_needHold (σ : hy_S) (x1 : Int32) (x2 : Int32) : Option (hy_S × Int32 × Nat) := hy_bt (fX9_needIndex σ x1 (σ.2 5)) some (fun σ1 v2 => hy_bt (fX9_needIndex σ1 x2 6) some (fun σ5 v6 => some (σ5, 0, 0)))
set_option maxHeartbeats 4000000 in
set_option maxRecDepth 100000 in
theorem bX9_needHold_0 (hA : ∀ q : Nat, s.heap.size ≤ q → A q) (B : hy_B RX9 cX9_needHold 3 wsX9_needHold G A p s m args c) (hR : 7 ≤ R.frames ∧ 103 ≤ R.locals) {o : hy_S × Int32 × Nat}  (ho : o.2.2 = 0) (hret : ∀ (σ : hy_S) (pc : Nat) (H : Heap) (locs : List Loc) (ls : Array Slot), o = (σ, 0, 0) → hy_w cw G A s σ H locs → decode cX9_needHold pc = .ok (.return_, 1) → W p l e R s m args below meth c H locs 0 0 Q (F0 m pc ls [])) (σ : hy_S) (x1 : Int32) (x2 : Int32) (H : Heap) (locs : List Loc) (ls : Array Slot) (hf : fX9_needHold σ x1 x2 = some o) (w : hy_w cw G A s σ H locs) (hl : lv_has ls 3 [(0, .ref (G.2.2.2.1 0)), (1, .int x1), (2, .int x2)]) : W p l e R s m args below meth c H locs 0 0 Q (F0 m 0 ls []) := by
  unfold fX9_needHold at hf
  refine lv_iload_n B.1.1 B.1.2.1 dX9_needHold_0 rfl (lv_at hl 1 rfl) ?_
  refine lv_aload_n B.1.1 B.1.2.1 dX9_needHold_1 rfl (lv_at hl 0 rfl) ?_
  refine hy_get (k := 4) (v := .ref (G.2.2.2.1 5)) B w (cwq_0 G) rfl in_X9_needHold_X9 (by decide) (by decide +kernel) rfl dX9_needHold_2 ?_
  refine hy_getN (k := 3) (v := .int (σ.2 5)) B w (cwq_5 G) rfl in_X9_needHold_X0 (by decide) (by decide +kernel) rfl dX9_needHold_5 ?_
  rcases hy_bt_some hf with ⟨σ1, v2, h3, hf⟩ | ⟨h3, h4⟩
  · refine hy_csv (As := [.int x1, .int (σ.2 5)]) (rest := []) (o := (σ1, v2)) cw_fix hA B w (fun sz => mX9_needIndex l G sz σ x1 (σ.2 5) _ h3 rfl) (cwS 2 B.1.2.2.2.2 gX9_needHold_X9_needIndex rfl rfl rfl (by decide +kernel) ⟨by have := hR.1; show 6 + 1 ≤ _; omega, by have := hR.2; show 8 + (2 + 11) + 82 ≤ _; omega⟩) rfl hl.1 rfl (Nat.le_of_ble_eq_true rfl) dX9_needHold_8 ⟨Nat.zero_le _, Nat.zero_le _⟩ (fun H locs w => ?_)
    refine lv_iload_n B.1.1 B.1.2.1 dX9_needHold_11 rfl (lv_at hl 2 rfl) ?_
    refine lv_bipush (v := 6) B.1.1 B.1.2.1 dX9_needHold_12 (by decide) ?_
    rcases hy_bt_some hf with ⟨σ5, v6, h7, hf⟩ | ⟨h7, h8⟩
    · refine hy_csv (As := [.int x2, .int 6]) (rest := []) (o := (σ5, v6)) cw_fix hA B w (fun sz => mX9_needIndex l G sz σ1 x2 6 _ h7 rfl) (cwS 2 B.1.2.2.2.2 gX9_needHold_X9_needIndex rfl rfl rfl (by decide +kernel) ⟨by have := hR.1; show 6 + 1 ≤ _; omega, by have := hR.2; show 8 + (2 + 11) + 82 ≤ _; omega⟩) rfl hl.1 rfl (Nat.le_of_ble_eq_true rfl) dX9_needHold_14 ⟨Nat.zero_le _, Nat.zero_le _⟩ (fun H locs w => ?_)
      exact hret _ _ _ _ _ (Option.some.inj hf).symm w dX9_needHold_17
    · exact absurd ho h8
  · exact absurd ho h4
set_option maxHeartbeats 4000000 in
set_option maxRecDepth 100000 in
theorem mX9_needHold (l : Launch) (G : hy_G) (sz : Nat) (σ : hy_S) (x1 : Int32) (x2 : Int32) (o : hy_S × Int32 × Nat) (hf : fX9_needHold σ x1 x2 = some o) (ho : o.2.2 = 0) : hy_Mv l yX9_needHold wsX9_needHold ({ frames := 7, cells := 0, slots := 0, locals := 103 }) cw G σ sz [.ref (G.2.2.2.1 0), .int x1, .int x2] (o.1, o.2.1) := by
  refine Met.ofW (cc := cX9_needHold) (maxL := 3) (ret := none) (by decide +kernel) rfl ?_
  intro p e s m args below meth c s₁ B hml hv
  obtain ⟨rfl, hsz, hP, hK, hD0, hN⟩ := hv
  have hx := B.exec
  have hb := B.bytes
  have hr := B.returns
  have hts := atoms_spec (ws := wsX9_needHold) B.pre
  have hown : s.vm.findClass RX9 = some m.cls := findClass_of_methodNamed B.named
  have hlocks := B.notSynchronized
  subst hsz
  have hD := hD0.self (sz := s.heap.size)
  have hA : ∀ q : Nat, s.heap.size ≤ q → va_A (cw G σ) s.heap.size q := fun q h => Or.inr h
  have hS : va_S (va_A (cw G σ) s.heap.size) s.heap s.heap [] := va_S.rf
  have hl := lv_entry ([.ref (G.2.2.2.1 0), .int x1, .int x2]) (n := 3) (Nat.le_of_ble_eq_true rfl)
  rw [lg_entry_eq]
  generalize (lg_sl ([.ref (G.2.2.2.1 0), .int x1, .int x2]) ++ List.replicate (3 - (lg_sl ([.ref (G.2.2.2.1 0), .int x1, .int x2])).length) Slot.unset).toArray = ls at hl ⊢
  have hl : lv_has ls 3 [(0, .ref (G.2.2.2.1 0)), (1, .int x1), (2, .int x2)] := hl
  refine bX9_needHold_0 (A := va_A (cw G σ) s.heap.size) hA ⟨⟨hx, hb, hml, hown, hts⟩, hK, hN⟩ ⟨Nat.le_of_ble_eq_true rfl, Nat.le_of_ble_eq_true rfl⟩ (o := o) ho (fun τ pc H locs ls ho w d => ?_) σ x1 x2 _ _ _ hf ⟨hP, hD, hS⟩ hl
  exact W.vret hx hb hr (fun t ht hW => ⟨⟨τ, rfl, by rw [ho], by have h9 := w.1; rw [← ht] at h9; exact h9⟩, w.2.2.F ht⟩) w.2.2.2.2 d
set_option maxHeartbeats 4000000 in
set_option maxRecDepth 100000 in
theorem tbX9_needHold_0 (hA : ∀ q : Nat, s.heap.size ≤ q → A q) (B : hy_B RX9 cX9_needHold 3 wsX9_needHold G A p s m args c) (hR : 7 ≤ R.frames ∧ 103 ≤ R.locals) {o : hy_S × Int32 × Nat}  (ho : ¬ o.2.2 = 0) (hT : hy_TC l R meth c) (σ : hy_S) (x1 : Int32) (x2 : Int32) (H : Heap) (locs : List Loc) (ls : Array Slot) (hf : fX9_needHold σ x1 x2 = some o) (w : hy_w cw G A s σ H locs) (hl : lv_has ls 3 [(0, .ref (G.2.2.2.1 0)), (1, .int x1), (2, .int x2)]) : W p l e R s m args below meth c H locs 0 0 (vx_MQ below Qc (hy_X cw G o A) args s 1 6 A) (F0 m 0 ls []) := by
  unfold fX9_needHold at hf
  refine lv_iload_n B.1.1 B.1.2.1 dX9_needHold_0 rfl (lv_at hl 1 rfl) ?_
  refine lv_aload_n B.1.1 B.1.2.1 dX9_needHold_1 rfl (lv_at hl 0 rfl) ?_
  refine hy_get (k := 4) (v := .ref (G.2.2.2.1 5)) B w (cwq_0 G) rfl in_X9_needHold_X9 (by decide) (by decide +kernel) rfl dX9_needHold_2 ?_
  refine hy_getN (k := 3) (v := .int (σ.2 5)) B w (cwq_5 G) rfl in_X9_needHold_X0 (by decide) (by decide +kernel) rfl dX9_needHold_5 ?_
  rcases hy_bt_some hf with ⟨σ1, v2, h3, hf⟩ | ⟨h3, h4⟩
  · refine hy_csv (As := [.int x1, .int (σ.2 5)]) (rest := []) (o := (σ1, v2)) cw_fix hA B w (fun sz => mX9_needIndex l G sz σ x1 (σ.2 5) _ h3 rfl) (cwS 2 B.1.2.2.2.2 gX9_needHold_X9_needIndex rfl rfl rfl (by decide +kernel) ⟨by have := hR.1; show 6 + 1 ≤ _; omega, by have := hR.2; show 8 + (2 + 11) + 82 ≤ _; omega⟩) rfl hl.1 rfl (Nat.le_of_ble_eq_true rfl) dX9_needHold_8 ⟨Nat.zero_le _, Nat.zero_le _⟩ (fun H locs w => ?_)
    refine lv_iload_n B.1.1 B.1.2.1 dX9_needHold_11 rfl (lv_at hl 2 rfl) ?_
    refine lv_bipush (v := 6) B.1.1 B.1.2.1 dX9_needHold_12 (by decide) ?_
    rcases hy_bt_some hf with ⟨σ5, v6, h7, hf⟩ | ⟨h7, h8⟩
    · refine hy_csv (As := [.int x2, .int 6]) (rest := []) (o := (σ5, v6)) cw_fix hA B w (fun sz => mX9_needIndex l G sz σ1 x2 6 _ h7 rfl) (cwS 2 B.1.2.2.2.2 gX9_needHold_X9_needIndex rfl rfl rfl (by decide +kernel) ⟨by have := hR.1; show 6 + 1 ≤ _; omega, by have := hR.2; show 8 + (2 + 11) + 82 ≤ _; omega⟩) rfl hl.1 rfl (Nat.le_of_ble_eq_true rfl) dX9_needHold_14 ⟨Nat.zero_le _, Nat.zero_le _⟩ (fun H locs w => ?_)
      exact absurd (congrArg (fun z => z.2.2) (Option.some.inj hf)).symm ho
    · exact hy_tsv (As := [.int x2, .int 6]) (rest := []) hA B w hT (fun sz => tX9_needIndex l hT.1 G sz σ1 x2 6 _ h7 h8) (cwS 2 B.1.2.2.2.2 gX9_needHold_X9_needIndex rfl rfl rfl (by decide +kernel) ⟨by have := hR.1; show 6 + 1 ≤ _; omega, by have := hR.2; show 8 + (2 + 11) + 82 ≤ _; omega⟩) rfl hl.1 rfl (Nat.le_of_ble_eq_true rfl) dX9_needHold_14
  · exact hy_tsv (As := [.int x1, .int (σ.2 5)]) (rest := []) hA B w hT (fun sz => tX9_needIndex l hT.1 G sz σ x1 (σ.2 5) _ h3 h4) (cwS 2 B.1.2.2.2.2 gX9_needHold_X9_needIndex rfl rfl rfl (by decide +kernel) ⟨by have := hR.1; show 6 + 1 ≤ _; omega, by have := hR.2; show 8 + (2 + 11) + 82 ≤ _; omega⟩) rfl hl.1 rfl (Nat.le_of_ble_eq_true rfl) dX9_needHold_8
set_option maxHeartbeats 4000000 in
set_option maxRecDepth 100000 in
theorem tX9_needHold (l : Launch) (hlt : l.stackTraces = false) (G : hy_G) (sz : Nat) (σ : hy_S) (x1 : Int32) (x2 : Int32) (o : hy_S × Int32 × Nat) (hf : fX9_needHold σ x1 x2 = some o) (ho : ¬ o.2.2 = 0) : hy_MTv l yX9_needHold wsX9_needHold ({ frames := 7, cells := 1, slots := 6, locals := 103 }) cw G σ sz [.ref (G.2.2.2.1 0), .int x1, .int x2] o := by
  refine vx_ofW (cc := cX9_needHold) (maxL := 3) (ret := none) (by decide +kernel) rfl ?_
  intro p e s m args below meth c s₁ B hml h0 hv
  obtain ⟨rfl, hsz, hP, hK, hD0, hN⟩ := hv
  have hx := B.exec
  have hb := B.bytes
  have hr := B.returns
  have hts := atoms_spec (ws := wsX9_needHold) B.pre
  have hown : s.vm.findClass RX9 = some m.cls := findClass_of_methodNamed B.named
  have hlocks := B.notSynchronized
  subst hsz
  have hD := hD0.self (sz := s.heap.size)
  have hA : ∀ q : Nat, s.heap.size ≤ q → va_A (cw G σ) s.heap.size q := fun q h => Or.inr h
  have hS : va_S (va_A (cw G σ) s.heap.size) s.heap s.heap [] := va_S.rf
  have hl := lv_entry ([.ref (G.2.2.2.1 0), .int x1, .int x2]) (n := 3) (Nat.le_of_ble_eq_true rfl)
  rw [lg_entry_eq]
  generalize (lg_sl ([.ref (G.2.2.2.1 0), .int x1, .int x2]) ++ List.replicate (3 - (lg_sl ([.ref (G.2.2.2.1 0), .int x1, .int x2])).length) Slot.unset).toArray = ls at hl ⊢
  have hl : lv_has ls 3 [(0, .ref (G.2.2.2.1 0)), (1, .int x1), (2, .int x2)] := hl
  exact tbX9_needHold_0 (A := va_A (cw G σ) s.heap.size) hA ⟨⟨hx, hb, hml, hown, hts⟩, hK, hN⟩ ⟨Nat.le_of_ble_eq_true rfl, Nat.le_of_ble_eq_true rfl⟩ (o := o) ho ⟨hlt, hlocks, h0, Nat.le_refl _, Nat.le_refl _⟩ σ x1 x2 _ _ _ hf ⟨hP, hD, hS⟩ hl
end HY1
