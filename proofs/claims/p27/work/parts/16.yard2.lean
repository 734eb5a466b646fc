section HY2
variable {p : Program} {l : Launch} {e : Env} {R : Room} {s : State} {m : MethodId} {args : Array Value} {below : List Frame} {meth : Method} {c : Code} {Q : State → Prop} {G : hy_G} {A : Nat → Prop} {Qc : Array Value → State → Outcome → State → Prop}
theorem in_X9_feed_X9 : ∀ w ∈ u_ws RX9 TX9 11, w ∈ wsX9_feed := fun _ h => xt1 (xl (xr (h)))
noncomputable def fX9_feed (σ : hy_S) (x1 : Int32) (x2 : Int32) (x3 : Int32) (x4 : Int32) (x5 : Int32) : Option (hy_S × Int32) := hy_bd (fX7_append σ x1 x2 x3 x4 x5) (fun σ1 v2 => some (σ1, v2))
set_option maxHeartbeats 4000000 in
set_option maxRecDepth 100000 in
theorem bX9_feed_0 (hA : ∀ q : Nat, s.heap.size ≤ q → A q) (B : hy_B RX9 cX9_feed 6 wsX9_feed G A p s m args c) (hR : 2 ≤ R.frames ∧ 47 ≤ R.locals) {o : hy_S × Int32}  (hret : ∀ (σ : hy_S) (v : Int32) (pc : Nat) (H : Heap) (locs : List Loc) (ls : Array Slot), o = (σ, v) → hy_w cw G A s σ H locs → decode cX9_feed pc = .ok (.ireturn, 1) → W p l e R s m args below meth c H locs 0 0 Q (F0 m pc ls [.int v])) (σ : hy_S) (x1 : Int32) (x2 : Int32) (x3 : Int32) (x4 : Int32) (x5 : Int32) (H : Heap) (locs : List Loc) (ls : Array Slot) (hf : fX9_feed σ x1 x2 x3 x4 x5 = some o) (w : hy_w cw G A s σ H locs) (hl : lv_has ls 6 [(0, .ref (G.2.2.2.1 0)), (1, .int x1), (2, .int x2), (3, .int x3), (4, .int x4), (5, .int x5)]) : W p l e R s m args below meth c H locs 0 0 Q (F0 m 0 ls []) := by
  unfold fX9_feed at hf
  refine lv_aload_n B.1.1 B.1.2.1 dX9_feed_0 rfl (lv_at hl 0 rfl) ?_
  refine hy_get (k := 0) (v := .ref (G.2.2.2.1 1)) B w (cwq_0 G) rfl in_X9_feed_X9 (by decide) (by decide +kernel) rfl dX9_feed_1 ?_
  refine lv_iload_n B.1.1 B.1.2.1 dX9_feed_4 rfl (lv_at hl 1 rfl) ?_
  refine lv_iload_n B.1.1 B.1.2.1 dX9_feed_5 rfl (lv_at hl 2 rfl) ?_
  refine lv_iload_n B.1.1 B.1.2.1 dX9_feed_6 rfl (lv_at hl 3 rfl) ?_
  refine lv_iload B.1.1 B.1.2.1 dX9_feed_7 (lv_at hl 4 rfl) ?_
  refine lv_iload B.1.1 B.1.2.1 dX9_feed_9 (lv_at hl 5 rfl) ?_
  obtain ⟨σ1, v2, h3, hf⟩ := hy_bd_some hf
  refine hy_cv (As := [.int x1, .int x2, .int x3, .int x4, .int x5]) (rest := []) (o := (σ1, v2)) cw_fix hA B w (fun sz => mX7_append l G sz σ x1 x2 x3 x4 x5 _ h3) (cwV 5 B.1.2.2.2.2 gX9_feed_X7_append rfl rfl rfl (by decide +kernel) ⟨by have := hR.1; show 1 + 1 ≤ _; omega, by have := hR.2; show 8 + (6 + 11) + 22 ≤ _; omega⟩) rfl (cwq_1 G σ) rfl hl.1 rfl (Nat.le_of_ble_eq_true rfl) dX9_feed_11 ⟨Nat.zero_le _, Nat.zero_le _⟩ (fun H locs w => ?_)
  exact hret _ _ _ _ _ _ (Option.some.inj hf).symm w dX9_feed_14
set_option maxHeartbeats 4000000 in
set_option maxRecDepth 100000 in
theorem mX9_feed (l : Launch) (G : hy_G) (sz : Nat) (σ : hy_S) (x1 : Int32) (x2 : Int32) (x3 : Int32) (x4 : Int32) (x5 : Int32) (o : hy_S × Int32) (hf : fX9_feed σ x1 x2 x3 x4 x5 = some o) : hy_M l yX9_feed wsX9_feed ({ frames := 2, cells := 0, slots := 0, locals := 47 }) cw G σ sz [.ref (G.2.2.2.1 0), .int x1, .int x2, .int x3, .int x4, .int x5] o := by
  refine Met.ofW (cc := cX9_feed) (maxL := 6) (ret := (some .int)) (by decide +kernel) rfl ?_
  intro p e s m args below meth c s₁ B hml hv
  obtain ⟨rfl, hsz, hP, hK, hD0, hN⟩ := hv
  have hx := B.exec
  have hb := B.bytes
  have hr := B.returns
  have hts := atoms_spec (ws := wsX9_feed) B.pre
  have hown : s.vm.findClass RX9 = some m.cls := findClass_of_methodNamed B.named
  have hlocks := B.notSynchronized
  subst hsz
  have hD := hD0.self (sz := s.heap.size)
  have hA : ∀ q : Nat, s.heap.size ≤ q → va_A (cw G σ) s.heap.size q := fun q h => Or.inr h
  have hS : va_S (va_A (cw G σ) s.heap.size) s.heap s.heap [] := va_S.rf
  have hl := lv_entry ([.ref (G.2.2.2.1 0), .int x1, .int x2, .int x3, .int x4, .int x5]) (n := 6) (Nat.le_of_ble_eq_true rfl)
  rw [lg_entry_eq]
  generalize (lg_sl ([.ref (G.2.2.2.1 0), .int x1, .int x2, .int x3, .int x4, .int x5]) ++ List.replicate (6 - (lg_sl ([.ref (G.2.2.2.1 0), .int x1, .int x2, .int x3, .int x4, .int x5])).length) Slot.unset).toArray = ls at hl ⊢
  have hl : lv_has ls 6 [(0, .ref (G.2.2.2.1 0)), (1, .int x1), (2, .int x2), (3, .int x3), (4, .int x4), (5, .int x5)] := hl
  refine bX9_feed_0 (A := va_A (cw G σ) s.heap.size) hA ⟨⟨hx, hb, hml, hown, hts⟩, hK, hN⟩ ⟨Nat.le_of_ble_eq_true rfl, Nat.le_of_ble_eq_true rfl⟩ (o := o) (fun τ v pc H locs ls ho w d => ?_) σ x1 x2 x3 x4 x5 _ _ _ hf ⟨hP, hD, hS⟩ hl
  exact W.iret hx hb hr (fun t ht hW => ⟨⟨v, τ, rfl, ⟨by rw [ho], by rw [ho]⟩, by have h9 := w.1; rw [← ht] at h9; exact h9⟩, w.2.2.F ht⟩) w.2.2.2.2 d
theorem in_X9_end_X9 : ∀ w ∈ u_ws RX9 TX9 11, w ∈ wsX9_end := fun _ h => xt1 (xl (xr (h)))
noncomputable def fX9_end (σ : hy_S) (x1 : Int32) : Option (hy_S × Int32) := hy_bd (fX7_keepFirst σ x1) (fun σ1 v2 => hy_ck (v2 = 0 ∨ v2 = 1) (some (σ1, v2)))
set_option maxHeartbeats 4000000 in
set_option maxRecDepth 100000 in
theorem bX9_end_0 (hA : ∀ q : Nat, s.heap.size ≤ q → A q) (B : hy_B RX9 cX9_end 2 wsX9_end G A p s m args c) (hR : 1 ≤ R.frames ∧ 21 ≤ R.locals) {o : hy_S × Int32}  (hret : ∀ (σ : hy_S) (v : Int32) (pc : Nat) (H : Heap) (locs : List Loc) (ls : Array Slot), o = (σ, v) → (v = 0 ∨ v = 1) → hy_w cw G A s σ H locs → decode cX9_end pc = .ok (.ireturn, 1) → W p l e R s m args below meth c H locs 0 0 Q (F0 m pc ls [.int v])) (σ : hy_S) (x1 : Int32) (H : Heap) (locs : List Loc) (ls : Array Slot) (hf : fX9_end σ x1 = some o) (w : hy_w cw G A s σ H locs) (hl : lv_has ls 2 [(0, .ref (G.2.2.2.1 0)), (1, .int x1)]) : W p l e R s m args below meth c H locs 0 0 Q (F0 m 0 ls []) := by
  unfold fX9_end at hf
  refine lv_aload_n B.1.1 B.1.2.1 dX9_end_0 rfl (lv_at hl 0 rfl) ?_
  refine hy_get (k := 0) (v := .ref (G.2.2.2.1 1)) B w (cwq_0 G) rfl in_X9_end_X9 (by decide) (by decide +kernel) rfl dX9_end_1 ?_
  refine lv_iload_n B.1.1 B.1.2.1 dX9_end_4 rfl (lv_at hl 1 rfl) ?_
  obtain ⟨σ1, v2, h3, hf⟩ := hy_bd_some hf
  refine hy_cv (As := [.int x1]) (rest := []) (o := (σ1, v2)) cw_fix hA B w (fun sz => mX7_keepFirst l G sz σ x1 _ h3) (cwV 1 B.1.2.2.2.2 gX9_end_X7_keepFirst rfl rfl rfl (by decide +kernel) ⟨by have := hR.1; show 0 + 1 ≤ _; omega, by have := hR.2; show 8 + (2 + 11) + 0 ≤ _; omega⟩) rfl (cwq_1 G σ) rfl hl.1 rfl (Nat.le_of_ble_eq_true rfl) dX9_end_5 ⟨Nat.zero_le _, Nat.zero_le _⟩ (fun H locs w => ?_)
  obtain ⟨c4, hf⟩ := hy_ck_some hf
  exact hret _ _ _ _ _ _ (Option.some.inj hf).symm c4 w dX9_end_8
set_option maxHeartbeats 4000000 in
set_option maxRecDepth 100000 in
theorem mX9_end (l : Launch) (G : hy_G) (sz : Nat) (σ : hy_S) (x1 : Int32) (o : hy_S × Int32) (hf : fX9_end σ x1 = some o) : hy_M l yX9_end wsX9_end ({ frames := 1, cells := 0, slots := 0, locals := 21 }) cw G σ sz [.ref (G.2.2.2.1 0), .int x1] o := by
  refine Met.ofW (cc := cX9_end) (maxL := 2) (ret := (some .boolean)) (by decide +kernel) rfl ?_
  intro p e s m args below meth c s₁ B hml hv
  obtain ⟨rfl, hsz, hP, hK, hD0, hN⟩ := hv
  have hx := B.exec
  have hb := B.bytes
  have hr := B.returns
  have hts := atoms_spec (ws := wsX9_end) B.pre
  have hown : s.vm.findClass RX9 = some m.cls := findClass_of_methodNamed B.named
  have hlocks := B.notSynchronized
  subst hsz
  have hD := hD0.self (sz := s.heap.size)
  have hA : ∀ q : Nat, s.heap.size ≤ q → va_A (cw G σ) s.heap.size q := fun q h => Or.inr h
  have hS : va_S (va_A (cw G σ) s.heap.size) s.heap s.heap [] := va_S.rf
  have hl := lv_entry ([.ref (G.2.2.2.1 0), .int x1]) (n := 2) (Nat.le_of_ble_eq_true rfl)
  rw [lg_entry_eq]
  generalize (lg_sl ([.ref (G.2.2.2.1 0), .int x1]) ++ List.replicate (2 - (lg_sl ([.ref (G.2.2.2.1 0), .int x1])).length) Slot.unset).toArray = ls at hl ⊢
  have hl : lv_has ls 2 [(0, .ref (G.2.2.2.1 0)), (1, .int x1)] := hl
  refine bX9_end_0 (A := va_A (cw G σ) s.heap.size) hA ⟨⟨hx, hb, hml, hown, hts⟩, hK, hN⟩ ⟨Nat.le_of_ble_eq_true rfl, Nat.le_of_ble_eq_true rfl⟩ (o := o) (fun τ v pc H locs ls ho hz w d => ?_) σ x1 _ _ _ hf ⟨hP, hD, hS⟩ hl
  exact W.zret hx hb hr (hy_bool hz) (fun t ht hW => ⟨⟨v, τ, rfl, ⟨by rw [ho], by rw [ho]⟩, by have h9 := w.1; rw [← ht] at h9; exact h9⟩, w.2.2.F ht⟩) w.2.2.2.2 d
theorem in_X9_fault_X9 : ∀ w ∈ u_ws RX9 TX9 11, w ∈ wsX9_fault := fun _ h => xt1 (xr (h))
noncomputable def fX9_fault (σ : hy_S) : Option (hy_S × Int32) := some (σ, (σ.2 0))
set_option maxHeartbeats 4000000 in
set_option maxRecDepth 100000 in
theorem bX9_fault_0 (hA : ∀ q : Nat, s.heap.size ≤ q → A q) (B : hy_B RX9 cX9_fault 1 wsX9_fault G A p s m args c) (hR : 0 ≤ R.frames ∧ 0 ≤ R.locals) {o : hy_S × Int32}  (hret : ∀ (σ : hy_S) (v : Int32) (pc : Nat) (H : Heap) (locs : List Loc) (ls : Array Slot), o = (σ, v) → hy_w cw G A s σ H locs → decode cX9_fault pc = .ok (.ireturn, 1) → W p l e R s m args below meth c H locs 0 0 Q (F0 m pc ls [.int v])) (σ : hy_S) (H : Heap) (locs : List Loc) (ls : Array Slot) (hf : fX9_fault σ = some o) (w : hy_w cw G A s σ H locs) (hl : lv_has ls 1 [(0, .ref (G.2.2.2.1 0))]) : W p l e R s m args below meth c H locs 0 0 Q (F0 m 0 ls []) := by
  unfold fX9_fault at hf
  refine lv_aload_n B.1.1 B.1.2.1 dX9_fault_0 rfl (lv_at hl 0 rfl) ?_
  refine hy_get (k := 9) (v := .int (σ.2 0)) B w (cwq_0 G) rfl in_X9_fault_X9 (by decide) (by decide +kernel) rfl dX9_fault_1 ?_
  exact hret _ _ _ _ _ _ (Option.some.inj hf).symm w dX9_fault_4
set_option maxHeartbeats 4000000 in
set_option maxRecDepth 100000 in
theorem mX9_fault (l : Launch) (G : hy_G) (sz : Nat) (σ : hy_S) (o : hy_S × Int32) (hf : fX9_fault σ = some o) : hy_M l yX9_fault wsX9_fault ({ frames := 0, cells := 0, slots := 0, locals := 0 }) cw G σ sz [.ref (G.2.2.2.1 0)] o := by
  refine Met.ofW (cc := cX9_fault) (maxL := 1) (ret := (some .int)) (by decide +kernel) rfl ?_
  intro p e s m args below meth c s₁ B hml hv
  obtain ⟨rfl, hsz, hP, hK, hD0, hN⟩ := hv
  have hx := B.exec
  have hb := B.bytes
  have hr := B.returns
  have hts := atoms_spec (ws := wsX9_fault) B.pre
  have hown : s.vm.findClass RX9 = some m.cls := findClass_of_methodNamed B.named
  have hlocks := B.notSynchronized
  subst hsz
  have hD := hD0.self (sz := s.heap.size)
  have hA : ∀ q : Nat, s.heap.size ≤ q → va_A (cw G σ) s.heap.size q := fun q h => Or.inr h
  have hS : va_S (va_A (cw G σ) s.heap.size) s.heap s.heap [] := va_S.rf
  have hl := lv_entry ([.ref (G.2.2.2.1 0)]) (n := 1) (Nat.le_of_ble_eq_true rfl)
  rw [lg_entry_eq]
  generalize (lg_sl ([.ref (G.2.2.2.1 0)]) ++ List.replicate (1 - (lg_sl ([.ref (G.2.2.2.1 0)])).length) Slot.unset).toArray = ls at hl ⊢
  have hl : lv_has ls 1 [(0, .ref (G.2.2.2.1 0))] := hl
  refine bX9_fault_0 (A := va_A (cw G σ) s.heap.size) hA ⟨⟨hx, hb, hml, hown, hts⟩, hK, hN⟩ ⟨Nat.le_of_ble_eq_true rfl, Nat.le_of_ble_eq_true rfl⟩ (o := o) (fun τ v pc H locs ls ho w d => ?_) σ _ _ _ hf ⟨hP, hD, hS⟩ hl
  exact W.iret hx hb hr (fun t ht hW => ⟨⟨v, τ, rfl, ⟨by rw [ho], by rw [ho]⟩, by have h9 := w.1; rw [← ht] at h9; exact h9⟩, w.2.2.F ht⟩) w.2.2.2.2 d
theorem in_X9_agree_X9 : ∀ w ∈ u_ws RX9 TX9 11, w ∈ wsX9_agree := fun _ h => xt1 (xl (xr (h)))
noncomputable def fX9_agree (σ : hy_S) (x1 : Int32) : Option (hy_S × Int32) := hy_bd (fX8_recall σ x1) (fun σ1 v2 => hy_bd (fX8_canAllHold σ1) (fun σ4 v5 => hy_ck (v5 = 0 ∨ v5 = 1) (some (σ4, v5))))
set_option maxHeartbeats 4000000 in
set_option maxRecDepth 100000 in
theorem bX9_agree_0 (hA : ∀ q : Nat, s.heap.size ≤ q → A q) (B : hy_B RX9 cX9_agree 2 wsX9_agree G A p s m args c) (hR : 3 ≤ R.frames ∧ 65 ≤ R.locals) {o : hy_S × Int32}  (hret : ∀ (σ : hy_S) (v : Int32) (pc : Nat) (H : Heap) (locs : List Loc) (ls : Array Slot), o = (σ, v) → (v = 0 ∨ v = 1) → hy_w cw G A s σ H locs → decode cX9_agree pc = .ok (.ireturn, 1) → W p l e R s m args below meth c H locs 0 0 Q (F0 m pc ls [.int v])) (σ : hy_S) (x1 : Int32) (H : Heap) (locs : List Loc) (ls : Array Slot) (hf : fX9_agree σ x1 = some o) (w : hy_w cw G A s σ H locs) (hl : lv_has ls 2 [(0, .ref (G.2.2.2.1 0)), (1, .int x1)]) : W p l e R s m args below meth c H locs 0 0 Q (F0 m 0 ls []) := by
  unfold fX9_agree at hf
  refine lv_aload_n B.1.1 B.1.2.1 dX9_agree_0 rfl (lv_at hl 0 rfl) ?_
  refine hy_get (k := 8) (v := .ref (G.2.2.2.1 9)) B w (cwq_0 G) rfl in_X9_agree_X9 (by decide) (by decide +kernel) rfl dX9_agree_1 ?_
  refine lv_iload_n B.1.1 B.1.2.1 dX9_agree_4 rfl (lv_at hl 1 rfl) ?_
  obtain ⟨σ1, v2, h3, hf⟩ := hy_bd_some hf
  refine hy_cvv (As := [.int x1]) (rest := []) (o := (σ1, v2)) cw_fix hA B w (fun sz => mX8_recall l G sz σ x1 _ h3) (cwV 1 B.1.2.2.2.2 gX9_agree_X8_recall rfl rfl rfl (by decide +kernel) ⟨by have := hR.1; show 0 + 1 ≤ _; omega, by have := hR.2; show 8 + (4 + 11) + 0 ≤ _; omega⟩) rfl (cwq_9 G σ) rfl hl.1 rfl (Nat.le_of_ble_eq_true rfl) dX9_agree_5 ⟨Nat.zero_le _, Nat.zero_le _⟩ (fun H locs w => ?_)
  refine lv_aload_n B.1.1 B.1.2.1 dX9_agree_8 rfl (lv_at hl 0 rfl) ?_
  refine hy_get (k := 8) (v := .ref (G.2.2.2.1 9)) B w (cwq_0 G) rfl in_X9_agree_X9 (by decide) (by decide +kernel) rfl dX9_agree_9 ?_
  obtain ⟨σ4, v5, h6, hf⟩ := hy_bd_some hf
  refine hy_cv (As := []) (rest := []) (o := (σ4, v5)) cw_fix hA B w (fun sz => mX8_canAllHold l G sz σ1  _ h6) (cwV 0 B.1.2.2.2.2 gX9_agree_X8_canAllHold rfl rfl rfl (by decide +kernel) ⟨by have := hR.1; show 2 + 1 ≤ _; omega, by have := hR.2; show 8 + (1 + 11) + 45 ≤ _; omega⟩) rfl (cwq_9 G σ1) rfl hl.1 rfl (Nat.le_of_ble_eq_true rfl) dX9_agree_12 ⟨Nat.zero_le _, Nat.zero_le _⟩ (fun H locs w => ?_)
  obtain ⟨c7, hf⟩ := hy_ck_some hf
  exact hret _ _ _ _ _ _ (Option.some.inj hf).symm c7 w dX9_agree_15
set_option maxHeartbeats 4000000 in
set_option maxRecDepth 100000 in
theorem mX9_agree (l : Launch) (G : hy_G) (sz : Nat) (σ : hy_S) (x1 : Int32) (o : hy_S × Int32) (hf : fX9_agree σ x1 = some o) : hy_M l yX9_agree wsX9_agree ({ frames := 3, cells := 0, slots := 0, locals := 65 }) cw G σ sz [.ref (G.2.2.2.1 0), .int x1] o := by
  refine Met.ofW (cc := cX9_agree) (maxL := 2) (ret := (some .boolean)) (by decide +kernel) rfl ?_
  intro p e s m args below meth c s₁ B hml hv
  obtain ⟨rfl, hsz, hP, hK, hD0, hN⟩ := hv
  have hx := B.exec
  have hb := B.bytes
  have hr := B.returns
  have hts := atoms_spec (ws := wsX9_agree) B.pre
  have hown : s.vm.findClass RX9 = some m.cls := findClass_of_methodNamed B.named
  have hlocks := B.notSynchronized
  subst hsz
  have hD := hD0.self (sz := s.heap.size)
  have hA : ∀ q : Nat, s.heap.size ≤ q → va_A (cw G σ) s.heap.size q := fun q h => Or.inr h
  have hS : va_S (va_A (cw G σ) s.heap.size) s.heap s.heap [] := va_S.rf
  have hl := lv_entry ([.ref (G.2.2.2.1 0), .int x1]) (n := 2) (Nat.le_of_ble_eq_true rfl)
  rw [lg_entry_eq]
  generalize (lg_sl ([.ref (G.2.2.2.1 0), .int x1]) ++ List.replicate (2 - (lg_sl ([.ref (G.2.2.2.1 0), .int x1])).length) Slot.unset).toArray = ls at hl ⊢
  have hl : lv_has ls 2 [(0, .ref (G.2.2.2.1 0)), (1, .int x1)] := hl
  refine bX9_agree_0 (A := va_A (cw G σ) s.heap.size) hA ⟨⟨hx, hb, hml, hown, hts⟩, hK, hN⟩ ⟨Nat.le_of_ble_eq_true rfl, Nat.le_of_ble_eq_true rfl⟩ (o := o) (fun τ v pc H locs ls ho hz w d => ?_) σ x1 _ _ _ hf ⟨hP, hD, hS⟩ hl
  exact W.zret hx hb hr (hy_bool hz) (fun t ht hW => ⟨⟨v, τ, rfl, ⟨by rw [ho], by rw [ho]⟩, by have h9 := w.1; rw [← ht] at h9; exact h9⟩, w.2.2.F ht⟩) w.2.2.2.2 d
theorem in_X9_quarrel_X9 : ∀ w ∈ u_ws RX9 TX9 11, w ∈ wsX9_quarrel := fun _ h => xt1 (xl (xr (h)))
noncomputable def fX9_quarrel (σ : hy_S) (x1 : Int32) : Option (hy_S × Int32) := hy_bd (fX8_recall σ x1) (fun σ1 v2 => hy_bd (fX8_canAllHold σ1) (fun σ4 v5 => (if v5 = 0 then hy_bd (fX8_fewestThatQuarrel σ4) (fun σ8 v9 => some (σ8, v9)) else some (σ4, 0))))
set_option maxHeartbeats 4000000 in
set_option maxRecDepth 100000 in
theorem bX9_quarrel_0 (hA : ∀ q : Nat, s.heap.size ≤ q → A q) (B : hy_B RX9 cX9_quarrel 2 wsX9_quarrel G A p s m args c) (hR : 4 ≤ R.frames ∧ 128 ≤ R.locals) {o : hy_S × Int32}  (hret : ∀ (σ : hy_S) (v : Int32) (pc : Nat) (H : Heap) (locs : List Loc) (ls : Array Slot), o = (σ, v) → hy_w cw G A s σ H locs → decode cX9_quarrel pc = .ok (.ireturn, 1) → W p l e R s m args below meth c H locs 0 0 Q (F0 m pc ls [.int v])) (σ : hy_S) (x1 : Int32) (H : Heap) (locs : List Loc) (ls : Array Slot) (hf : fX9_quarrel σ x1 = some o) (w : hy_w cw G A s σ H locs) (hl : lv_has ls 2 [(0, .ref (G.2.2.2.1 0)), (1, .int x1)]) : W p l e R s m args below meth c H locs 0 0 Q (F0 m 0 ls []) := by
  unfold fX9_quarrel at hf
  refine lv_aload_n B.1.1 B.1.2.1 dX9_quarrel_0 rfl (lv_at hl 0 rfl) ?_
  refine hy_get (k := 8) (v := .ref (G.2.2.2.1 9)) B w (cwq_0 G) rfl in_X9_quarrel_X9 (by decide) (by decide +kernel) rfl dX9_quarrel_1 ?_
  refine lv_iload_n B.1.1 B.1.2.1 dX9_quarrel_4 rfl (lv_at hl 1 rfl) ?_
  obtain ⟨σ1, v2, h3, hf⟩ := hy_bd_some hf
  refine hy_cvv (As := [.int x1]) (rest := []) (o := (σ1, v2)) cw_fix hA B w (fun sz => mX8_recall l G sz σ x1 _ h3) (cwV 1 B.1.2.2.2.2 gX9_quarrel_X8_recall rfl rfl rfl (by decide +kernel) ⟨by have := hR.1; show 0 + 1 ≤ _; omega, by have := hR.2; show 8 + (4 + 11) + 0 ≤ _; omega⟩) rfl (cwq_9 G σ) rfl hl.1 rfl (Nat.le_of_ble_eq_true rfl) dX9_quarrel_5 ⟨Nat.zero_le _, Nat.zero_le _⟩ (fun H locs w => ?_)
  refine lv_aload_n B.1.1 B.1.2.1 dX9_quarrel_8 rfl (lv_at hl 0 rfl) ?_
  refine hy_get (k := 8) (v := .ref (G.2.2.2.1 9)) B w (cwq_0 G) rfl in_X9_quarrel_X9 (by decide) (by decide +kernel) rfl dX9_quarrel_9 ?_
  obtain ⟨σ4, v5, h6, hf⟩ := hy_bd_some hf
  refine hy_cv (As := []) (rest := []) (o := (σ4, v5)) cw_fix hA B w (fun sz => mX8_canAllHold l G sz σ1  _ h6) (cwV 0 B.1.2.2.2.2 gX9_quarrel_X8_canAllHold rfl rfl rfl (by decide +kernel) ⟨by have := hR.1; show 2 + 1 ≤ _; omega, by have := hR.2; show 8 + (1 + 11) + 45 ≤ _; omega⟩) rfl (cwq_9 G σ1) rfl hl.1 rfl (Nat.le_of_ble_eq_true rfl) dX9_quarrel_12 ⟨Nat.zero_le _, Nat.zero_le _⟩ (fun H locs w => ?_)
  refine lv_if_eq (tgt := 22) B.1.1 B.1.2.1 dX9_quarrel_15 (by decide) (fun c7 => ?_) (fun c7 => ?_)
  · rw [if_pos c7] at hf
    refine lv_aload_n B.1.1 B.1.2.1 dX9_quarrel_22 rfl (lv_at hl 0 rfl) ?_
    refine hy_get (k := 8) (v := .ref (G.2.2.2.1 9)) B w (cwq_0 G) rfl in_X9_quarrel_X9 (by decide) (by decide +kernel) rfl dX9_quarrel_23 ?_
    obtain ⟨σ8, v9, h10, hf⟩ := hy_bd_some hf
    refine hy_cv (As := []) (rest := []) (o := (σ8, v9)) cw_fix hA B w (fun sz => mX8_fewestThatQuarrel l G sz σ4  _ h10) (cwV 0 B.1.2.2.2.2 gX9_quarrel_X8_fewestThatQuarrel rfl rfl rfl (by decide +kernel) ⟨by have := hR.1; show 3 + 1 ≤ _; omega, by have := hR.2; show 8 + (3 + 11) + 106 ≤ _; omega⟩) rfl (cwq_9 G σ4) rfl hl.1 rfl (Nat.le_of_ble_eq_true rfl) dX9_quarrel_26 ⟨Nat.zero_le _, Nat.zero_le _⟩ (fun H locs w => ?_)
    exact hret _ _ _ _ _ _ (Option.some.inj hf).symm w dX9_quarrel_29
  · rw [if_neg c7] at hf
    refine lv_iconst (v := 0) B.1.1 B.1.2.1 dX9_quarrel_18 (by decide) ?_
    refine lv_goto (tgt := 29) B.1.1 B.1.2.1 dX9_quarrel_19 (by decide) ?_
    exact hret _ _ _ _ _ _ (Option.some.inj hf).symm w dX9_quarrel_29
set_option maxHeartbeats 4000000 in
set_option maxRecDepth 100000 in
theorem mX9_quarrel (l : Launch) (G : hy_G) (sz : Nat) (σ : hy_S) (x1 : Int32) (o : hy_S × Int32) (hf : fX9_quarrel σ x1 = some o) : hy_M l yX9_quarrel wsX9_quarrel ({ frames := 4, cells := 0, slots := 0, locals := 128 }) cw G σ sz [.ref (G.2.2.2.1 0), .int x1] o := by
  refine Met.ofW (cc := cX9_quarrel) (maxL := 2) (ret := (some .int)) (by decide +kernel) rfl ?_
  intro p e s m args below meth c s₁ B hml hv
  obtain ⟨rfl, hsz, hP, hK, hD0, hN⟩ := hv
  have hx := B.exec
  have hb := B.bytes
  have hr := B.returns
  have hts := atoms_spec (ws := wsX9_quarrel) B.pre
  have hown : s.vm.findClass RX9 = some m.cls := findClass_of_methodNamed B.named
  have hlocks := B.notSynchronized
  subst hsz
  have hD := hD0.self (sz := s.heap.size)
  have hA : ∀ q : Nat, s.heap.size ≤ q → va_A (cw G σ) s.heap.size q := fun q h => Or.inr h
  have hS : va_S (va_A (cw G σ) s.heap.size) s.heap s.heap [] := va_S.rf
  have hl := lv_entry ([.ref (G.2.2.2.1 0), .int x1]) (n := 2) (Nat.le_of_ble_eq_true rfl)
  rw [lg_entry_eq]
  generalize (lg_sl ([.ref (G.2.2.2.1 0), .int x1]) ++ List.replicate (2 - (lg_sl ([.ref (G.2.2.2.1 0), .int x1])).length) Slot.unset).toArray = ls at hl ⊢
  have hl : lv_has ls 2 [(0, .ref (G.2.2.2.1 0)), (1, .int x1)] := hl
  refine bX9_quarrel_0 (A := va_A (cw G σ) s.heap.size) hA ⟨⟨hx, hb, hml, hown, hts⟩, hK, hN⟩ ⟨Nat.le_of_ble_eq_true rfl, Nat.le_of_ble_eq_true rfl⟩ (o := o) (fun τ v pc H locs ls ho w d => ?_) σ x1 _ _ _ hf ⟨hP, hD, hS⟩ hl
  exact W.iret hx hb hr (fun t ht hW => ⟨⟨v, τ, rfl, ⟨by rw [ho], by rw [ho]⟩, by have h9 := w.1; rw [← ht] at h9; exact h9⟩, w.2.2.F ht⟩) w.2.2.2.2 d
theorem in_X9_count_X1 : ∀ w ∈ u_ws RX1 TX1 8, w ∈ wsX9_count := fun _ h => xt1 (xl (xl (xr (h))))
theorem in_X9_count_X2 : ∀ w ∈ u_ws RX2 TX2 4, w ∈ wsX9_count := fun _ h => xt1 (xl (xl (xl (xr (h)))))
theorem in_X9_count_X5 : ∀ w ∈ u_ws RX5 TX5 5, w ∈ wsX9_count := fun _ h => xt1 (xl (xr (h)))
theorem in_X9_count_X8 : ∀ w ∈ u_ws RX8 TX8 10, w ∈ wsX9_count := fun _ h => xt1 (xr (h))
theorem in_X9_count_X9 : ∀ w ∈ u_ws RX9 TX9 11, w ∈ wsX9_count := fun _ h => xt1 (xl (xl (xl (xl (xr (h))))))
noncomputable def fX9_count (σ : hy_S) (x1 : Int32) : Option (hy_S × Int32) := (if x1 = 0 then some (σ, (σ.2 3)) else (if x1 = 1 then some (σ, (σ.2 4)) else (if x1 = 2 then hy_bd (fX1_countIn σ 0) (fun σ4 v5 => some (σ4, v5)) else (if x1 = 3 then hy_bd (fX1_countIn σ 1) (fun σ8 v9 => some (σ8, v9)) else (if x1 = 4 then hy_bd (fX1_countIn σ 2) (fun σ12 v13 => some (σ12, v13)) else (if x1 = 5 then hy_bd (fX1_countIn σ 3) (fun σ16 v17 => some (σ16, v17)) else (if x1 = 6 then hy_bd (fX1_oilUnbroken σ) (fun σ20 v21 => some (σ20, v21)) else (if x1 = 7 then some (σ, (σ.2 7)) else (if x1 = 8 then some (σ, (σ.2 8)) else (if x1 = 9 then some (σ, (σ.2 1)) else some (σ, (-1))))))))))))
set_option maxHeartbeats 4000000 in
set_option maxRecDepth 100000 in
theorem bX9_count_0 (hA : ∀ q : Nat, s.heap.size ≤ q → A q) (B : hy_B RX9 cX9_count 2 wsX9_count G A p s m args c) (hR : 1 ≤ R.frames ∧ 23 ≤ R.locals) {o : hy_S × Int32}  (hret : ∀ (σ : hy_S) (v : Int32) (pc : Nat) (H : Heap) (locs : List Loc) (ls : Array Slot), o = (σ, v) → hy_w cw G A s σ H locs → decode cX9_count pc = .ok (.ireturn, 1) → W p l e R s m args below meth c H locs 0 0 Q (F0 m pc ls [.int v])) (σ : hy_S) (x1 : Int32) (H : Heap) (locs : List Loc) (ls : Array Slot) (hf : fX9_count σ x1 = some o) (w : hy_w cw G A s σ H locs) (hl : lv_has ls 2 [(0, .ref (G.2.2.2.1 0)), (1, .int x1)]) : W p l e R s m args below meth c H locs 0 0 Q (F0 m 0 ls []) := by
  unfold fX9_count at hf
  refine lv_iload_n B.1.1 B.1.2.1 dX9_count_0 rfl (lv_at hl 1 rfl) ?_
  by_cases c1 : x1 = 0
  · rw [if_pos c1] at hf
    have c1e : Int32.toInt x1 = 0 := by rw [c1]; rfl
    refine lv_tableIn (tgt := 56) B.1.1 B.1.2.1 dX9_count_1 (by rw [c1e]; decide) (by rw [c1e]; decide) (by rw [c1e]; rfl) (by decide) ?_
    refine lv_aload_n B.1.1 B.1.2.1 dX9_count_56 rfl (lv_at hl 0 rfl) ?_
    refine hy_get (k := 2) (v := .ref (G.2.2.2.1 3)) B w (cwq_0 G) rfl in_X9_count_X9 (by decide) (by decide +kernel) rfl dX9_count_57 ?_
    refine hy_getN (k := 3) (v := .int (σ.2 3)) B w (cwq_3 G) rfl in_X9_count_X2 (by decide) (by decide +kernel) rfl dX9_count_60 ?_
    exact hret _ _ _ _ _ _ (Option.some.inj hf).symm w dX9_count_63
  · rw [if_neg c1] at hf
    by_cases c2 : x1 = 1
    · rw [if_pos c2] at hf
      have c2e : Int32.toInt x1 = 1 := by rw [c2]; rfl
      refine lv_tableIn (tgt := 64) B.1.1 B.1.2.1 dX9_count_1 (by rw [c2e]; decide) (by rw [c2e]; decide) (by rw [c2e]; rfl) (by decide) ?_
      refine lv_aload_n B.1.1 B.1.2.1 dX9_count_64 rfl (lv_at hl 0 rfl) ?_
      refine hy_get (k := 3) (v := .ref (G.2.2.2.1 4)) B w (cwq_0 G) rfl in_X9_count_X9 (by decide) (by decide +kernel) rfl dX9_count_65 ?_
      refine hy_getN (k := 7) (v := .int (σ.2 4)) B w (cwq_4 G) rfl in_X9_count_X1 (by decide) (by decide +kernel) rfl dX9_count_68 ?_
      exact hret _ _ _ _ _ _ (Option.some.inj hf).symm w dX9_count_71
    · rw [if_neg c2] at hf
      by_cases c3 : x1 = 2
      · rw [if_pos c3] at hf
        have c3e : Int32.toInt x1 = 2 := by rw [c3]; rfl
        refine lv_tableIn (tgt := 72) B.1.1 B.1.2.1 dX9_count_1 (by rw [c3e]; decide) (by rw [c3e]; decide) (by rw [c3e]; rfl) (by decide) ?_
        refine lv_aload_n B.1.1 B.1.2.1 dX9_count_72 rfl (lv_at hl 0 rfl) ?_
        refine hy_get (k := 3) (v := .ref (G.2.2.2.1 4)) B w (cwq_0 G) rfl in_X9_count_X9 (by decide) (by decide +kernel) rfl dX9_count_73 ?_
        refine lv_iconst (v := 0) B.1.1 B.1.2.1 dX9_count_76 (by decide) ?_
        obtain ⟨σ4, v5, h6, hf⟩ := hy_bd_some hf
        refine hy_cv (As := [.int 0]) (rest := []) (o := (σ4, v5)) cw_fix hA B w (fun sz => mX1_countIn l G sz σ 0 _ h6) (cwV 1 B.1.2.2.2.2 gX9_count_X1_countIn rfl rfl rfl (by decide +kernel) ⟨by have := hR.1; show 0 + 1 ≤ _; omega, by have := hR.2; show 8 + (4 + 11) + 0 ≤ _; omega⟩) rfl (cwq_4 G σ) rfl hl.1 rfl (Nat.le_of_ble_eq_true rfl) dX9_count_77 ⟨Nat.zero_le _, Nat.zero_le _⟩ (fun H locs w => ?_)
        exact hret _ _ _ _ _ _ (Option.some.inj hf).symm w dX9_count_80
      · rw [if_neg c3] at hf
        by_cases c7 : x1 = 3
        · rw [if_pos c7] at hf
          have c7e : Int32.toInt x1 = 3 := by rw [c7]; rfl
          refine lv_tableIn (tgt := 81) B.1.1 B.1.2.1 dX9_count_1 (by rw [c7e]; decide) (by rw [c7e]; decide) (by rw [c7e]; rfl) (by decide) ?_
          refine lv_aload_n B.1.1 B.1.2.1 dX9_count_81 rfl (lv_at hl 0 rfl) ?_
          refine hy_get (k := 3) (v := .ref (G.2.2.2.1 4)) B w (cwq_0 G) rfl in_X9_count_X9 (by decide) (by decide +kernel) rfl dX9_count_82 ?_
          refine lv_iconst (v := 1) B.1.1 B.1.2.1 dX9_count_85 (by decide) ?_
          obtain ⟨σ8, v9, h10, hf⟩ := hy_bd_some hf
          refine hy_cv (As := [.int 1]) (rest := []) (o := (σ8, v9)) cw_fix hA B w (fun sz => mX1_countIn l G sz σ 1 _ h10) (cwV 1 B.1.2.2.2.2 gX9_count_X1_countIn rfl rfl rfl (by decide +kernel) ⟨by have := hR.1; show 0 + 1 ≤ _; omega, by have := hR.2; show 8 + (4 + 11) + 0 ≤ _; omega⟩) rfl (cwq_4 G σ) rfl hl.1 rfl (Nat.le_of_ble_eq_true rfl) dX9_count_86 ⟨Nat.zero_le _, Nat.zero_le _⟩ (fun H locs w => ?_)
          exact hret _ _ _ _ _ _ (Option.some.inj hf).symm w dX9_count_89
        · rw [if_neg c7] at hf
          by_cases c11 : x1 = 4
          · rw [if_pos c11] at hf
            have c11e : Int32.toInt x1 = 4 := by rw [c11]; rfl
            refine lv_tableIn (tgt := 90) B.1.1 B.1.2.1 dX9_count_1 (by rw [c11e]; decide) (by rw [c11e]; decide) (by rw [c11e]; rfl) (by decide) ?_
            refine lv_aload_n B.1.1 B.1.2.1 dX9_count_90 rfl (lv_at hl 0 rfl) ?_
            refine hy_get (k := 3) (v := .ref (G.2.2.2.1 4)) B w (cwq_0 G) rfl in_X9_count_X9 (by decide) (by decide +kernel) rfl dX9_count_91 ?_
            refine lv_iconst (v := 2) B.1.1 B.1.2.1 dX9_count_94 (by decide) ?_
            obtain ⟨σ12, v13, h14, hf⟩ := hy_bd_some hf
            refine hy_cv (As := [.int 2]) (rest := []) (o := (σ12, v13)) cw_fix hA B w (fun sz => mX1_countIn l G sz σ 2 _ h14) (cwV 1 B.1.2.2.2.2 gX9_count_X1_countIn rfl rfl rfl (by decide +kernel) ⟨by have := hR.1; show 0 + 1 ≤ _; omega, by have := hR.2; show 8 + (4 + 11) + 0 ≤ _; omega⟩) rfl (cwq_4 G σ) rfl hl.1 rfl (Nat.le_of_ble_eq_true rfl) dX9_count_95 ⟨Nat.zero_le _, Nat.zero_le _⟩ (fun H locs w => ?_)
            exact hret _ _ _ _ _ _ (Option.some.inj hf).symm w dX9_count_98
          · rw [if_neg c11] at hf
            by_cases c15 : x1 = 5
            · rw [if_pos c15] at hf
              have c15e : Int32.toInt x1 = 5 := by rw [c15]; rfl
              refine lv_tableIn (tgt := 99) B.1.1 B.1.2.1 dX9_count_1 (by rw [c15e]; decide) (by rw [c15e]; decide) (by rw [c15e]; rfl) (by decide) ?_
              refine lv_aload_n B.1.1 B.1.2.1 dX9_count_99 rfl (lv_at hl 0 rfl) ?_
              refine hy_get (k := 3) (v := .ref (G.2.2.2.1 4)) B w (cwq_0 G) rfl in_X9_count_X9 (by decide) (by decide +kernel) rfl dX9_count_100 ?_
              refine lv_iconst (v := 3) B.1.1 B.1.2.1 dX9_count_103 (by decide) ?_
              obtain ⟨σ16, v17, h18, hf⟩ := hy_bd_some hf
              refine hy_cv (As := [.int 3]) (rest := []) (o := (σ16, v17)) cw_fix hA B w (fun sz => mX1_countIn l G sz σ 3 _ h18) (cwV 1 B.1.2.2.2.2 gX9_count_X1_countIn rfl rfl rfl (by decide +kernel) ⟨by have := hR.1; show 0 + 1 ≤ _; omega, by have := hR.2; show 8 + (4 + 11) + 0 ≤ _; omega⟩) rfl (cwq_4 G σ) rfl hl.1 rfl (Nat.le_of_ble_eq_true rfl) dX9_count_104 ⟨Nat.zero_le _, Nat.zero_le _⟩ (fun H locs w => ?_)
              exact hret _ _ _ _ _ _ (Option.some.inj hf).symm w dX9_count_107
            · rw [if_neg c15] at hf
              by_cases c19 : x1 = 6
              · rw [if_pos c19] at hf
                have c19e : Int32.toInt x1 = 6 := by rw [c19]; rfl
                refine lv_tableIn (tgt := 108) B.1.1 B.1.2.1 dX9_count_1 (by rw [c19e]; decide) (by rw [c19e]; decide) (by rw [c19e]; rfl) (by decide) ?_
                refine lv_aload_n B.1.1 B.1.2.1 dX9_count_108 rfl (lv_at hl 0 rfl) ?_
                refine hy_get (k := 3) (v := .ref (G.2.2.2.1 4)) B w (cwq_0 G) rfl in_X9_count_X9 (by decide) (by decide +kernel) rfl dX9_count_109 ?_
                obtain ⟨σ20, v21, h22, hf⟩ := hy_bd_some hf
                refine hy_cv (As := []) (rest := []) (o := (σ20, v21)) cw_fix hA B w (fun sz => mX1_oilUnbroken l G sz σ  _ h22) (cwV 0 B.1.2.2.2.2 gX9_count_X1_oilUnbroken rfl rfl rfl (by decide +kernel) ⟨by have := hR.1; show 0 + 1 ≤ _; omega, by have := hR.2; show 8 + (3 + 11) + 0 ≤ _; omega⟩) rfl (cwq_4 G σ) rfl hl.1 rfl (Nat.le_of_ble_eq_true rfl) dX9_count_112 ⟨Nat.zero_le _, Nat.zero_le _⟩ (fun H locs w => ?_)
                exact hret _ _ _ _ _ _ (Option.some.inj hf).symm w dX9_count_115
              · rw [if_neg c19] at hf
                by_cases c23 : x1 = 7
                · rw [if_pos c23] at hf
                  have c23e : Int32.toInt x1 = 7 := by rw [c23]; rfl
                  refine lv_tableIn (tgt := 116) B.1.1 B.1.2.1 dX9_count_1 (by rw [c23e]; decide) (by rw [c23e]; decide) (by rw [c23e]; rfl) (by decide) ?_
                  refine lv_aload_n B.1.1 B.1.2.1 dX9_count_116 rfl (lv_at hl 0 rfl) ?_
                  refine hy_get (k := 7) (v := .ref (G.2.2.2.1 8)) B w (cwq_0 G) rfl in_X9_count_X9 (by decide) (by decide +kernel) rfl dX9_count_117 ?_
                  refine hy_getN (k := 4) (v := .int (σ.2 7)) B w (cwq_8 G) rfl in_X9_count_X5 (by decide) (by decide +kernel) rfl dX9_count_120 ?_
                  exact hret _ _ _ _ _ _ (Option.some.inj hf).symm w dX9_count_123
                · rw [if_neg c23] at hf
                  by_cases c24 : x1 = 8
                  · rw [if_pos c24] at hf
                    have c24e : Int32.toInt x1 = 8 := by rw [c24]; rfl
                    refine lv_tableIn (tgt := 124) B.1.1 B.1.2.1 dX9_count_1 (by rw [c24e]; decide) (by rw [c24e]; decide) (by rw [c24e]; rfl) (by decide) ?_
                    refine lv_aload_n B.1.1 B.1.2.1 dX9_count_124 rfl (lv_at hl 0 rfl) ?_
                    refine hy_get (k := 8) (v := .ref (G.2.2.2.1 9)) B w (cwq_0 G) rfl in_X9_count_X9 (by decide) (by decide +kernel) rfl dX9_count_125 ?_
                    refine hy_getN (k := 8) (v := .int (σ.2 8)) B w (cwq_9 G) rfl in_X9_count_X8 (by decide) (by decide +kernel) rfl dX9_count_128 ?_
                    exact hret _ _ _ _ _ _ (Option.some.inj hf).symm w dX9_count_131
                  · rw [if_neg c24] at hf
                    by_cases c25 : x1 = 9
                    · rw [if_pos c25] at hf
                      have c25e : Int32.toInt x1 = 9 := by rw [c25]; rfl
                      refine lv_tableIn (tgt := 132) B.1.1 B.1.2.1 dX9_count_1 (by rw [c25e]; decide) (by rw [c25e]; decide) (by rw [c25e]; rfl) (by decide) ?_
                      refine lv_aload_n B.1.1 B.1.2.1 dX9_count_132 rfl (lv_at hl 0 rfl) ?_
                      refine hy_get (k := 10) (v := .int (σ.2 1)) B w (cwq_0 G) rfl in_X9_count_X9 (by decide) (by decide +kernel) rfl dX9_count_133 ?_
                      exact hret _ _ _ _ _ _ (Option.some.inj hf).symm w dX9_count_136
                    · rw [if_neg c25] at hf
                      have c1t := lv_neT (a := 0) c1 rfl
                      have c2t := lv_neT (a := 1) c2 rfl
                      have c3t := lv_neT (a := 2) c3 rfl
                      have c7t := lv_neT (a := 3) c7 rfl
                      have c11t := lv_neT (a := 4) c11 rfl
                      have c15t := lv_neT (a := 5) c15 rfl
                      have c19t := lv_neT (a := 6) c19 rfl
                      have c23t := lv_neT (a := 7) c23 rfl
                      have c24t := lv_neT (a := 8) c24 rfl
                      have c25t := lv_neT (a := 9) c25 rfl
                      refine lv_tableOut (tgt := 137) B.1.1 B.1.2.1 dX9_count_1 (by omega) (by decide) ?_
                      refine lv_iconst (v := (-1)) B.1.1 B.1.2.1 dX9_count_137 (by decide) ?_
                      exact hret _ _ _ _ _ _ (Option.some.inj hf).symm w dX9_count_138
set_option maxHeartbeats 4000000 in
set_option maxRecDepth 100000 in
theorem mX9_count (l : Launch) (G : hy_G) (sz : Nat) (σ : hy_S) (x1 : Int32) (o : hy_S × Int32) (hf : fX9_count σ x1 = some o) : hy_M l yX9_count wsX9_count ({ frames := 1, cells := 0, slots := 0, locals := 23 }) cw G σ sz [.ref (G.2.2.2.1 0), .int x1] o := by
  refine Met.ofW (cc := cX9_count) (maxL := 2) (ret := (some .int)) (by decide +kernel) rfl ?_
  intro p e s m args below meth c s₁ B hml hv
  obtain ⟨rfl, hsz, hP, hK, hD0, hN⟩ := hv
  have hx := B.exec
  have hb := B.bytes
  have hr := B.returns
  have hts := atoms_spec (ws := wsX9_count) B.pre
  have hown : s.vm.findClass RX9 = some m.cls := findClass_of_methodNamed B.named
  have hlocks := B.notSynchronized
  subst hsz
  have hD := hD0.self (sz := s.heap.size)
  have hA : ∀ q : Nat, s.heap.size ≤ q → va_A (cw G σ) s.heap.size q := fun q h => Or.inr h
  have hS : va_S (va_A (cw G σ) s.heap.size) s.heap s.heap [] := va_S.rf
  have hl := lv_entry ([.ref (G.2.2.2.1 0), .int x1]) (n := 2) (Nat.le_of_ble_eq_true rfl)
  rw [lg_entry_eq]
  generalize (lg_sl ([.ref (G.2.2.2.1 0), .int x1]) ++ List.replicate (2 - (lg_sl ([.ref (G.2.2.2.1 0), .int x1])).length) Slot.unset).toArray = ls at hl ⊢
  have hl : lv_has ls 2 [(0, .ref (G.2.2.2.1 0)), (1, .int x1)] := hl
  refine bX9_count_0 (A := va_A (cw G σ) s.heap.size) hA ⟨⟨hx, hb, hml, hown, hts⟩, hK, hN⟩ ⟨Nat.le_of_ble_eq_true rfl, Nat.le_of_ble_eq_true rfl⟩ (o := o) (fun τ v pc H locs ls ho w d => ?_) σ x1 _ _ _ hf ⟨hP, hD, hS⟩ hl
  exact W.iret hx hb hr (fun t ht hW => ⟨⟨v, τ, rfl, ⟨by rw [ho], by rw [ho]⟩, by have h9 := w.1; rw [← ht] at h9; exact h9⟩, w.2.2.F ht⟩) w.2.2.2.2 d
theorem in_X9_falsehoodAt_X1 : ∀ w ∈ u_ws RX1 TX1 8, w ∈ wsX9_falsehoodAt := fun _ h => xt1 (xl (xr (h)))
theorem in_X9_falsehoodAt_X3 : ∀ w ∈ u_ws RX3 TX3 1, w ∈ wsX9_falsehoodAt := fun _ h => xt1 (xl (xl (xr (h))))
theorem in_X9_falsehoodAt_X9 : ∀ w ∈ u_ws RX9 TX9 11, w ∈ wsX9_falsehoodAt := fun _ h => xt1 (xl (xl (xl (xr (h)))))
noncomputable def fX9_falsehoodAt (σ : hy_S) (x1 : Int32) : Option (hy_S × Int32) := hy_ga σ 1 5 0 (fun v1 => (if (σ.2 4) ≤ v1 then some (σ, 1) else hy_ga σ 9 60 v1 (fun v5 => (if v5 = 1 then hy_ga σ 1 5 1 (fun v9 => hy_ga σ 8 60 v1 (fun v12 => (if v9 = v12 then hy_ga σ 1 5 2 (fun v16 => hy_ga σ 6 60 v1 (fun v19 => (if v16 = v19 then hy_ga σ 1 5 3 (fun v23 => hy_ga σ 7 60 v1 (fun v26 => (if v23 = v26 then hy_ga σ 1 5 4 (fun v30 => hy_ga σ 8 60 v1 (fun v33 => hy_bd (fX4_due σ x1 v33) (fun σ36 v37 => (if v30 = v37 then some (σ36, 0) else some (σ36, 5))))) else some (σ, 4)))) else some (σ, 3)))) else some (σ, 2)))) else some (σ, 1)))))
set_option maxHeartbeats 4000000 in
set_option maxRecDepth 100000 in
theorem bX9_falsehoodAt_0 (hA : ∀ q : Nat, s.heap.size ≤ q → A q) (B : hy_B RX9 cX9_falsehoodAt 3 wsX9_falsehoodAt G A p s m args c) (hR : 1 ≤ R.frames ∧ 22 ≤ R.locals) {o : hy_S × Int32}  (hret : ∀ (σ : hy_S) (v : Int32) (pc : Nat) (H : Heap) (locs : List Loc) (ls : Array Slot), o = (σ, v) → hy_w cw G A s σ H locs → decode cX9_falsehoodAt pc = .ok (.ireturn, 1) → W p l e R s m args below meth c H locs 0 0 Q (F0 m pc ls [.int v])) (σ : hy_S) (x1 : Int32) (H : Heap) (locs : List Loc) (ls : Array Slot) (hf : fX9_falsehoodAt σ x1 = some o) (w : hy_w cw G A s σ H locs) (hl : lv_has ls 3 [(0, .ref (G.2.2.2.1 0)), (1, .int x1)]) : W p l e R s m args below meth c H locs 0 0 Q (F0 m 0 ls []) := by
  unfold fX9_falsehoodAt at hf
  refine lv_aload_n B.1.1 B.1.2.1 dX9_falsehoodAt_0 rfl (lv_at hl 0 rfl) ?_
  refine hy_get (k := 1) (v := .ref (G.2.2.2.1 2)) B w (cwq_0 G) rfl in_X9_falsehoodAt_X9 (by decide) (by decide +kernel) rfl dX9_falsehoodAt_1 ?_
  refine hy_getN (k := 0) (v := .ref (G.2.2.2.1 11)) B w (cwq_2 G) rfl in_X9_falsehoodAt_X3 (by decide) (by decide +kernel) rfl dX9_falsehoodAt_4 ?_
  refine lv_iconst (v := 0) B.1.1 B.1.2.1 dX9_falsehoodAt_7 (by decide) ?_
  obtain ⟨h3, v1, e2, hf⟩ := hy_ga_some hf
  refine hy_iald B w (cwq_11 G) h3 e2 dX9_falsehoodAt_8 ?_
  refine lv_istore_n (lv' := [(2, .int v1), (0, .ref (G.2.2.2.1 0)), (1, .int x1)]) B.1.1 B.1.2.1 dX9_falsehoodAt_9 rfl hl (by decide) rfl (fun ls hl => ?_)
  refine lv_iload_n B.1.1 B.1.2.1 dX9_falsehoodAt_10 rfl (lv_at hl 0 rfl) ?_
  refine lv_aload_n B.1.1 B.1.2.1 dX9_falsehoodAt_11 rfl (lv_at hl 1 rfl) ?_
  refine hy_get (k := 3) (v := .ref (G.2.2.2.1 4)) B w (cwq_0 G) rfl in_X9_falsehoodAt_X9 (by decide) (by decide +kernel) rfl dX9_falsehoodAt_12 ?_
  refine hy_getN (k := 7) (v := .int (σ.2 4)) B w (cwq_4 G) rfl in_X9_falsehoodAt_X1 (by decide) (by decide +kernel) rfl dX9_falsehoodAt_15 ?_
  refine lv_icmp_ge (tgt := 34) B.1.1 B.1.2.1 dX9_falsehoodAt_18 (by decide) (fun c4 => ?_) (fun c4 => ?_)
  · rw [if_pos c4] at hf
    refine lv_iconst (v := 1) B.1.1 B.1.2.1 dX9_falsehoodAt_34 (by decide) ?_
    exact hret _ _ _ _ _ _ (Option.some.inj hf).symm w dX9_falsehoodAt_35
  · rw [if_neg c4] at hf
    refine lv_aload_n B.1.1 B.1.2.1 dX9_falsehoodAt_21 rfl (lv_at hl 1 rfl) ?_
    refine hy_get (k := 3) (v := .ref (G.2.2.2.1 4)) B w (cwq_0 G) rfl in_X9_falsehoodAt_X9 (by decide) (by decide +kernel) rfl dX9_falsehoodAt_22 ?_
    refine hy_getN (k := 5) (v := .ref (G.2.2.2.1 19)) B w (cwq_4 G) rfl in_X9_falsehoodAt_X1 (by decide) (by decide +kernel) rfl dX9_falsehoodAt_25 ?_
    refine lv_iload_n B.1.1 B.1.2.1 dX9_falsehoodAt_28 rfl (lv_at hl 0 rfl) ?_
    obtain ⟨h7, v5, e6, hf⟩ := hy_ga_some hf
    refine hy_iald B w (cwq_19 G) h7 e6 dX9_falsehoodAt_29 ?_
    refine lv_iconst (v := 1) B.1.1 B.1.2.1 dX9_falsehoodAt_30 (by decide) ?_
    refine lv_icmp_eq (tgt := 36) B.1.1 B.1.2.1 dX9_falsehoodAt_31 (by decide) (fun c8 => ?_) (fun c8 => ?_)
    · rw [if_pos c8] at hf
      refine lv_aload_n B.1.1 B.1.2.1 dX9_falsehoodAt_36 rfl (lv_at hl 1 rfl) ?_
      refine hy_get (k := 1) (v := .ref (G.2.2.2.1 2)) B w (cwq_0 G) rfl in_X9_falsehoodAt_X9 (by decide) (by decide +kernel) rfl dX9_falsehoodAt_37 ?_
      refine hy_getN (k := 0) (v := .ref (G.2.2.2.1 11)) B w (cwq_2 G) rfl in_X9_falsehoodAt_X3 (by decide) (by decide +kernel) rfl dX9_falsehoodAt_40 ?_
      refine lv_iconst (v := 1) B.1.1 B.1.2.1 dX9_falsehoodAt_43 (by decide) ?_
      obtain ⟨h11, v9, e10, hf⟩ := hy_ga_some hf
      refine hy_iald B w (cwq_11 G) h11 e10 dX9_falsehoodAt_44 ?_
      refine lv_aload_n B.1.1 B.1.2.1 dX9_falsehoodAt_45 rfl (lv_at hl 1 rfl) ?_
      refine hy_get (k := 3) (v := .ref (G.2.2.2.1 4)) B w (cwq_0 G) rfl in_X9_falsehoodAt_X9 (by decide) (by decide +kernel) rfl dX9_falsehoodAt_46 ?_
      refine hy_getN (k := 4) (v := .ref (G.2.2.2.1 18)) B w (cwq_4 G) rfl in_X9_falsehoodAt_X1 (by decide) (by decide +kernel) rfl dX9_falsehoodAt_49 ?_
      refine lv_iload_n B.1.1 B.1.2.1 dX9_falsehoodAt_52 rfl (lv_at hl 0 rfl) ?_
      obtain ⟨h14, v12, e13, hf⟩ := hy_ga_some hf
      refine hy_iald B w (cwq_18 G) h14 e13 dX9_falsehoodAt_53 ?_
      refine lv_icmp_eq (tgt := 59) B.1.1 B.1.2.1 dX9_falsehoodAt_54 (by decide) (fun c15 => ?_) (fun c15 => ?_)
      · rw [if_pos c15] at hf
        refine lv_aload_n B.1.1 B.1.2.1 dX9_falsehoodAt_59 rfl (lv_at hl 1 rfl) ?_
        refine hy_get (k := 1) (v := .ref (G.2.2.2.1 2)) B w (cwq_0 G) rfl in_X9_falsehoodAt_X9 (by decide) (by decide +kernel) rfl dX9_falsehoodAt_60 ?_
        refine hy_getN (k := 0) (v := .ref (G.2.2.2.1 11)) B w (cwq_2 G) rfl in_X9_falsehoodAt_X3 (by decide) (by decide +kernel) rfl dX9_falsehoodAt_63 ?_
        refine lv_iconst (v := 2) B.1.1 B.1.2.1 dX9_falsehoodAt_66 (by decide) ?_
        obtain ⟨h18, v16, e17, hf⟩ := hy_ga_some hf
        refine hy_iald B w (cwq_11 G) h18 e17 dX9_falsehoodAt_67 ?_
        refine lv_aload_n B.1.1 B.1.2.1 dX9_falsehoodAt_68 rfl (lv_at hl 1 rfl) ?_
        refine hy_get (k := 3) (v := .ref (G.2.2.2.1 4)) B w (cwq_0 G) rfl in_X9_falsehoodAt_X9 (by decide) (by decide +kernel) rfl dX9_falsehoodAt_69 ?_
        refine hy_getN (k := 2) (v := .ref (G.2.2.2.1 16)) B w (cwq_4 G) rfl in_X9_falsehoodAt_X1 (by decide) (by decide +kernel) rfl dX9_falsehoodAt_72 ?_
        refine lv_iload_n B.1.1 B.1.2.1 dX9_falsehoodAt_75 rfl (lv_at hl 0 rfl) ?_
        obtain ⟨h21, v19, e20, hf⟩ := hy_ga_some hf
        refine hy_iald B w (cwq_16 G) h21 e20 dX9_falsehoodAt_76 ?_
        refine lv_icmp_eq (tgt := 82) B.1.1 B.1.2.1 dX9_falsehoodAt_77 (by decide) (fun c22 => ?_) (fun c22 => ?_)
        · rw [if_pos c22] at hf
          refine lv_aload_n B.1.1 B.1.2.1 dX9_falsehoodAt_82 rfl (lv_at hl 1 rfl) ?_
          refine hy_get (k := 1) (v := .ref (G.2.2.2.1 2)) B w (cwq_0 G) rfl in_X9_falsehoodAt_X9 (by decide) (by decide +kernel) rfl dX9_falsehoodAt_83 ?_
          refine hy_getN (k := 0) (v := .ref (G.2.2.2.1 11)) B w (cwq_2 G) rfl in_X9_falsehoodAt_X3 (by decide) (by decide +kernel) rfl dX9_falsehoodAt_86 ?_
          refine lv_iconst (v := 3) B.1.1 B.1.2.1 dX9_falsehoodAt_89 (by decide) ?_
          obtain ⟨h25, v23, e24, hf⟩ := hy_ga_some hf
          refine hy_iald B w (cwq_11 G) h25 e24 dX9_falsehoodAt_90 ?_
          refine lv_aload_n B.1.1 B.1.2.1 dX9_falsehoodAt_91 rfl (lv_at hl 1 rfl) ?_
          refine hy_get (k := 3) (v := .ref (G.2.2.2.1 4)) B w (cwq_0 G) rfl in_X9_falsehoodAt_X9 (by decide) (by decide +kernel) rfl dX9_falsehoodAt_92 ?_
          refine hy_getN (k := 3) (v := .ref (G.2.2.2.1 17)) B w (cwq_4 G) rfl in_X9_falsehoodAt_X1 (by decide) (by decide +kernel) rfl dX9_falsehoodAt_95 ?_
          refine lv_iload_n B.1.1 B.1.2.1 dX9_falsehoodAt_98 rfl (lv_at hl 0 rfl) ?_
          obtain ⟨h28, v26, e27, hf⟩ := hy_ga_some hf
          refine hy_iald B w (cwq_17 G) h28 e27 dX9_falsehoodAt_99 ?_
          refine lv_icmp_eq (tgt := 105) B.1.1 B.1.2.1 dX9_falsehoodAt_100 (by decide) (fun c29 => ?_) (fun c29 => ?_)
          · rw [if_pos c29] at hf
            refine lv_aload_n B.1.1 B.1.2.1 dX9_falsehoodAt_105 rfl (lv_at hl 1 rfl) ?_
            refine hy_get (k := 1) (v := .ref (G.2.2.2.1 2)) B w (cwq_0 G) rfl in_X9_falsehoodAt_X9 (by decide) (by decide +kernel) rfl dX9_falsehoodAt_106 ?_
            refine hy_getN (k := 0) (v := .ref (G.2.2.2.1 11)) B w (cwq_2 G) rfl in_X9_falsehoodAt_X3 (by decide) (by decide +kernel) rfl dX9_falsehoodAt_109 ?_
            refine lv_iconst (v := 4) B.1.1 B.1.2.1 dX9_falsehoodAt_112 (by decide) ?_
            obtain ⟨h32, v30, e31, hf⟩ := hy_ga_some hf
            refine hy_iald B w (cwq_11 G) h32 e31 dX9_falsehoodAt_113 ?_
            refine lv_aload_n B.1.1 B.1.2.1 dX9_falsehoodAt_114 rfl (lv_at hl 1 rfl) ?_
            refine hy_get (k := 6) (v := .ref (G.2.2.2.1 7)) B w (cwq_0 G) rfl in_X9_falsehoodAt_X9 (by decide) (by decide +kernel) rfl dX9_falsehoodAt_115 ?_
            refine lv_iload_n B.1.1 B.1.2.1 dX9_falsehoodAt_118 rfl (lv_at hl 2 rfl) ?_
            refine lv_aload_n B.1.1 B.1.2.1 dX9_falsehoodAt_119 rfl (lv_at hl 1 rfl) ?_
            refine hy_get (k := 3) (v := .ref (G.2.2.2.1 4)) B w (cwq_0 G) rfl in_X9_falsehoodAt_X9 (by decide) (by decide +kernel) rfl dX9_falsehoodAt_120 ?_
            refine hy_getN (k := 4) (v := .ref (G.2.2.2.1 18)) B w (cwq_4 G) rfl in_X9_falsehoodAt_X1 (by decide) (by decide +kernel) rfl dX9_falsehoodAt_123 ?_
            refine lv_iload_n B.1.1 B.1.2.1 dX9_falsehoodAt_126 rfl (lv_at hl 0 rfl) ?_
            obtain ⟨h35, v33, e34, hf⟩ := hy_ga_some hf
            refine hy_iald B w (cwq_18 G) h35 e34 dX9_falsehoodAt_127 ?_
            obtain ⟨σ36, v37, h38, hf⟩ := hy_bd_some hf
            refine hy_cv (As := [.int x1, .int v33]) (rest := [.int v30]) (o := (σ36, v37)) cw_fix hA B w (fun sz => mX4_due l G sz σ x1 v33 _ h38) (cwV 2 B.1.2.2.2.2 gX9_falsehoodAt_X4_due rfl rfl rfl (by decide +kernel) ⟨by have := hR.1; show 0 + 1 ≤ _; omega, by have := hR.2; show 8 + (3 + 11) + 0 ≤ _; omega⟩) rfl (cwq_7 G σ) rfl hl.1 rfl (Nat.le_of_ble_eq_true rfl) dX9_falsehoodAt_128 ⟨Nat.zero_le _, Nat.zero_le _⟩ (fun H locs w => ?_)
            refine lv_icmp_eq (tgt := 138) B.1.1 B.1.2.1 dX9_falsehoodAt_131 (by decide) (fun c39 => ?_) (fun c39 => ?_)
            · rw [if_pos c39] at hf
              refine lv_iconst (v := 0) B.1.1 B.1.2.1 dX9_falsehoodAt_138 (by decide) ?_
              exact hret _ _ _ _ _ _ (Option.some.inj hf).symm w dX9_falsehoodAt_139
            · rw [if_neg c39] at hf
              refine lv_iconst (v := 5) B.1.1 B.1.2.1 dX9_falsehoodAt_134 (by decide) ?_
              refine lv_goto (tgt := 139) B.1.1 B.1.2.1 dX9_falsehoodAt_135 (by decide) ?_
              exact hret _ _ _ _ _ _ (Option.some.inj hf).symm w dX9_falsehoodAt_139
          · rw [if_neg c29] at hf
            refine lv_iconst (v := 4) B.1.1 B.1.2.1 dX9_falsehoodAt_103 (by decide) ?_
            exact hret _ _ _ _ _ _ (Option.some.inj hf).symm w dX9_falsehoodAt_104
        · rw [if_neg c22] at hf
          refine lv_iconst (v := 3) B.1.1 B.1.2.1 dX9_falsehoodAt_80 (by decide) ?_
          exact hret _ _ _ _ _ _ (Option.some.inj hf).symm w dX9_falsehoodAt_81
      · rw [if_neg c15] at hf
        refine lv_iconst (v := 2) B.1.1 B.1.2.1 dX9_falsehoodAt_57 (by decide) ?_
        exact hret _ _ _ _ _ _ (Option.some.inj hf).symm w dX9_falsehoodAt_58
    · rw [if_neg c8] at hf
      refine lv_iconst (v := 1) B.1.1 B.1.2.1 dX9_falsehoodAt_34 (by decide) ?_
      exact hret _ _ _ _ _ _ (Option.some.inj hf).symm w dX9_falsehoodAt_35
set_option maxHeartbeats 4000000 in
set_option maxRecDepth 100000 in
theorem mX9_falsehoodAt (l : Launch) (G : hy_G) (sz : Nat) (σ : hy_S) (x1 : Int32) (o : hy_S × Int32) (hf : fX9_falsehoodAt σ x1 = some o) : hy_M l yX9_falsehoodAt wsX9_falsehoodAt ({ frames := 1, cells := 0, slots := 0, locals := 22 }) cw G σ sz [.ref (G.2.2.2.1 0), .int x1] o := by
  refine Met.ofW (cc := cX9_falsehoodAt) (maxL := 3) (ret := (some .int)) (by decide +kernel) rfl ?_
  intro p e s m args below meth c s₁ B hml hv
  obtain ⟨rfl, hsz, hP, hK, hD0, hN⟩ := hv
  have hx := B.exec
  have hb := B.bytes
  have hr := B.returns
  have hts := atoms_spec (ws := wsX9_falsehoodAt) B.pre
  have hown : s.vm.findClass RX9 = some m.cls := findClass_of_methodNamed B.named
  have hlocks := B.notSynchronized
  subst hsz
  have hD := hD0.self (sz := s.heap.size)
  have hA : ∀ q : Nat, s.heap.size ≤ q → va_A (cw G σ) s.heap.size q := fun q h => Or.inr h
  have hS : va_S (va_A (cw G σ) s.heap.size) s.heap s.heap [] := va_S.rf
  have hl := lv_entry ([.ref (G.2.2.2.1 0), .int x1]) (n := 3) (Nat.le_of_ble_eq_true rfl)
  rw [lg_entry_eq]
  generalize (lg_sl ([.ref (G.2.2.2.1 0), .int x1]) ++ List.replicate (3 - (lg_sl ([.ref (G.2.2.2.1 0), .int x1])).length) Slot.unset).toArray = ls at hl ⊢
  have hl : lv_has ls 3 [(0, .ref (G.2.2.2.1 0)), (1, .int x1)] := hl
  refine bX9_falsehoodAt_0 (A := va_A (cw G σ) s.heap.size) hA ⟨⟨hx, hb, hml, hown, hts⟩, hK, hN⟩ ⟨Nat.le_of_ble_eq_true rfl, Nat.le_of_ble_eq_true rfl⟩ (o := o) (fun τ v pc H locs ls ho w d => ?_) σ x1 _ _ _ hf ⟨hP, hD, hS⟩ hl
  exact W.iret hx hb hr (fun t ht hW => ⟨⟨v, τ, rfl, ⟨by rw [ho], by rw [ho]⟩, by have h9 := w.1; rw [← ht] at h9; exact h9⟩, w.2.2.F ht⟩) w.2.2.2.2 d
theorem in_X9_kind_X2 : ∀ w ∈ u_ws RX2 TX2 4, w ∈ wsX9_kind := fun _ h => xt1 (xl (xl (xr (h))))
theorem in_X9_kind_X9 : ∀ w ∈ u_ws RX9 TX9 11, w ∈ wsX9_kind := fun _ h => xt1 (xl (xl (xl (xr (h)))))
noncomputable def fX9_kind (σ : hy_S) (x1 : Int32) (x2 : Int32) (x3 : Int32) : Option (hy_S × Int32 × Nat) := hy_bt (fX9_needNumber σ x1 1 100) some (fun σ1 v2 => hy_bt (fX9_needNumber σ1 x2 1 200) some (fun σ5 v6 => hy_bt (fX9_needNumber σ5 x3 0 5000) some (fun σ9 v10 => hy_bt (fX9_needPlace σ9 (σ9.2 3) 8) some (fun σ13 v14 => hy_bd (fX2_add σ13 x1 x2 x3) (fun σ17 v18 => some (σ17, v18, 0))))))
set_option maxHeartbeats 4000000 in
set_option maxRecDepth 100000 in
theorem bX9_kind_0 (hA : ∀ q : Nat, s.heap.size ≤ q → A q) (B : hy_B RX9 cX9_kind 4 wsX9_kind G A p s m args c) (hR : 7 ≤ R.frames ∧ 104 ≤ R.locals) {o : hy_S × Int32 × Nat}  (ho : o.2.2 = 0) (hret : ∀ (σ : hy_S) (v : Int32) (pc : Nat) (H : Heap) (locs : List Loc) (ls : Array Slot), o = (σ, v, 0) → hy_w cw G A s σ H locs → decode cX9_kind pc = .ok (.ireturn, 1) → W p l e R s m args below meth c H locs 0 0 Q (F0 m pc ls [.int v])) (σ : hy_S) (x1 : Int32) (x2 : Int32) (x3 : Int32) (H : Heap) (locs : List Loc) (ls : Array Slot) (hf : fX9_kind σ x1 x2 x3 = some o) (w : hy_w cw G A s σ H locs) (hl : lv_has ls 4 [(0, .ref (G.2.2.2.1 0)), (1, .int x1), (2, .int x2), (3, .int x3)]) : W p l e R s m args below meth c H locs 0 0 Q (F0 m 0 ls []) := by
  unfold fX9_kind at hf
  refine lv_iload_n B.1.1 B.1.2.1 dX9_kind_0 rfl (lv_at hl 1 rfl) ?_
  refine lv_iconst (v := 1) B.1.1 B.1.2.1 dX9_kind_1 (by decide) ?_
  refine lv_bipush (v := 100) B.1.1 B.1.2.1 dX9_kind_2 (by decide) ?_
  rcases hy_bt_some hf with ⟨σ1, v2, h3, hf⟩ | ⟨h3, h4⟩
  · refine hy_csv (As := [.int x1, .int 1, .int 100]) (rest := []) (o := (σ1, v2)) cw_fix hA B w (fun sz => mX9_needNumber l G sz σ x1 1 100 _ h3 rfl) (cwS 3 B.1.2.2.2.2 gX9_kind_X9_needNumber rfl rfl rfl (by decide +kernel) ⟨by have := hR.1; show 6 + 1 ≤ _; omega, by have := hR.2; show 8 + (3 + 11) + 82 ≤ _; omega⟩) rfl hl.1 rfl (Nat.le_of_ble_eq_true rfl) dX9_kind_4 ⟨Nat.zero_le _, Nat.zero_le _⟩ (fun H locs w => ?_)
    refine lv_iload_n B.1.1 B.1.2.1 dX9_kind_7 rfl (lv_at hl 2 rfl) ?_
    refine lv_iconst (v := 1) B.1.1 B.1.2.1 dX9_kind_8 (by decide) ?_
    refine lv_sipush (v := 200) B.1.1 B.1.2.1 dX9_kind_9 (by decide) ?_
    rcases hy_bt_some hf with ⟨σ5, v6, h7, hf⟩ | ⟨h7, h8⟩
    · refine hy_csv (As := [.int x2, .int 1, .int 200]) (rest := []) (o := (σ5, v6)) cw_fix hA B w (fun sz => mX9_needNumber l G sz σ1 x2 1 200 _ h7 rfl) (cwS 3 B.1.2.2.2.2 gX9_kind_X9_needNumber rfl rfl rfl (by decide +kernel) ⟨by have := hR.1; show 6 + 1 ≤ _; omega, by have := hR.2; show 8 + (3 + 11) + 82 ≤ _; omega⟩) rfl hl.1 rfl (Nat.le_of_ble_eq_true rfl) dX9_kind_12 ⟨Nat.zero_le _, Nat.zero_le _⟩ (fun H locs w => ?_)
      refine lv_iload_n B.1.1 B.1.2.1 dX9_kind_15 rfl (lv_at hl 3 rfl) ?_
      refine lv_iconst (v := 0) B.1.1 B.1.2.1 dX9_kind_16 (by decide) ?_
      refine lv_sipush (v := 5000) B.1.1 B.1.2.1 dX9_kind_17 (by decide) ?_
      rcases hy_bt_some hf with ⟨σ9, v10, h11, hf⟩ | ⟨h11, h12⟩
      · refine hy_csv (As := [.int x3, .int 0, .int 5000]) (rest := []) (o := (σ9, v10)) cw_fix hA B w (fun sz => mX9_needNumber l G sz σ5 x3 0 5000 _ h11 rfl) (cwS 3 B.1.2.2.2.2 gX9_kind_X9_needNumber rfl rfl rfl (by decide +kernel) ⟨by have := hR.1; show 6 + 1 ≤ _; omega, by have := hR.2; show 8 + (3 + 11) + 82 ≤ _; omega⟩) rfl hl.1 rfl (Nat.le_of_ble_eq_true rfl) dX9_kind_20 ⟨Nat.zero_le _, Nat.zero_le _⟩ (fun H locs w => ?_)
        refine lv_aload_n B.1.1 B.1.2.1 dX9_kind_23 rfl (lv_at hl 0 rfl) ?_
        refine hy_get (k := 2) (v := .ref (G.2.2.2.1 3)) B w (cwq_0 G) rfl in_X9_kind_X9 (by decide) (by decide +kernel) rfl dX9_kind_24 ?_
        refine hy_getN (k := 3) (v := .int (σ9.2 3)) B w (cwq_3 G) rfl in_X9_kind_X2 (by decide) (by decide +kernel) rfl dX9_kind_27 ?_
        refine lv_bipush (v := 8) B.1.1 B.1.2.1 dX9_kind_30 (by decide) ?_
        rcases hy_bt_some hf with ⟨σ13, v14, h15, hf⟩ | ⟨h15, h16⟩
        · refine hy_csv (As := [.int (σ9.2 3), .int 8]) (rest := []) (o := (σ13, v14)) cw_fix hA B w (fun sz => mX9_needPlace l G sz σ9 (σ9.2 3) 8 _ h15 rfl) (cwS 2 B.1.2.2.2.2 gX9_kind_X9_needPlace rfl rfl rfl (by decide +kernel) ⟨by have := hR.1; show 6 + 1 ≤ _; omega, by have := hR.2; show 8 + (2 + 11) + 82 ≤ _; omega⟩) rfl hl.1 rfl (Nat.le_of_ble_eq_true rfl) dX9_kind_32 ⟨Nat.zero_le _, Nat.zero_le _⟩ (fun H locs w => ?_)
          refine lv_aload_n B.1.1 B.1.2.1 dX9_kind_35 rfl (lv_at hl 0 rfl) ?_
          refine hy_get (k := 2) (v := .ref (G.2.2.2.1 3)) B w (cwq_0 G) rfl in_X9_kind_X9 (by decide) (by decide +kernel) rfl dX9_kind_36 ?_
          refine lv_iload_n B.1.1 B.1.2.1 dX9_kind_39 rfl (lv_at hl 1 rfl) ?_
          refine lv_iload_n B.1.1 B.1.2.1 dX9_kind_40 rfl (lv_at hl 2 rfl) ?_
          refine lv_iload_n B.1.1 B.1.2.1 dX9_kind_41 rfl (lv_at hl 3 rfl) ?_
          obtain ⟨σ17, v18, h19, hf⟩ := hy_bd_some hf
          refine hy_cv (As := [.int x1, .int x2, .int x3]) (rest := []) (o := (σ17, v18)) cw_fix hA B w (fun sz => mX2_add l G sz σ13 x1 x2 x3 _ h19) (cwV 3 B.1.2.2.2.2 gX9_kind_X2_add rfl rfl rfl (by decide +kernel) ⟨by have := hR.1; show 0 + 1 ≤ _; omega, by have := hR.2; show 8 + (4 + 11) + 0 ≤ _; omega⟩) rfl (cwq_3 G σ13) rfl hl.1 rfl (Nat.le_of_ble_eq_true rfl) dX9_kind_42 ⟨Nat.zero_le _, Nat.zero_le _⟩ (fun H locs w => ?_)
          exact hret _ _ _ _ _ _ (Option.some.inj hf).symm w dX9_kind_45
        · exact absurd ho h16
      · exact absurd ho h12
    · exact absurd ho h8
  · exact absurd ho h4
set_option maxHeartbeats 4000000 in
set_option maxRecDepth 100000 in
theorem mX9_kind (l : Launch) (G : hy_G) (sz : Nat) (σ : hy_S) (x1 : Int32) (x2 : Int32) (x3 : Int32) (o : hy_S × Int32 × Nat) (hf : fX9_kind σ x1 x2 x3 = some o) (ho : o.2.2 = 0) : hy_M l yX9_kind wsX9_kind ({ frames := 7, cells := 0, slots := 0, locals := 104 }) cw G σ sz [.ref (G.2.2.2.1 0), .int x1, .int x2, .int x3] (o.1, o.2.1) := by
  refine Met.ofW (cc := cX9_kind) (maxL := 4) (ret := (some .int)) (by decide +kernel) rfl ?_
  intro p e s m args below meth c s₁ B hml hv
  obtain ⟨rfl, hsz, hP, hK, hD0, hN⟩ := hv
  have hx := B.exec
  have hb := B.bytes
  have hr := B.returns
  have hts := atoms_spec (ws := wsX9_kind) B.pre
  have hown : s.vm.findClass RX9 = some m.cls := findClass_of_methodNamed B.named
  have hlocks := B.notSynchronized
  subst hsz
  have hD := hD0.self (sz := s.heap.size)
  have hA : ∀ q : Nat, s.heap.size ≤ q → va_A (cw G σ) s.heap.size q := fun q h => Or.inr h
  have hS : va_S (va_A (cw G σ) s.heap.size) s.heap s.heap [] := va_S.rf
  have hl := lv_entry ([.ref (G.2.2.2.1 0), .int x1, .int x2, .int x3]) (n := 4) (Nat.le_of_ble_eq_true rfl)
  rw [lg_entry_eq]
  generalize (lg_sl ([.ref (G.2.2.2.1 0), .int x1, .int x2, .int x3]) ++ List.replicate (4 - (lg_sl ([.ref (G.2.2.2.1 0), .int x1, .int x2, .int x3])).length) Slot.unset).toArray = ls at hl ⊢
  have hl : lv_has ls 4 [(0, .ref (G.2.2.2.1 0)), (1, .int x1), (2, .int x2), (3, .int x3)] := hl
  refine bX9_kind_0 (A := va_A (cw G σ) s.heap.size) hA ⟨⟨hx, hb, hml, hown, hts⟩, hK, hN⟩ ⟨Nat.le_of_ble_eq_true rfl, Nat.le_of_ble_eq_true rfl⟩ (o := o) ho (fun τ v pc H locs ls ho w d => ?_) σ x1 x2 x3 _ _ _ hf ⟨hP, hD, hS⟩ hl
  exact W.iret hx hb hr (fun t ht hW => ⟨⟨v, τ, rfl, ⟨by rw [ho], by rw [ho]⟩, by have h9 := w.1; rw [← ht] at h9; exact h9⟩, w.2.2.F ht⟩) w.2.2.2.2 d
set_option maxHeartbeats 4000000 in
set_option maxRecDepth 100000 in
theorem tbX9_kind_0 (hA : ∀ q : Nat, s.heap.size ≤ q → A q) (B : hy_B RX9 cX9_kind 4 wsX9_kind G A p s m args c) (hR : 7 ≤ R.frames ∧ 104 ≤ R.locals) {o : hy_S × Int32 × Nat}  (ho : ¬ o.2.2 = 0) (hT : hy_TC l R meth c) (σ : hy_S) (x1 : Int32) (x2 : Int32) (x3 : Int32) (H : Heap) (locs : List Loc) (ls : Array Slot) (hf : fX9_kind σ x1 x2 x3 = some o) (w : hy_w cw G A s σ H locs) (hl : lv_has ls 4 [(0, .ref (G.2.2.2.1 0)), (1, .int x1), (2, .int x2), (3, .int x3)]) : W p l e R s m args below meth c H locs 0 0 (vx_MQ below Qc (hy_X cw G o A) args s 1 6 A) (F0 m 0 ls []) := by
  unfold fX9_kind at hf
  refine lv_iload_n B.1.1 B.1.2.1 dX9_kind_0 rfl (lv_at hl 1 rfl) ?_
  refine lv_iconst (v := 1) B.1.1 B.1.2.1 dX9_kind_1 (by decide) ?_
  refine lv_bipush (v := 100) B.1.1 B.1.2.1 dX9_kind_2 (by decide) ?_
  rcases hy_bt_some hf with ⟨σ1, v2, h3, hf⟩ | ⟨h3, h4⟩
  · refine hy_csv (As := [.int x1, .int 1, .int 100]) (rest := []) (o := (σ1, v2)) cw_fix hA B w (fun sz => mX9_needNumber l G sz σ x1 1 100 _ h3 rfl) (cwS 3 B.1.2.2.2.2 gX9_kind_X9_needNumber rfl rfl rfl (by decide +kernel) ⟨by have := hR.1; show 6 + 1 ≤ _; omega, by have := hR.2; show 8 + (3 + 11) + 82 ≤ _; omega⟩) rfl hl.1 rfl (Nat.le_of_ble_eq_true rfl) dX9_kind_4 ⟨Nat.zero_le _, Nat.zero_le _⟩ (fun H locs w => ?_)
    refine lv_iload_n B.1.1 B.1.2.1 dX9_kind_7 rfl (lv_at hl 2 rfl) ?_
    refine lv_iconst (v := 1) B.1.1 B.1.2.1 dX9_kind_8 (by decide) ?_
    refine lv_sipush (v := 200) B.1.1 B.1.2.1 dX9_kind_9 (by decide) ?_
    rcases hy_bt_some hf with ⟨σ5, v6, h7, hf⟩ | ⟨h7, h8⟩
    · refine hy_csv (As := [.int x2, .int 1, .int 200]) (rest := []) (o := (σ5, v6)) cw_fix hA B w (fun sz => mX9_needNumber l G sz σ1 x2 1 200 _ h7 rfl) (cwS 3 B.1.2.2.2.2 gX9_kind_X9_needNumber rfl rfl rfl (by decide +kernel) ⟨by have := hR.1; show 6 + 1 ≤ _; omega, by have := hR.2; show 8 + (3 + 11) + 82 ≤ _; omega⟩) rfl hl.1 rfl (Nat.le_of_ble_eq_true rfl) dX9_kind_12 ⟨Nat.zero_le _, Nat.zero_le _⟩ (fun H locs w => ?_)
      refine lv_iload_n B.1.1 B.1.2.1 dX9_kind_15 rfl (lv_at hl 3 rfl) ?_
      refine lv_iconst (v := 0) B.1.1 B.1.2.1 dX9_kind_16 (by decide) ?_
      refine lv_sipush (v := 5000) B.1.1 B.1.2.1 dX9_kind_17 (by decide) ?_
      rcases hy_bt_some hf with ⟨σ9, v10, h11, hf⟩ | ⟨h11, h12⟩
      · refine hy_csv (As := [.int x3, .int 0, .int 5000]) (rest := []) (o := (σ9, v10)) cw_fix hA B w (fun sz => mX9_needNumber l G sz σ5 x3 0 5000 _ h11 rfl) (cwS 3 B.1.2.2.2.2 gX9_kind_X9_needNumber rfl rfl rfl (by decide +kernel) ⟨by have := hR.1; show 6 + 1 ≤ _; omega, by have := hR.2; show 8 + (3 + 11) + 82 ≤ _; omega⟩) rfl hl.1 rfl (Nat.le_of_ble_eq_true rfl) dX9_kind_20 ⟨Nat.zero_le _, Nat.zero_le _⟩ (fun H locs w => ?_)
        refine lv_aload_n B.1.1 B.1.2.1 dX9_kind_23 rfl (lv_at hl 0 rfl) ?_
        refine hy_get (k := 2) (v := .ref (G.2.2.2.1 3)) B w (cwq_0 G) rfl in_X9_kind_X9 (by decide) (by decide +kernel) rfl dX9_kind_24 ?_
        refine hy_getN (k := 3) (v := .int (σ9.2 3)) B w (cwq_3 G) rfl in_X9_kind_X2 (by decide) (by decide +kernel) rfl dX9_kind_27 ?_
        refine lv_bipush (v := 8) B.1.1 B.1.2.1 dX9_kind_30 (by decide) ?_
        rcases hy_bt_some hf with ⟨σ13, v14, h15, hf⟩ | ⟨h15, h16⟩
        · refine hy_csv (As := [.int (σ9.2 3), .int 8]) (rest := []) (o := (σ13, v14)) cw_fix hA B w (fun sz => mX9_needPlace l G sz σ9 (σ9.2 3) 8 _ h15 rfl) (cwS 2 B.1.2.2.2.2 gX9_kind_X9_needPlace rfl rfl rfl (by decide +kernel) ⟨by have := hR.1; show 6 + 1 ≤ _; omega, by have := hR.2; show 8 + (2 + 11) + 82 ≤ _; omega⟩) rfl hl.1 rfl (Nat.le_of_ble_eq_true rfl) dX9_kind_32 ⟨Nat.zero_le _, Nat.zero_le _⟩ (fun H locs w => ?_)
          refine lv_aload_n B.1.1 B.1.2.1 dX9_kind_35 rfl (lv_at hl 0 rfl) ?_
          refine hy_get (k := 2) (v := .ref (G.2.2.2.1 3)) B w (cwq_0 G) rfl in_X9_kind_X9 (by decide) (by decide +kernel) rfl dX9_kind_36 ?_
          refine lv_iload_n B.1.1 B.1.2.1 dX9_kind_39 rfl (lv_at hl 1 rfl) ?_
          refine lv_iload_n B.1.1 B.1.2.1 dX9_kind_40 rfl (lv_at hl 2 rfl) ?_
          refine lv_iload_n B.1.1 B.1.2.1 dX9_kind_41 rfl (lv_at hl 3 rfl) ?_
          obtain ⟨σ17, v18, h19, hf⟩ := hy_bd_some hf
          refine hy_cv (As := [.int x1, .int x2, .int x3]) (rest := []) (o := (σ17, v18)) cw_fix hA B w (fun sz => mX2_add l G sz σ13 x1 x2 x3 _ h19) (cwV 3 B.1.2.2.2.2 gX9_kind_X2_add rfl rfl rfl (by decide +kernel) ⟨by have := hR.1; show 0 + 1 ≤ _; omega, by have := hR.2; show 8 + (4 + 11) + 0 ≤ _; omega⟩) rfl (cwq_3 G σ13) rfl hl.1 rfl (Nat.le_of_ble_eq_true rfl) dX9_kind_42 ⟨Nat.zero_le _, Nat.zero_le _⟩ (fun H locs w => ?_)
          exact absurd (congrArg (fun z => z.2.2) (Option.some.inj hf)).symm ho
        · exact hy_tsv (As := [.int (σ9.2 3), .int 8]) (rest := []) hA B w hT (fun sz => tX9_needPlace l hT.1 G sz σ9 (σ9.2 3) 8 _ h15 h16) (cwS 2 B.1.2.2.2.2 gX9_kind_X9_needPlace rfl rfl rfl (by decide +kernel) ⟨by have := hR.1; show 6 + 1 ≤ _; omega, by have := hR.2; show 8 + (2 + 11) + 82 ≤ _; omega⟩) rfl hl.1 rfl (Nat.le_of_ble_eq_true rfl) dX9_kind_32
      · exact hy_tsv (As := [.int x3, .int 0, .int 5000]) (rest := []) hA B w hT (fun sz => tX9_needNumber l hT.1 G sz σ5 x3 0 5000 _ h11 h12) (cwS 3 B.1.2.2.2.2 gX9_kind_X9_needNumber rfl rfl rfl (by decide +kernel) ⟨by have := hR.1; show 6 + 1 ≤ _; omega, by have := hR.2; show 8 + (3 + 11) + 82 ≤ _; omega⟩) rfl hl.1 rfl (Nat.le_of_ble_eq_true rfl) dX9_kind_20
    · exact hy_tsv (As := [.int x2, .int 1, .int 200]) (rest := []) hA B w hT (fun sz => tX9_needNumber l hT.1 G sz σ1 x2 1 200 _ h7 h8) (cwS 3 B.1.2.2.2.2 gX9_kind_X9_needNumber rfl rfl rfl (by decide +kernel) ⟨by have := hR.1; show 6 + 1 ≤ _; omega, by have := hR.2; show 8 + (3 + 11) + 82 ≤ _; omega⟩) rfl hl.1 rfl (Nat.le_of_ble_eq_true rfl) dX9_kind_12
  · exact hy_tsv (As := [.int x1, .int 1, .int 100]) (rest := []) hA B w hT (fun sz => tX9_needNumber l hT.1 G sz σ x1 1 100 _ h3 h4) (cwS 3 B.1.2.2.2.2 gX9_kind_X9_needNumber rfl rfl rfl (by decide +kernel) ⟨by have := hR.1; show 6 + 1 ≤ _; omega, by have := hR.2; show 8 + (3 + 11) + 82 ≤ _; omega⟩) rfl hl.1 rfl (Nat.le_of_ble_eq_true rfl) dX9_kind_4
set_option maxHeartbeats 4000000 in
set_option maxRecDepth 100000 in
theorem tX9_kind (l : Launch) (hlt : l.stackTraces = false) (G : hy_G) (sz : Nat) (σ : hy_S) (x1 : Int32) (x2 : Int32) (x3 : Int32) (o : hy_S × Int32 × Nat) (hf : fX9_kind σ x1 x2 x3 = some o) (ho : ¬ o.2.2 = 0) : hy_MT l yX9_kind wsX9_kind ({ frames := 7, cells := 1, slots := 6, locals := 104 }) cw G σ sz [.ref (G.2.2.2.1 0), .int x1, .int x2, .int x3] o := by
  refine vx_ofW (cc := cX9_kind) (maxL := 4) (ret := (some .int)) (by decide +kernel) rfl ?_
  intro p e s m args below meth c s₁ B hml h0 hv
  obtain ⟨rfl, hsz, hP, hK, hD0, hN⟩ := hv
  have hx := B.exec
  have hb := B.bytes
  have hr := B.returns
  have hts := atoms_spec (ws := wsX9_kind) B.pre
  have hown : s.vm.findClass RX9 = some m.cls := findClass_of_methodNamed B.named
  have hlocks := B.notSynchronized
  subst hsz
  have hD := hD0.self (sz := s.heap.size)
  have hA : ∀ q : Nat, s.heap.size ≤ q → va_A (cw G σ) s.heap.size q := fun q h => Or.inr h
  have hS : va_S (va_A (cw G σ) s.heap.size) s.heap s.heap [] := va_S.rf
  have hl := lv_entry ([.ref (G.2.2.2.1 0), .int x1, .int x2, .int x3]) (n := 4) (Nat.le_of_ble_eq_true rfl)
  rw [lg_entry_eq]
  generalize (lg_sl ([.ref (G.2.2.2.1 0), .int x1, .int x2, .int x3]) ++ List.replicate (4 - (lg_sl ([.ref (G.2.2.2.1 0), .int x1, .int x2, .int x3])).length) Slot.unset).toArray = ls at hl ⊢
  have hl : lv_has ls 4 [(0, .ref (G.2.2.2.1 0)), (1, .int x1), (2, .int x2), (3, .int x3)] := hl
  exact tbX9_kind_0 (A := va_A (cw G σ) s.heap.size) hA ⟨⟨hx, hb, hml, hown, hts⟩, hK, hN⟩ ⟨Nat.le_of_ble_eq_true rfl, Nat.le_of_ble_eq_true rfl⟩ (o := o) ho ⟨hlt, hlocks, h0, Nat.le_refl _, Nat.le_refl _⟩ σ x1 x2 x3 _ _ _ hf ⟨hP, hD, hS⟩ hl
theorem in_X9_fire_X1 : ∀ w ∈ u_ws RX1 TX1 8, w ∈ wsX9_fire := fun _ h => xt1 (xl (xl (xl (xr (h)))))
theorem in_X9_fire_X2 : ∀ w ∈ u_ws RX2 TX2 4, w ∈ wsX9_fire := fun _ h => xt1 (xl (xl (xl (xl (xr (h))))))
theorem in_X9_fire_X9 : ∀ w ∈ u_ws RX9 TX9 11, w ∈ wsX9_fire := fun _ h => xt1 (xl (xl (xl (xl (xl (xr (h)))))))
noncomputable def fX9_fire (σ : hy_S) (x1 : Int32) (x2 : Int32) (x3 : Int32) : Option (hy_S × Int32 × Nat) := hy_bt (fX9_needIndex σ x1 (σ.2 3)) some (fun σ1 v2 => hy_bt (fX9_needNumber σ1 x2 0 15) some (fun σ5 v6 => hy_bt (fX9_needNumber σ5 x3 1 300) some (fun σ9 v10 => hy_bt (fX9_needPlace σ9 (σ9.2 4) 60) some (fun σ13 v14 => hy_bd (fX1_add σ13 x1 x2 x3) (fun σ17 v18 => some (σ17, v18, 0))))))
set_option maxHeartbeats 4000000 in
set_option maxRecDepth 100000 in
theorem bX9_fire_0 (hA : ∀ q : Nat, s.heap.size ≤ q → A q) (B : hy_B RX9 cX9_fire 4 wsX9_fire G A p s m args c) (hR : 7 ≤ R.frames ∧ 104 ≤ R.locals) {o : hy_S × Int32 × Nat}  (ho : o.2.2 = 0) (hret : ∀ (σ : hy_S) (v : Int32) (pc : Nat) (H : Heap) (locs : List Loc) (ls : Array Slot), o = (σ, v, 0) → hy_w cw G A s σ H locs → decode cX9_fire pc = .ok (.ireturn, 1) → W p l e R s m args below meth c H locs 0 0 Q (F0 m pc ls [.int v])) (σ : hy_S) (x1 : Int32) (x2 : Int32) (x3 : Int32) (H : Heap) (locs : List Loc) (ls : Array Slot) (hf : fX9_fire σ x1 x2 x3 = some o) (w : hy_w cw G A s σ H locs) (hl : lv_has ls 4 [(0, .ref (G.2.2.2.1 0)), (1, .int x1), (2, .int x2), (3, .int x3)]) : W p l e R s m args below meth c H locs 0 0 Q (F0 m 0 ls []) := by
  unfold fX9_fire at hf
  refine lv_iload_n B.1.1 B.1.2.1 dX9_fire_0 rfl (lv_at hl 1 rfl) ?_
  refine lv_aload_n B.1.1 B.1.2.1 dX9_fire_1 rfl (lv_at hl 0 rfl) ?_
  refine hy_get (k := 2) (v := .ref (G.2.2.2.1 3)) B w (cwq_0 G) rfl in_X9_fire_X9 (by decide) (by decide +kernel) rfl dX9_fire_2 ?_
  refine hy_getN (k := 3) (v := .int (σ.2 3)) B w (cwq_3 G) rfl in_X9_fire_X2 (by decide) (by decide +kernel) rfl dX9_fire_5 ?_
  rcases hy_bt_some hf with ⟨σ1, v2, h3, hf⟩ | ⟨h3, h4⟩
  · refine hy_csv (As := [.int x1, .int (σ.2 3)]) (rest := []) (o := (σ1, v2)) cw_fix hA B w (fun sz => mX9_needIndex l G sz σ x1 (σ.2 3) _ h3 rfl) (cwS 2 B.1.2.2.2.2 gX9_fire_X9_needIndex rfl rfl rfl (by decide +kernel) ⟨by have := hR.1; show 6 + 1 ≤ _; omega, by have := hR.2; show 8 + (2 + 11) + 82 ≤ _; omega⟩) rfl hl.1 rfl (Nat.le_of_ble_eq_true rfl) dX9_fire_8 ⟨Nat.zero_le _, Nat.zero_le _⟩ (fun H locs w => ?_)
    refine lv_iload_n B.1.1 B.1.2.1 dX9_fire_11 rfl (lv_at hl 2 rfl) ?_
    refine lv_iconst (v := 0) B.1.1 B.1.2.1 dX9_fire_12 (by decide) ?_
    refine lv_bipush (v := 15) B.1.1 B.1.2.1 dX9_fire_13 (by decide) ?_
    rcases hy_bt_some hf with ⟨σ5, v6, h7, hf⟩ | ⟨h7, h8⟩
    · refine hy_csv (As := [.int x2, .int 0, .int 15]) (rest := []) (o := (σ5, v6)) cw_fix hA B w (fun sz => mX9_needNumber l G sz σ1 x2 0 15 _ h7 rfl) (cwS 3 B.1.2.2.2.2 gX9_fire_X9_needNumber rfl rfl rfl (by decide +kernel) ⟨by have := hR.1; show 6 + 1 ≤ _; omega, by have := hR.2; show 8 + (3 + 11) + 82 ≤ _; omega⟩) rfl hl.1 rfl (Nat.le_of_ble_eq_true rfl) dX9_fire_15 ⟨Nat.zero_le _, Nat.zero_le _⟩ (fun H locs w => ?_)
      refine lv_iload_n B.1.1 B.1.2.1 dX9_fire_18 rfl (lv_at hl 3 rfl) ?_
      refine lv_iconst (v := 1) B.1.1 B.1.2.1 dX9_fire_19 (by decide) ?_
      refine lv_sipush (v := 300) B.1.1 B.1.2.1 dX9_fire_20 (by decide) ?_
      rcases hy_bt_some hf with ⟨σ9, v10, h11, hf⟩ | ⟨h11, h12⟩
      · refine hy_csv (As := [.int x3, .int 1, .int 300]) (rest := []) (o := (σ9, v10)) cw_fix hA B w (fun sz => mX9_needNumber l G sz σ5 x3 1 300 _ h11 rfl) (cwS 3 B.1.2.2.2.2 gX9_fire_X9_needNumber rfl rfl rfl (by decide +kernel) ⟨by have := hR.1; show 6 + 1 ≤ _; omega, by have := hR.2; show 8 + (3 + 11) + 82 ≤ _; omega⟩) rfl hl.1 rfl (Nat.le_of_ble_eq_true rfl) dX9_fire_23 ⟨Nat.zero_le _, Nat.zero_le _⟩ (fun H locs w => ?_)
        refine lv_aload_n B.1.1 B.1.2.1 dX9_fire_26 rfl (lv_at hl 0 rfl) ?_
        refine hy_get (k := 3) (v := .ref (G.2.2.2.1 4)) B w (cwq_0 G) rfl in_X9_fire_X9 (by decide) (by decide +kernel) rfl dX9_fire_27 ?_
        refine hy_getN (k := 7) (v := .int (σ9.2 4)) B w (cwq_4 G) rfl in_X9_fire_X1 (by decide) (by decide +kernel) rfl dX9_fire_30 ?_
        refine lv_bipush (v := 60) B.1.1 B.1.2.1 dX9_fire_33 (by decide) ?_
        rcases hy_bt_some hf with ⟨σ13, v14, h15, hf⟩ | ⟨h15, h16⟩
        · refine hy_csv (As := [.int (σ9.2 4), .int 60]) (rest := []) (o := (σ13, v14)) cw_fix hA B w (fun sz => mX9_needPlace l G sz σ9 (σ9.2 4) 60 _ h15 rfl) (cwS 2 B.1.2.2.2.2 gX9_fire_X9_needPlace rfl rfl rfl (by decide +kernel) ⟨by have := hR.1; show 6 + 1 ≤ _; omega, by have := hR.2; show 8 + (2 + 11) + 82 ≤ _; omega⟩) rfl hl.1 rfl (Nat.le_of_ble_eq_true rfl) dX9_fire_35 ⟨Nat.zero_le _, Nat.zero_le _⟩ (fun H locs w => ?_)
          refine lv_aload_n B.1.1 B.1.2.1 dX9_fire_38 rfl (lv_at hl 0 rfl) ?_
          refine hy_get (k := 3) (v := .ref (G.2.2.2.1 4)) B w (cwq_0 G) rfl in_X9_fire_X9 (by decide) (by decide +kernel) rfl dX9_fire_39 ?_
          refine lv_iload_n B.1.1 B.1.2.1 dX9_fire_42 rfl (lv_at hl 1 rfl) ?_
          refine lv_iload_n B.1.1 B.1.2.1 dX9_fire_43 rfl (lv_at hl 2 rfl) ?_
          refine lv_iload_n B.1.1 B.1.2.1 dX9_fire_44 rfl (lv_at hl 3 rfl) ?_
          obtain ⟨σ17, v18, h19, hf⟩ := hy_bd_some hf
          refine hy_cv (As := [.int x1, .int x2, .int x3]) (rest := []) (o := (σ17, v18)) cw_fix hA B w (fun sz => mX1_add l G sz σ13 x1 x2 x3 _ h19) (cwV 3 B.1.2.2.2.2 gX9_fire_X1_add rfl rfl rfl (by decide +kernel) ⟨by have := hR.1; show 0 + 1 ≤ _; omega, by have := hR.2; show 8 + (4 + 11) + 0 ≤ _; omega⟩) rfl (cwq_4 G σ13) rfl hl.1 rfl (Nat.le_of_ble_eq_true rfl) dX9_fire_45 ⟨Nat.zero_le _, Nat.zero_le _⟩ (fun H locs w => ?_)
          exact hret _ _ _ _ _ _ (Option.some.inj hf).symm w dX9_fire_48
        · exact absurd ho h16
      · exact absurd ho h12
    · exact absurd ho h8
  · exact absurd ho h4
set_option maxHeartbeats 4000000 in
set_option maxRecDepth 100000 in
theorem mX9_fire (l : Launch) (G : hy_G) (sz : Nat) (σ : hy_S) (x1 : Int32) (x2 : Int32) (x3 : Int32) (o : hy_S × Int32 × Nat) (hf : fX9_fire σ x1 x2 x3 = some o) (ho : o.2.2 = 0) : hy_M l yX9_fire wsX9_fire ({ frames := 7, cells := 0, slots := 0, locals := 104 }) cw G σ sz [.ref (G.2.2.2.1 0), .int x1, .int x2, .int x3] (o.1, o.2.1) := by
  refine Met.ofW (cc := cX9_fire) (maxL := 4) (ret := (some .int)) (by decide +kernel) rfl ?_
  intro p e s m args below meth c s₁ B hml hv
  obtain ⟨rfl, hsz, hP, hK, hD0, hN⟩ := hv
  have hx := B.exec
  have hb := B.bytes
  have hr := B.returns
  have hts := atoms_spec (ws := wsX9_fire) B.pre
  have hown : s.vm.findClass RX9 = some m.cls := findClass_of_methodNamed B.named
  have hlocks := B.notSynchronized
  subst hsz
  have hD := hD0.self (sz := s.heap.size)
  have hA : ∀ q : Nat, s.heap.size ≤ q → va_A (cw G σ) s.heap.size q := fun q h => Or.inr h
  have hS : va_S (va_A (cw G σ) s.heap.size) s.heap s.heap [] := va_S.rf
  have hl := lv_entry ([.ref (G.2.2.2.1 0), .int x1, .int x2, .int x3]) (n := 4) (Nat.le_of_ble_eq_true rfl)
  rw [lg_entry_eq]
  generalize (lg_sl ([.ref (G.2.2.2.1 0), .int x1, .int x2, .int x3]) ++ List.replicate (4 - (lg_sl ([.ref (G.2.2.2.1 0), .int x1, .int x2, .int x3])).length) Slot.unset).toArray = ls at hl ⊢
  have hl : lv_has ls 4 [(0, .ref (G.2.2.2.1 0)), (1, .int x1), (2, .int x2), (3, .int x3)] := hl
  refine bX9_fire_0 (A := va_A (cw G σ) s.heap.size) hA ⟨⟨hx, hb, hml, hown, hts⟩, hK, hN⟩ ⟨Nat.le_of_ble_eq_true rfl, Nat.le_of_ble_eq_true rfl⟩ (o := o) ho (fun τ v pc H locs ls ho w d => ?_) σ x1 x2 x3 _ _ _ hf ⟨hP, hD, hS⟩ hl
  exact W.iret hx hb hr (fun t ht hW => ⟨⟨v, τ, rfl, ⟨by rw [ho], by rw [ho]⟩, by have h9 := w.1; rw [← ht] at h9; exact h9⟩, w.2.2.F ht⟩) w.2.2.2.2 d
set_option maxHeartbeats 4000000 in
set_option maxRecDepth 100000 in
theorem tbX9_fire_0 (hA : ∀ q : Nat, s.heap.size ≤ q → A q) (B : hy_B RX9 cX9_fire 4 wsX9_fire G A p s m args c) (hR : 7 ≤ R.frames ∧ 104 ≤ R.locals) {o : hy_S × Int32 × Nat}  (ho : ¬ o.2.2 = 0) (hT : hy_TC l R meth c) (σ : hy_S) (x1 : Int32) (x2 : Int32) (x3 : Int32) (H : Heap) (locs : List Loc) (ls : Array Slot) (hf : fX9_fire σ x1 x2 x3 = some o) (w : hy_w cw G A s σ H locs) (hl : lv_has ls 4 [(0, .ref (G.2.2.2.1 0)), (1, .int x1), (2, .int x2), (3, .int x3)]) : W p l e R s m args below meth c H locs 0 0 (vx_MQ below Qc (hy_X cw G o A) args s 1 6 A) (F0 m 0 ls []) := by
  unfold fX9_fire at hf
  refine lv_iload_n B.1.1 B.1.2.1 dX9_fire_0 rfl (lv_at hl 1 rfl) ?_
  refine lv_aload_n B.1.1 B.1.2.1 dX9_fire_1 rfl (lv_at hl 0 rfl) ?_
  refine hy_get (k := 2) (v := .ref (G.2.2.2.1 3)) B w (cwq_0 G) rfl in_X9_fire_X9 (by decide) (by decide +kernel) rfl dX9_fire_2 ?_
  refine hy_getN (k := 3) (v := .int (σ.2 3)) B w (cwq_3 G) rfl in_X9_fire_X2 (by decide) (by decide +kernel) rfl dX9_fire_5 ?_
  rcases hy_bt_some hf with ⟨σ1, v2, h3, hf⟩ | ⟨h3, h4⟩
  · refine hy_csv (As := [.int x1, .int (σ.2 3)]) (rest := []) (o := (σ1, v2)) cw_fix hA B w (fun sz => mX9_needIndex l G sz σ x1 (σ.2 3) _ h3 rfl) (cwS 2 B.1.2.2.2.2 gX9_fire_X9_needIndex rfl rfl rfl (by decide +kernel) ⟨by have := hR.1; show 6 + 1 ≤ _; omega, by have := hR.2; show 8 + (2 + 11) + 82 ≤ _; omega⟩) rfl hl.1 rfl (Nat.le_of_ble_eq_true rfl) dX9_fire_8 ⟨Nat.zero_le _, Nat.zero_le _⟩ (fun H locs w => ?_)
    refine lv_iload_n B.1.1 B.1.2.1 dX9_fire_11 rfl (lv_at hl 2 rfl) ?_
    refine lv_iconst (v := 0) B.1.1 B.1.2.1 dX9_fire_12 (by decide) ?_
    refine lv_bipush (v := 15) B.1.1 B.1.2.1 dX9_fire_13 (by decide) ?_
    rcases hy_bt_some hf with ⟨σ5, v6, h7, hf⟩ | ⟨h7, h8⟩
    · refine hy_csv (As := [.int x2, .int 0, .int 15]) (rest := []) (o := (σ5, v6)) cw_fix hA B w (fun sz => mX9_needNumber l G sz σ1 x2 0 15 _ h7 rfl) (cwS 3 B.1.2.2.2.2 gX9_fire_X9_needNumber rfl rfl rfl (by decide +kernel) ⟨by have := hR.1; show 6 + 1 ≤ _; omega, by have := hR.2; show 8 + (3 + 11) + 82 ≤ _; omega⟩) rfl hl.1 rfl (Nat.le_of_ble_eq_true rfl) dX9_fire_15 ⟨Nat.zero_le _, Nat.zero_le _⟩ (fun H locs w => ?_)
      refine lv_iload_n B.1.1 B.1.2.1 dX9_fire_18 rfl (lv_at hl 3 rfl) ?_
      refine lv_iconst (v := 1) B.1.1 B.1.2.1 dX9_fire_19 (by decide) ?_
      refine lv_sipush (v := 300) B.1.1 B.1.2.1 dX9_fire_20 (by decide) ?_
      rcases hy_bt_some hf with ⟨σ9, v10, h11, hf⟩ | ⟨h11, h12⟩
      · refine hy_csv (As := [.int x3, .int 1, .int 300]) (rest := []) (o := (σ9, v10)) cw_fix hA B w (fun sz => mX9_needNumber l G sz σ5 x3 1 300 _ h11 rfl) (cwS 3 B.1.2.2.2.2 gX9_fire_X9_needNumber rfl rfl rfl (by decide +kernel) ⟨by have := hR.1; show 6 + 1 ≤ _; omega, by have := hR.2; show 8 + (3 + 11) + 82 ≤ _; omega⟩) rfl hl.1 rfl (Nat.le_of_ble_eq_true rfl) dX9_fire_23 ⟨Nat.zero_le _, Nat.zero_le _⟩ (fun H locs w => ?_)
        refine lv_aload_n B.1.1 B.1.2.1 dX9_fire_26 rfl (lv_at hl 0 rfl) ?_
        refine hy_get (k := 3) (v := .ref (G.2.2.2.1 4)) B w (cwq_0 G) rfl in_X9_fire_X9 (by decide) (by decide +kernel) rfl dX9_fire_27 ?_
        refine hy_getN (k := 7) (v := .int (σ9.2 4)) B w (cwq_4 G) rfl in_X9_fire_X1 (by decide) (by decide +kernel) rfl dX9_fire_30 ?_
        refine lv_bipush (v := 60) B.1.1 B.1.2.1 dX9_fire_33 (by decide) ?_
        rcases hy_bt_some hf with ⟨σ13, v14, h15, hf⟩ | ⟨h15, h16⟩
        · refine hy_csv (As := [.int (σ9.2 4), .int 60]) (rest := []) (o := (σ13, v14)) cw_fix hA B w (fun sz => mX9_needPlace l G sz σ9 (σ9.2 4) 60 _ h15 rfl) (cwS 2 B.1.2.2.2.2 gX9_fire_X9_needPlace rfl rfl rfl (by decide +kernel) ⟨by have := hR.1; show 6 + 1 ≤ _; omega, by have := hR.2; show 8 + (2 + 11) + 82 ≤ _; omega⟩) rfl hl.1 rfl (Nat.le_of_ble_eq_true rfl) dX9_fire_35 ⟨Nat.zero_le _, Nat.zero_le _⟩ (fun H locs w => ?_)
          refine lv_aload_n B.1.1 B.1.2.1 dX9_fire_38 rfl (lv_at hl 0 rfl) ?_
          refine hy_get (k := 3) (v := .ref (G.2.2.2.1 4)) B w (cwq_0 G) rfl in_X9_fire_X9 (by decide) (by decide +kernel) rfl dX9_fire_39 ?_
          refine lv_iload_n B.1.1 B.1.2.1 dX9_fire_42 rfl (lv_at hl 1 rfl) ?_
          refine lv_iload_n B.1.1 B.1.2.1 dX9_fire_43 rfl (lv_at hl 2 rfl) ?_
          refine lv_iload_n B.1.1 B.1.2.1 dX9_fire_44 rfl (lv_at hl 3 rfl) ?_
          obtain ⟨σ17, v18, h19, hf⟩ := hy_bd_some hf
          refine hy_cv (As := [.int x1, .int x2, .int x3]) (rest := []) (o := (σ17, v18)) cw_fix hA B w (fun sz => mX1_add l G sz σ13 x1 x2 x3 _ h19) (cwV 3 B.1.2.2.2.2 gX9_fire_X1_add rfl rfl rfl (by decide +kernel) ⟨by have := hR.1; show 0 + 1 ≤ _; omega, by have := hR.2; show 8 + (4 + 11) + 0 ≤ _; omega⟩) rfl (cwq_4 G σ13) rfl hl.1 rfl (Nat.le_of_ble_eq_true rfl) dX9_fire_45 ⟨Nat.zero_le _, Nat.zero_le _⟩ (fun H locs w => ?_)
          exact absurd (congrArg (fun z => z.2.2) (Option.some.inj hf)).symm ho
        · exact hy_tsv (As := [.int (σ9.2 4), .int 60]) (rest := []) hA B w hT (fun sz => tX9_needPlace l hT.1 G sz σ9 (σ9.2 4) 60 _ h15 h16) (cwS 2 B.1.2.2.2.2 gX9_fire_X9_needPlace rfl rfl rfl (by decide +kernel) ⟨by have := hR.1; show 6 + 1 ≤ _; omega, by have := hR.2; show 8 + (2 + 11) + 82 ≤ _; omega⟩) rfl hl.1 rfl (Nat.le_of_ble_eq_true rfl) dX9_fire_35
      · exact hy_tsv (As := [.int x3, .int 1, .int 300]) (rest := []) hA B w hT (fun sz => tX9_needNumber l hT.1 G sz σ5 x3 1 300 _ h11 h12) (cwS 3 B.1.2.2.2.2 gX9_fire_X9_needNumber rfl rfl rfl (by decide +kernel) ⟨by have := hR.1; show 6 + 1 ≤ _; omega, by have := hR.2; show 8 + (3 + 11) + 82 ≤ _; omega⟩) rfl hl.1 rfl (Nat.le_of_ble_eq_true rfl) dX9_fire_23
    · exact hy_tsv (As := [.int x2, .int 0, .int 15]) (rest := []) hA B w hT (fun sz => tX9_needNumber l hT.1 G sz σ1 x2 0 15 _ h7 h8) (cwS 3 B.1.2.2.2.2 gX9_fire_X9_needNumber rfl rfl rfl (by decide +kernel) ⟨by have := hR.1; show 6 + 1 ≤ _; omega, by have := hR.2; show 8 + (3 + 11) + 82 ≤ _; omega⟩) rfl hl.1 rfl (Nat.le_of_ble_eq_true rfl) dX9_fire_15
  · exact hy_tsv (As := [.int x1, .int (σ.2 3)]) (rest := []) hA B w hT (fun sz => tX9_needIndex l hT.1 G sz σ x1 (σ.2 3) _ h3 h4) (cwS 2 B.1.2.2.2.2 gX9_fire_X9_needIndex rfl rfl rfl (by decide +kernel) ⟨by have := hR.1; show 6 + 1 ≤ _; omega, by have := hR.2; show 8 + (2 + 11) + 82 ≤ _; omega⟩) rfl hl.1 rfl (Nat.le_of_ble_eq_true rfl) dX9_fire_8
set_option maxHeartbeats 4000000 in
set_option maxRecDepth 100000 in
theorem tX9_fire (l : Launch) (hlt : l.stackTraces = false) (G : hy_G) (sz : Nat) (σ : hy_S) (x1 : Int32) (x2 : Int32) (x3 : Int32) (o : hy_S × Int32 × Nat) (hf : fX9_fire σ x1 x2 x3 = some o) (ho : ¬ o.2.2 = 0) : hy_MT l yX9_fire wsX9_fire ({ frames := 7, cells := 1, slots := 6, locals := 104 }) cw G σ sz [.ref (G.2.2.2.1 0), .int x1, .int x2, .int x3] o := by
  refine vx_ofW (cc := cX9_fire) (maxL := 4) (ret := (some .int)) (by decide +kernel) rfl ?_
  intro p e s m args below meth c s₁ B hml h0 hv
  obtain ⟨rfl, hsz, hP, hK, hD0, hN⟩ := hv
  have hx := B.exec
  have hb := B.bytes
  have hr := B.returns
  have hts := atoms_spec (ws := wsX9_fire) B.pre
  have hown : s.vm.findClass RX9 = some m.cls := findClass_of_methodNamed B.named
  have hlocks := B.notSynchronized
  subst hsz
  have hD := hD0.self (sz := s.heap.size)
  have hA : ∀ q : Nat, s.heap.size ≤ q → va_A (cw G σ) s.heap.size q := fun q h => Or.inr h
  have hS : va_S (va_A (cw G σ) s.heap.size) s.heap s.heap [] := va_S.rf
  have hl := lv_entry ([.ref (G.2.2.2.1 0), .int x1, .int x2, .int x3]) (n := 4) (Nat.le_of_ble_eq_true rfl)
  rw [lg_entry_eq]
  generalize (lg_sl ([.ref (G.2.2.2.1 0), .int x1, .int x2, .int x3]) ++ List.replicate (4 - (lg_sl ([.ref (G.2.2.2.1 0), .int x1, .int x2, .int x3])).length) Slot.unset).toArray = ls at hl ⊢
  have hl : lv_has ls 4 [(0, .ref (G.2.2.2.1 0)), (1, .int x1), (2, .int x2), (3, .int x3)] := hl
  exact tbX9_fire_0 (A := va_A (cw G σ) s.heap.size) hA ⟨⟨hx, hb, hml, hown, hts⟩, hK, hN⟩ ⟨Nat.le_of_ble_eq_true rfl, Nat.le_of_ble_eq_true rfl⟩ (o := o) ho ⟨hlt, hlocks, h0, Nat.le_refl _, Nat.le_refl _⟩ σ x1 x2 x3 _ _ _ hf ⟨hP, hD, hS⟩ hl
theorem in_X9_fill_X1 : ∀ w ∈ u_ws RX1 TX1 8, w ∈ wsX9_fill := fun _ h => xt1 (xl (xl (xl (xr (h)))))
theorem in_X9_fill_X9 : ∀ w ∈ u_ws RX9 TX9 11, w ∈ wsX9_fill := fun _ h => xt1 (xl (xl (xl (xl (xr (h))))))
noncomputable def fX9_fill (σ : hy_S) (x1 : Int32) (x2 : Int32) : Option (hy_S × Int32 × Nat) := hy_bt (fX9_needIndex σ x1 (σ.2 4)) some (fun σ1 v2 => hy_bt (fX9_needNumber σ1 x2 1 200) some (fun σ5 v6 => hy_bd (fX1_pour σ5 x1 x2) (fun σ9 v10 => some (σ9, v10, 0))))
set_option maxHeartbeats 4000000 in
set_option maxRecDepth 100000 in
theorem bX9_fill_0 (hA : ∀ q : Nat, s.heap.size ≤ q → A q) (B : hy_B RX9 cX9_fill 3 wsX9_fill G A p s m args c) (hR : 7 ≤ R.frames ∧ 104 ≤ R.locals) {o : hy_S × Int32 × Nat}  (ho : o.2.2 = 0) (hret : ∀ (σ : hy_S) (v : Int32) (pc : Nat) (H : Heap) (locs : List Loc) (ls : Array Slot), o = (σ, v, 0) → hy_w cw G A s σ H locs → decode cX9_fill pc = .ok (.ireturn, 1) → W p l e R s m args below meth c H locs 0 0 Q (F0 m pc ls [.int v])) (σ : hy_S) (x1 : Int32) (x2 : Int32) (H : Heap) (locs : List Loc) (ls : Array Slot) (hf : fX9_fill σ x1 x2 = some o) (w : hy_w cw G A s σ H locs) (hl : lv_has ls 3 [(0, .ref (G.2.2.2.1 0)), (1, .int x1), (2, .int x2)]) : W p l e R s m args below meth c H locs 0 0 Q (F0 m 0 ls []) := by
  unfold fX9_fill at hf
  refine lv_iload_n B.1.1 B.1.2.1 dX9_fill_0 rfl (lv_at hl 1 rfl) ?_
  refine lv_aload_n B.1.1 B.1.2.1 dX9_fill_1 rfl (lv_at hl 0 rfl) ?_
  refine hy_get (k := 3) (v := .ref (G.2.2.2.1 4)) B w (cwq_0 G) rfl in_X9_fill_X9 (by decide) (by decide +kernel) rfl dX9_fill_2 ?_
  refine hy_getN (k := 7) (v := .int (σ.2 4)) B w (cwq_4 G) rfl in_X9_fill_X1 (by decide) (by decide +kernel) rfl dX9_fill_5 ?_
  rcases hy_bt_some hf with ⟨σ1, v2, h3, hf⟩ | ⟨h3, h4⟩
  · refine hy_csv (As := [.int x1, .int (σ.2 4)]) (rest := []) (o := (σ1, v2)) cw_fix hA B w (fun sz => mX9_needIndex l G sz σ x1 (σ.2 4) _ h3 rfl) (cwS 2 B.1.2.2.2.2 gX9_fill_X9_needIndex rfl rfl rfl (by decide +kernel) ⟨by have := hR.1; show 6 + 1 ≤ _; omega, by have := hR.2; show 8 + (2 + 11) + 82 ≤ _; omega⟩) rfl hl.1 rfl (Nat.le_of_ble_eq_true rfl) dX9_fill_8 ⟨Nat.zero_le _, Nat.zero_le _⟩ (fun H locs w => ?_)
    refine lv_iload_n B.1.1 B.1.2.1 dX9_fill_11 rfl (lv_at hl 2 rfl) ?_
    refine lv_iconst (v := 1) B.1.1 B.1.2.1 dX9_fill_12 (by decide) ?_
    refine lv_sipush (v := 200) B.1.1 B.1.2.1 dX9_fill_13 (by decide) ?_
    rcases hy_bt_some hf with ⟨σ5, v6, h7, hf⟩ | ⟨h7, h8⟩
    · refine hy_csv (As := [.int x2, .int 1, .int 200]) (rest := []) (o := (σ5, v6)) cw_fix hA B w (fun sz => mX9_needNumber l G sz σ1 x2 1 200 _ h7 rfl) (cwS 3 B.1.2.2.2.2 gX9_fill_X9_needNumber rfl rfl rfl (by decide +kernel) ⟨by have := hR.1; show 6 + 1 ≤ _; omega, by have := hR.2; show 8 + (3 + 11) + 82 ≤ _; omega⟩) rfl hl.1 rfl (Nat.le_of_ble_eq_true rfl) dX9_fill_16 ⟨Nat.zero_le _, Nat.zero_le _⟩ (fun H locs w => ?_)
      refine lv_aload_n B.1.1 B.1.2.1 dX9_fill_19 rfl (lv_at hl 0 rfl) ?_
      refine hy_get (k := 3) (v := .ref (G.2.2.2.1 4)) B w (cwq_0 G) rfl in_X9_fill_X9 (by decide) (by decide +kernel) rfl dX9_fill_20 ?_
      refine lv_iload_n B.1.1 B.1.2.1 dX9_fill_23 rfl (lv_at hl 1 rfl) ?_
      refine lv_iload_n B.1.1 B.1.2.1 dX9_fill_24 rfl (lv_at hl 2 rfl) ?_
      obtain ⟨σ9, v10, h11, hf⟩ := hy_bd_some hf
      refine hy_cv (As := [.int x1, .int x2]) (rest := []) (o := (σ9, v10)) cw_fix hA B w (fun sz => mX1_pour l G sz σ5 x1 x2 _ h11) (cwV 2 B.1.2.2.2.2 gX9_fill_X1_pour rfl rfl rfl (by decide +kernel) ⟨by have := hR.1; show 0 + 1 ≤ _; omega, by have := hR.2; show 8 + (3 + 11) + 0 ≤ _; omega⟩) rfl (cwq_4 G σ5) rfl hl.1 rfl (Nat.le_of_ble_eq_true rfl) dX9_fill_25 ⟨Nat.zero_le _, Nat.zero_le _⟩ (fun H locs w => ?_)
      exact hret _ _ _ _ _ _ (Option.some.inj hf).symm w dX9_fill_28
    · exact absurd ho h8
  · exact absurd ho h4
set_option maxHeartbeats 4000000 in
set_option maxRecDepth 100000 in
theorem mX9_fill (l : Launch) (G : hy_G) (sz : Nat) (σ : hy_S) (x1 : Int32) (x2 : Int32) (o : hy_S × Int32 × Nat) (hf : fX9_fill σ x1 x2 = some o) (ho : o.2.2 = 0) : hy_M l yX9_fill wsX9_fill ({ frames := 7, cells := 0, slots := 0, locals := 104 }) cw G σ sz [.ref (G.2.2.2.1 0), .int x1, .int x2] (o.1, o.2.1) := by
  refine Met.ofW (cc := cX9_fill) (maxL := 3) (ret := (some .int)) (by decide +kernel) rfl ?_
  intro p e s m args below meth c s₁ B hml hv
  obtain ⟨rfl, hsz, hP, hK, hD0, hN⟩ := hv
  have hx := B.exec
  have hb := B.bytes
  have hr := B.returns
  have hts := atoms_spec (ws := wsX9_fill) B.pre
  have hown : s.vm.findClass RX9 = some m.cls := findClass_of_methodNamed B.named
  have hlocks := B.notSynchronized
  subst hsz
  have hD := hD0.self (sz := s.heap.size)
  have hA : ∀ q : Nat, s.heap.size ≤ q → va_A (cw G σ) s.heap.size q := fun q h => Or.inr h
  have hS : va_S (va_A (cw G σ) s.heap.size) s.heap s.heap [] := va_S.rf
  have hl := lv_entry ([.ref (G.2.2.2.1 0), .int x1, .int x2]) (n := 3) (Nat.le_of_ble_eq_true rfl)
  rw [lg_entry_eq]
  generalize (lg_sl ([.ref (G.2.2.2.1 0), .int x1, .int x2]) ++ List.replicate (3 - (lg_sl ([.ref (G.2.2.2.1 0), .int x1, .int x2])).length) Slot.unset).toArray = ls at hl ⊢
  have hl : lv_has ls 3 [(0, .ref (G.2.2.2.1 0)), (1, .int x1), (2, .int x2)] := hl
  refine bX9_fill_0 (A := va_A (cw G σ) s.heap.size) hA ⟨⟨hx, hb, hml, hown, hts⟩, hK, hN⟩ ⟨Nat.le_of_ble_eq_true rfl, Nat.le_of_ble_eq_true rfl⟩ (o := o) ho (fun τ v pc H locs ls ho w d => ?_) σ x1 x2 _ _ _ hf ⟨hP, hD, hS⟩ hl
  exact W.iret hx hb hr (fun t ht hW => ⟨⟨v, τ, rfl, ⟨by rw [ho], by rw [ho]⟩, by have h9 := w.1; rw [← ht] at h9; exact h9⟩, w.2.2.F ht⟩) w.2.2.2.2 d
set_option maxHeartbeats 4000000 in
set_option maxRecDepth 100000 in
theorem tbX9_fill_0 (hA : ∀ q : Nat, s.heap.size ≤ q → A q) (B : hy_B RX9 cX9_fill 3 wsX9_fill G A p s m args c) (hR : 7 ≤ R.frames ∧ 104 ≤ R.locals) {o : hy_S × Int32 × Nat}  (ho : ¬ o.2.2 = 0) (hT : hy_TC l R meth c) (σ : hy_S) (x1 : Int32) (x2 : Int32) (H : Heap) (locs : List Loc) (ls : Array Slot) (hf : fX9_fill σ x1 x2 = some o) (w : hy_w cw G A s σ H locs) (hl : lv_has ls 3 [(0, .ref (G.2.2.2.1 0)), (1, .int x1), (2, .int x2)]) : W p l e R s m args below meth c H locs 0 0 (vx_MQ below Qc (hy_X cw G o A) args s 1 6 A) (F0 m 0 ls []) := by
  unfold fX9_fill at hf
  refine lv_iload_n B.1.1 B.1.2.1 dX9_fill_0 rfl (lv_at hl 1 rfl) ?_
  refine lv_aload_n B.1.1 B.1.2.1 dX9_fill_1 rfl (lv_at hl 0 rfl) ?_
  refine hy_get (k := 3) (v := .ref (G.2.2.2.1 4)) B w (cwq_0 G) rfl in_X9_fill_X9 (by decide) (by decide +kernel) rfl dX9_fill_2 ?_
  refine hy_getN (k := 7) (v := .int (σ.2 4)) B w (cwq_4 G) rfl in_X9_fill_X1 (by decide) (by decide +kernel) rfl dX9_fill_5 ?_
  rcases hy_bt_some hf with ⟨σ1, v2, h3, hf⟩ | ⟨h3, h4⟩
  · refine hy_csv (As := [.int x1, .int (σ.2 4)]) (rest := []) (o := (σ1, v2)) cw_fix hA B w (fun sz => mX9_needIndex l G sz σ x1 (σ.2 4) _ h3 rfl) (cwS 2 B.1.2.2.2.2 gX9_fill_X9_needIndex rfl rfl rfl (by decide +kernel) ⟨by have := hR.1; show 6 + 1 ≤ _; omega, by have := hR.2; show 8 + (2 + 11) + 82 ≤ _; omega⟩) rfl hl.1 rfl (Nat.le_of_ble_eq_true rfl) dX9_fill_8 ⟨Nat.zero_le _, Nat.zero_le _⟩ (fun H locs w => ?_)
    refine lv_iload_n B.1.1 B.1.2.1 dX9_fill_11 rfl (lv_at hl 2 rfl) ?_
    refine lv_iconst (v := 1) B.1.1 B.1.2.1 dX9_fill_12 (by decide) ?_
    refine lv_sipush (v := 200) B.1.1 B.1.2.1 dX9_fill_13 (by decide) ?_
    rcases hy_bt_some hf with ⟨σ5, v6, h7, hf⟩ | ⟨h7, h8⟩
    · refine hy_csv (As := [.int x2, .int 1, .int 200]) (rest := []) (o := (σ5, v6)) cw_fix hA B w (fun sz => mX9_needNumber l G sz σ1 x2 1 200 _ h7 rfl) (cwS 3 B.1.2.2.2.2 gX9_fill_X9_needNumber rfl rfl rfl (by decide +kernel) ⟨by have := hR.1; show 6 + 1 ≤ _; omega, by have := hR.2; show 8 + (3 + 11) + 82 ≤ _; omega⟩) rfl hl.1 rfl (Nat.le_of_ble_eq_true rfl) dX9_fill_16 ⟨Nat.zero_le _, Nat.zero_le _⟩ (fun H locs w => ?_)
      refine lv_aload_n B.1.1 B.1.2.1 dX9_fill_19 rfl (lv_at hl 0 rfl) ?_
      refine hy_get (k := 3) (v := .ref (G.2.2.2.1 4)) B w (cwq_0 G) rfl in_X9_fill_X9 (by decide) (by decide +kernel) rfl dX9_fill_20 ?_
      refine lv_iload_n B.1.1 B.1.2.1 dX9_fill_23 rfl (lv_at hl 1 rfl) ?_
      refine lv_iload_n B.1.1 B.1.2.1 dX9_fill_24 rfl (lv_at hl 2 rfl) ?_
      obtain ⟨σ9, v10, h11, hf⟩ := hy_bd_some hf
      refine hy_cv (As := [.int x1, .int x2]) (rest := []) (o := (σ9, v10)) cw_fix hA B w (fun sz => mX1_pour l G sz σ5 x1 x2 _ h11) (cwV 2 B.1.2.2.2.2 gX9_fill_X1_pour rfl rfl rfl (by decide +kernel) ⟨by have := hR.1; show 0 + 1 ≤ _; omega, by have := hR.2; show 8 + (3 + 11) + 0 ≤ _; omega⟩) rfl (cwq_4 G σ5) rfl hl.1 rfl (Nat.le_of_ble_eq_true rfl) dX9_fill_25 ⟨Nat.zero_le _, Nat.zero_le _⟩ (fun H locs w => ?_)
      exact absurd (congrArg (fun z => z.2.2) (Option.some.inj hf)).symm ho
    · exact hy_tsv (As := [.int x2, .int 1, .int 200]) (rest := []) hA B w hT (fun sz => tX9_needNumber l hT.1 G sz σ1 x2 1 200 _ h7 h8) (cwS 3 B.1.2.2.2.2 gX9_fill_X9_needNumber rfl rfl rfl (by decide +kernel) ⟨by have := hR.1; show 6 + 1 ≤ _; omega, by have := hR.2; show 8 + (3 + 11) + 82 ≤ _; omega⟩) rfl hl.1 rfl (Nat.le_of_ble_eq_true rfl) dX9_fill_16
  · exact hy_tsv (As := [.int x1, .int (σ.2 4)]) (rest := []) hA B w hT (fun sz => tX9_needIndex l hT.1 G sz σ x1 (σ.2 4) _ h3 h4) (cwS 2 B.1.2.2.2.2 gX9_fill_X9_needIndex rfl rfl rfl (by decide +kernel) ⟨by have := hR.1; show 6 + 1 ≤ _; omega, by have := hR.2; show 8 + (2 + 11) + 82 ≤ _; omega⟩) rfl hl.1 rfl (Nat.le_of_ble_eq_true rfl) dX9_fill_8
set_option maxHeartbeats 4000000 in
set_option maxRecDepth 100000 in
theorem tX9_fill (l : Launch) (hlt : l.stackTraces = false) (G : hy_G) (sz : Nat) (σ : hy_S) (x1 : Int32) (x2 : Int32) (o : hy_S × Int32 × Nat) (hf : fX9_fill σ x1 x2 = some o) (ho : ¬ o.2.2 = 0) : hy_MT l yX9_fill wsX9_fill ({ frames := 7, cells := 1, slots := 6, locals := 104 }) cw G σ sz [.ref (G.2.2.2.1 0), .int x1, .int x2] o := by
  refine vx_ofW (cc := cX9_fill) (maxL := 3) (ret := (some .int)) (by decide +kernel) rfl ?_
  intro p e s m args below meth c s₁ B hml h0 hv
  obtain ⟨rfl, hsz, hP, hK, hD0, hN⟩ := hv
  have hx := B.exec
  have hb := B.bytes
  have hr := B.returns
  have hts := atoms_spec (ws := wsX9_fill) B.pre
  have hown : s.vm.findClass RX9 = some m.cls := findClass_of_methodNamed B.named
  have hlocks := B.notSynchronized
  subst hsz
  have hD := hD0.self (sz := s.heap.size)
  have hA : ∀ q : Nat, s.heap.size ≤ q → va_A (cw G σ) s.heap.size q := fun q h => Or.inr h
  have hS : va_S (va_A (cw G σ) s.heap.size) s.heap s.heap [] := va_S.rf
  have hl := lv_entry ([.ref (G.2.2.2.1 0), .int x1, .int x2]) (n := 3) (Nat.le_of_ble_eq_true rfl)
  rw [lg_entry_eq]
  generalize (lg_sl ([.ref (G.2.2.2.1 0), .int x1, .int x2]) ++ List.replicate (3 - (lg_sl ([.ref (G.2.2.2.1 0), .int x1, .int x2])).length) Slot.unset).toArray = ls at hl ⊢
  have hl : lv_has ls 3 [(0, .ref (G.2.2.2.1 0)), (1, .int x1), (2, .int x2)] := hl
  exact tbX9_fill_0 (A := va_A (cw G σ) s.heap.size) hA ⟨⟨hx, hb, hml, hown, hts⟩, hK, hN⟩ ⟨Nat.le_of_ble_eq_true rfl, Nat.le_of_ble_eq_true rfl⟩ (o := o) ho ⟨hlt, hlocks, h0, Nat.le_refl _, Nat.le_refl _⟩ σ x1 x2 _ _ _ hf ⟨hP, hD, hS⟩ hl
theorem in_X9_ship_X0 : ∀ w ∈ u_ws RX0 TX0 4, w ∈ wsX9_ship := fun _ h => xt1 (xl (xr (h)))
theorem in_X9_ship_X9 : ∀ w ∈ u_ws RX9 TX9 11, w ∈ wsX9_ship := fun _ h => xt1 (xl (xl (xr (h))))
noncomputable def fX9_ship (σ : hy_S) : Option (hy_S × Int32 × Nat) := hy_bt (fX9_needPlace σ (σ.2 5) 4) some (fun σ1 v2 => hy_bd (fX0_add σ1) (fun σ5 v6 => some (σ5, v6, 0)))
set_option maxHeartbeats 4000000 in
set_option maxRecDepth 100000 in
theorem bX9_ship_0 (hA : ∀ q : Nat, s.heap.size ≤ q → A q) (B : hy_B RX9 cX9_ship 1 wsX9_ship G A p s m args c) (hR : 7 ≤ R.frames ∧ 103 ≤ R.locals) {o : hy_S × Int32 × Nat}  (ho : o.2.2 = 0) (hret : ∀ (σ : hy_S) (v : Int32) (pc : Nat) (H : Heap) (locs : List Loc) (ls : Array Slot), o = (σ, v, 0) → hy_w cw G A s σ H locs → decode cX9_ship pc = .ok (.ireturn, 1) → W p l e R s m args below meth c H locs 0 0 Q (F0 m pc ls [.int v])) (σ : hy_S) (H : Heap) (locs : List Loc) (ls : Array Slot) (hf : fX9_ship σ = some o) (w : hy_w cw G A s σ H locs) (hl : lv_has ls 1 [(0, .ref (G.2.2.2.1 0))]) : W p l e R s m args below meth c H locs 0 0 Q (F0 m 0 ls []) := by
  unfold fX9_ship at hf
  refine lv_aload_n B.1.1 B.1.2.1 dX9_ship_0 rfl (lv_at hl 0 rfl) ?_
  refine hy_get (k := 4) (v := .ref (G.2.2.2.1 5)) B w (cwq_0 G) rfl in_X9_ship_X9 (by decide) (by decide +kernel) rfl dX9_ship_1 ?_
  refine hy_getN (k := 3) (v := .int (σ.2 5)) B w (cwq_5 G) rfl in_X9_ship_X0 (by decide) (by decide +kernel) rfl dX9_ship_4 ?_
  refine lv_iconst (v := 4) B.1.1 B.1.2.1 dX9_ship_7 (by decide) ?_
  rcases hy_bt_some hf with ⟨σ1, v2, h3, hf⟩ | ⟨h3, h4⟩
  · refine hy_csv (As := [.int (σ.2 5), .int 4]) (rest := []) (o := (σ1, v2)) cw_fix hA B w (fun sz => mX9_needPlace l G sz σ (σ.2 5) 4 _ h3 rfl) (cwS 2 B.1.2.2.2.2 gX9_ship_X9_needPlace rfl rfl rfl (by decide +kernel) ⟨by have := hR.1; show 6 + 1 ≤ _; omega, by have := hR.2; show 8 + (2 + 11) + 82 ≤ _; omega⟩) rfl hl.1 rfl (Nat.le_of_ble_eq_true rfl) dX9_ship_8 ⟨Nat.zero_le _, Nat.zero_le _⟩ (fun H locs w => ?_)
    refine lv_aload_n B.1.1 B.1.2.1 dX9_ship_11 rfl (lv_at hl 0 rfl) ?_
    refine hy_get (k := 4) (v := .ref (G.2.2.2.1 5)) B w (cwq_0 G) rfl in_X9_ship_X9 (by decide) (by decide +kernel) rfl dX9_ship_12 ?_
    obtain ⟨σ5, v6, h7, hf⟩ := hy_bd_some hf
    refine hy_cv (As := []) (rest := []) (o := (σ5, v6)) cw_fix hA B w (fun sz => mX0_add l G sz σ1  _ h7) (cwV 0 B.1.2.2.2.2 gX9_ship_X0_add rfl rfl rfl (by decide +kernel) ⟨by have := hR.1; show 0 + 1 ≤ _; omega, by have := hR.2; show 8 + (1 + 11) + 0 ≤ _; omega⟩) rfl (cwq_5 G σ1) rfl hl.1 rfl (Nat.le_of_ble_eq_true rfl) dX9_ship_15 ⟨Nat.zero_le _, Nat.zero_le _⟩ (fun H locs w => ?_)
    exact hret _ _ _ _ _ _ (Option.some.inj hf).symm w dX9_ship_18
  · exact absurd ho h4
set_option maxHeartbeats 4000000 in
set_option maxRecDepth 100000 in
theorem mX9_ship (l : Launch) (G : hy_G) (sz : Nat) (σ : hy_S) (o : hy_S × Int32 × Nat) (hf : fX9_ship σ = some o) (ho : o.2.2 = 0) : hy_M l yX9_ship wsX9_ship ({ frames := 7, cells := 0, slots := 0, locals := 103 }) cw G σ sz [.ref (G.2.2.2.1 0)] (o.1, o.2.1) := by
  refine Met.ofW (cc := cX9_ship) (maxL := 1) (ret := (some .int)) (by decide +kernel) rfl ?_
  intro p e s m args below meth c s₁ B hml hv
  obtain ⟨rfl, hsz, hP, hK, hD0, hN⟩ := hv
  have hx := B.exec
  have hb := B.bytes
  have hr := B.returns
  have hts := atoms_spec (ws := wsX9_ship) B.pre
  have hown : s.vm.findClass RX9 = some m.cls := findClass_of_methodNamed B.named
  have hlocks := B.notSynchronized
  subst hsz
  have hD := hD0.self (sz := s.heap.size)
  have hA : ∀ q : Nat, s.heap.size ≤ q → va_A (cw G σ) s.heap.size q := fun q h => Or.inr h
  have hS : va_S (va_A (cw G σ) s.heap.size) s.heap s.heap [] := va_S.rf
  have hl := lv_entry ([.ref (G.2.2.2.1 0)]) (n := 1) (Nat.le_of_ble_eq_true rfl)
  rw [lg_entry_eq]
  generalize (lg_sl ([.ref (G.2.2.2.1 0)]) ++ List.replicate (1 - (lg_sl ([.ref (G.2.2.2.1 0)])).length) Slot.unset).toArray = ls at hl ⊢
  have hl : lv_has ls 1 [(0, .ref (G.2.2.2.1 0))] := hl
  refine bX9_ship_0 (A := va_A (cw G σ) s.heap.size) hA ⟨⟨hx, hb, hml, hown, hts⟩, hK, hN⟩ ⟨Nat.le_of_ble_eq_true rfl, Nat.le_of_ble_eq_true rfl⟩ (o := o) ho (fun τ v pc H locs ls ho w d => ?_) σ _ _ _ hf ⟨hP, hD, hS⟩ hl
  exact W.iret hx hb hr (fun t ht hW => ⟨⟨v, τ, rfl, ⟨by rw [ho], by rw [ho]⟩, by have h9 := w.1; rw [← ht] at h9; exact h9⟩, w.2.2.F ht⟩) w.2.2.2.2 d
set_option maxHeartbeats 4000000 in
set_option maxRecDepth 100000 in
theorem tbX9_ship_0 (hA : ∀ q : Nat, s.heap.size ≤ q → A q) (B : hy_B RX9 cX9_ship 1 wsX9_ship G A p s m args c) (hR : 7 ≤ R.frames ∧ 103 ≤ R.locals) {o : hy_S × Int32 × Nat}  (ho : ¬ o.2.2 = 0) (hT : hy_TC l R meth c) (σ : hy_S) (H : Heap) (locs : List Loc) (ls : Array Slot) (hf : fX9_ship σ = some o) (w : hy_w cw G A s σ H locs) (hl : lv_has ls 1 [(0, .ref (G.2.2.2.1 0))]) : W p l e R s m args below meth c H locs 0 0 (vx_MQ below Qc (hy_X cw G o A) args s 1 6 A) (F0 m 0 ls []) := by
  unfold fX9_ship at hf
  refine lv_aload_n B.1.1 B.1.2.1 dX9_ship_0 rfl (lv_at hl 0 rfl) ?_
  refine hy_get (k := 4) (v := .ref (G.2.2.2.1 5)) B w (cwq_0 G) rfl in_X9_ship_X9 (by decide) (by decide +kernel) rfl dX9_ship_1 ?_
  refine hy_getN (k := 3) (v := .int (σ.2 5)) B w (cwq_5 G) rfl in_X9_ship_X0 (by decide) (by decide +kernel) rfl dX9_ship_4 ?_
  refine lv_iconst (v := 4) B.1.1 B.1.2.1 dX9_ship_7 (by decide) ?_
  rcases hy_bt_some hf with ⟨σ1, v2, h3, hf⟩ | ⟨h3, h4⟩
  · refine hy_csv (As := [.int (σ.2 5), .int 4]) (rest := []) (o := (σ1, v2)) cw_fix hA B w (fun sz => mX9_needPlace l G sz σ (σ.2 5) 4 _ h3 rfl) (cwS 2 B.1.2.2.2.2 gX9_ship_X9_needPlace rfl rfl rfl (by decide +kernel) ⟨by have := hR.1; show 6 + 1 ≤ _; omega, by have := hR.2; show 8 + (2 + 11) + 82 ≤ _; omega⟩) rfl hl.1 rfl (Nat.le_of_ble_eq_true rfl) dX9_ship_8 ⟨Nat.zero_le _, Nat.zero_le _⟩ (fun H locs w => ?_)
    refine lv_aload_n B.1.1 B.1.2.1 dX9_ship_11 rfl (lv_at hl 0 rfl) ?_
    refine hy_get (k := 4) (v := .ref (G.2.2.2.1 5)) B w (cwq_0 G) rfl in_X9_ship_X9 (by decide) (by decide +kernel) rfl dX9_ship_12 ?_
    obtain ⟨σ5, v6, h7, hf⟩ := hy_bd_some hf
    refine hy_cv (As := []) (rest := []) (o := (σ5, v6)) cw_fix hA B w (fun sz => mX0_add l G sz σ1  _ h7) (cwV 0 B.1.2.2.2.2 gX9_ship_X0_add rfl rfl rfl (by decide +kernel) ⟨by have := hR.1; show 0 + 1 ≤ _; omega, by have := hR.2; show 8 + (1 + 11) + 0 ≤ _; omega⟩) rfl (cwq_5 G σ1) rfl hl.1 rfl (Nat.le_of_ble_eq_true rfl) dX9_ship_15 ⟨Nat.zero_le _, Nat.zero_le _⟩ (fun H locs w => ?_)
    exact absurd (congrArg (fun z => z.2.2) (Option.some.inj hf)).symm ho
  · exact hy_tsv (As := [.int (σ.2 5), .int 4]) (rest := []) hA B w hT (fun sz => tX9_needPlace l hT.1 G sz σ (σ.2 5) 4 _ h3 h4) (cwS 2 B.1.2.2.2.2 gX9_ship_X9_needPlace rfl rfl rfl (by decide +kernel) ⟨by have := hR.1; show 6 + 1 ≤ _; omega, by have := hR.2; show 8 + (2 + 11) + 82 ≤ _; omega⟩) rfl hl.1 rfl (Nat.le_of_ble_eq_true rfl) dX9_ship_8
set_option maxHeartbeats 4000000 in
set_option maxRecDepth 100000 in
theorem tX9_ship (l : Launch) (hlt : l.stackTraces = false) (G : hy_G) (sz : Nat) (σ : hy_S) (o : hy_S × Int32 × Nat) (hf : fX9_ship σ = some o) (ho : ¬ o.2.2 = 0) : hy_MT l yX9_ship wsX9_ship ({ frames := 7, cells := 1, slots := 6, locals := 103 }) cw G σ sz [.ref (G.2.2.2.1 0)] o := by
  refine vx_ofW (cc := cX9_ship) (maxL := 1) (ret := (some .int)) (by decide +kernel) rfl ?_
  intro p e s m args below meth c s₁ B hml h0 hv
  obtain ⟨rfl, hsz, hP, hK, hD0, hN⟩ := hv
  have hx := B.exec
  have hb := B.bytes
  have hr := B.returns
  have hts := atoms_spec (ws := wsX9_ship) B.pre
  have hown : s.vm.findClass RX9 = some m.cls := findClass_of_methodNamed B.named
  have hlocks := B.notSynchronized
  subst hsz
  have hD := hD0.self (sz := s.heap.size)
  have hA : ∀ q : Nat, s.heap.size ≤ q → va_A (cw G σ) s.heap.size q := fun q h => Or.inr h
  have hS : va_S (va_A (cw G σ) s.heap.size) s.heap s.heap [] := va_S.rf
  have hl := lv_entry ([.ref (G.2.2.2.1 0)]) (n := 1) (Nat.le_of_ble_eq_true rfl)
  rw [lg_entry_eq]
  generalize (lg_sl ([.ref (G.2.2.2.1 0)]) ++ List.replicate (1 - (lg_sl ([.ref (G.2.2.2.1 0)])).length) Slot.unset).toArray = ls at hl ⊢
  have hl : lv_has ls 1 [(0, .ref (G.2.2.2.1 0))] := hl
  exact tbX9_ship_0 (A := va_A (cw G σ) s.heap.size) hA ⟨⟨hx, hb, hml, hown, hts⟩, hK, hN⟩ ⟨Nat.le_of_ble_eq_true rfl, Nat.le_of_ble_eq_true rfl⟩ (o := o) ho ⟨hlt, hlocks, h0, Nat.le_refl _, Nat.le_refl _⟩ σ _ _ _ hf ⟨hP, hD, hS⟩ hl
theorem in_X9_load_X1 : ∀ w ∈ u_ws RX1 TX1 8, w ∈ wsX9_load := fun _ h => xt1 (xl (xl (xl (xr (h)))))
theorem in_X9_load_X9 : ∀ w ∈ u_ws RX9 TX9 11, w ∈ wsX9_load := fun _ h => xt1 (xl (xl (xl (xl (xr (h))))))
noncomputable def fX9_load (σ : hy_S) (x1 : Int32) (x2 : Int32) (x3 : Int32) : Option (hy_S × Int32 × Nat) := hy_bt (fX9_needIndex σ x1 (σ.2 4)) some (fun σ1 v2 => hy_bt (fX9_needHold σ1 x2 x3) some (fun σ5 v6 => hy_bd (fX0_pileOf σ5 x2 x3) (fun σ9 v10 => hy_bd (fX0_put σ9 x1 v10) (fun σ12 v13 => hy_ck (v13 = 0 ∨ v13 = 1) (some (σ12, v13, 0))))))
set_option maxHeartbeats 4000000 in
set_option maxRecDepth 100000 in
theorem bX9_load_0 (hA : ∀ q : Nat, s.heap.size ≤ q → A q) (B : hy_B RX9 cX9_load 4 wsX9_load G A p s m args c) (hR : 8 ≤ R.frames ∧ 125 ≤ R.locals) {o : hy_S × Int32 × Nat}  (ho : o.2.2 = 0) (hret : ∀ (σ : hy_S) (v : Int32) (pc : Nat) (H : Heap) (locs : List Loc) (ls : Array Slot), o = (σ, v, 0) → (v = 0 ∨ v = 1) → hy_w cw G A s σ H locs → decode cX9_load pc = .ok (.ireturn, 1) → W p l e R s m args below meth c H locs 0 0 Q (F0 m pc ls [.int v])) (σ : hy_S) (x1 : Int32) (x2 : Int32) (x3 : Int32) (H : Heap) (locs : List Loc) (ls : Array Slot) (hf : fX9_load σ x1 x2 x3 = some o) (w : hy_w cw G A s σ H locs) (hl : lv_has ls 4 [(0, .ref (G.2.2.2.1 0)), (1, .int x1), (2, .int x2), (3, .int x3)]) : W p l e R s m args below meth c H locs 0 0 Q (F0 m 0 ls []) := by
  unfold fX9_load at hf
  refine lv_iload_n B.1.1 B.1.2.1 dX9_load_0 rfl (lv_at hl 1 rfl) ?_
  refine lv_aload_n B.1.1 B.1.2.1 dX9_load_1 rfl (lv_at hl 0 rfl) ?_
  refine hy_get (k := 3) (v := .ref (G.2.2.2.1 4)) B w (cwq_0 G) rfl in_X9_load_X9 (by decide) (by decide +kernel) rfl dX9_load_2 ?_
  refine hy_getN (k := 7) (v := .int (σ.2 4)) B w (cwq_4 G) rfl in_X9_load_X1 (by decide) (by decide +kernel) rfl dX9_load_5 ?_
  rcases hy_bt_some hf with ⟨σ1, v2, h3, hf⟩ | ⟨h3, h4⟩
  · refine hy_csv (As := [.int x1, .int (σ.2 4)]) (rest := []) (o := (σ1, v2)) cw_fix hA B w (fun sz => mX9_needIndex l G sz σ x1 (σ.2 4) _ h3 rfl) (cwS 2 B.1.2.2.2.2 gX9_load_X9_needIndex rfl rfl rfl (by decide +kernel) ⟨by have := hR.1; show 6 + 1 ≤ _; omega, by have := hR.2; show 8 + (2 + 11) + 82 ≤ _; omega⟩) rfl hl.1 rfl (Nat.le_of_ble_eq_true rfl) dX9_load_8 ⟨Nat.zero_le _, Nat.zero_le _⟩ (fun H locs w => ?_)
    refine lv_aload_n B.1.1 B.1.2.1 dX9_load_11 rfl (lv_at hl 0 rfl) ?_
    refine lv_iload_n B.1.1 B.1.2.1 dX9_load_12 rfl (lv_at hl 2 rfl) ?_
    refine lv_iload_n B.1.1 B.1.2.1 dX9_load_13 rfl (lv_at hl 3 rfl) ?_
    rcases hy_bt_some hf with ⟨σ5, v6, h7, hf⟩ | ⟨h7, h8⟩
    · refine hy_cvv (As := [.int x2, .int x3]) (rest := []) (o := (σ5, v6)) cw_fix hA B w (fun sz => mX9_needHold l G sz σ1 x2 x3 _ h7 rfl) (cwV 2 B.1.2.2.2.2 gX9_load_X9_needHold rfl rfl rfl (by decide +kernel) ⟨by have := hR.1; show 7 + 1 ≤ _; omega, by have := hR.2; show 8 + (3 + 11) + 103 ≤ _; omega⟩) rfl (cwq_0 G σ1) rfl hl.1 rfl (Nat.le_of_ble_eq_true rfl) dX9_load_14 ⟨Nat.zero_le _, Nat.zero_le _⟩ (fun H locs w => ?_)
      refine lv_aload_n B.1.1 B.1.2.1 dX9_load_17 rfl (lv_at hl 0 rfl) ?_
      refine hy_get (k := 4) (v := .ref (G.2.2.2.1 5)) B w (cwq_0 G) rfl in_X9_load_X9 (by decide) (by decide +kernel) rfl dX9_load_18 ?_
      refine lv_iload_n B.1.1 B.1.2.1 dX9_load_21 rfl (lv_at hl 1 rfl) ?_
      refine lv_iload_n B.1.1 B.1.2.1 dX9_load_22 rfl (lv_at hl 2 rfl) ?_
      refine lv_iload_n B.1.1 B.1.2.1 dX9_load_23 rfl (lv_at hl 3 rfl) ?_
      obtain ⟨σ9, v10, h11, hf⟩ := hy_bd_some hf
      refine hy_cs (As := [.int x2, .int x3]) (rest := [.int x1, .ref (G.2.2.2.1 5)]) (o := (σ9, v10)) cw_fix hA B w (fun sz => mX0_pileOf l G sz σ5 x2 x3 _ h11) (va_cwS 2 B.1.2.2.2.2 gX9_load_X0_pileOf rfl rfl rfl (by decide +kernel) ⟨by have := hR.1; show 0 + 1 ≤ _; omega, by have := hR.2; show 8 + (2 + 11) + 0 ≤ _; omega⟩) rfl hl.1 rfl (Nat.le_of_ble_eq_true rfl) dX9_load_24 ⟨Nat.zero_le _, Nat.zero_le _⟩ (fun H locs w => ?_)
      obtain ⟨σ12, v13, h14, hf⟩ := hy_bd_some hf
      refine hy_cv (As := [.int x1, .int v10]) (rest := []) (o := (σ12, v13)) cw_fix hA B w (fun sz => mX0_put l G sz σ9 x1 v10 _ h14) (cwV 2 B.1.2.2.2.2 gX9_load_X0_put rfl rfl rfl (by decide +kernel) ⟨by have := hR.1; show 2 + 1 ≤ _; omega, by have := hR.2; show 8 + (3 + 11) + 46 ≤ _; omega⟩) rfl (cwq_5 G σ9) rfl hl.1 rfl (Nat.le_of_ble_eq_true rfl) dX9_load_27 ⟨Nat.zero_le _, Nat.zero_le _⟩ (fun H locs w => ?_)
      obtain ⟨c15, hf⟩ := hy_ck_some hf
      exact hret _ _ _ _ _ _ (Option.some.inj hf).symm c15 w dX9_load_30
    · exact absurd ho h8
  · exact absurd ho h4
set_option maxHeartbeats 4000000 in
set_option maxRecDepth 100000 in
theorem mX9_load (l : Launch) (G : hy_G) (sz : Nat) (σ : hy_S) (x1 : Int32) (x2 : Int32) (x3 : Int32) (o : hy_S × Int32 × Nat) (hf : fX9_load σ x1 x2 x3 = some o) (ho : o.2.2 = 0) : hy_M l yX9_load wsX9_load ({ frames := 8, cells := 0, slots := 0, locals := 125 }) cw G σ sz [.ref (G.2.2.2.1 0), .int x1, .int x2, .int x3] (o.1, o.2.1) := by
  refine Met.ofW (cc := cX9_load) (maxL := 4) (ret := (some .boolean)) (by decide +kernel) rfl ?_
  intro p e s m args below meth c s₁ B hml hv
  obtain ⟨rfl, hsz, hP, hK, hD0, hN⟩ := hv
  have hx := B.exec
  have hb := B.bytes
  have hr := B.returns
  have hts := atoms_spec (ws := wsX9_load) B.pre
  have hown : s.vm.findClass RX9 = some m.cls := findClass_of_methodNamed B.named
  have hlocks := B.notSynchronized
  subst hsz
  have hD := hD0.self (sz := s.heap.size)
  have hA : ∀ q : Nat, s.heap.size ≤ q → va_A (cw G σ) s.heap.size q := fun q h => Or.inr h
  have hS : va_S (va_A (cw G σ) s.heap.size) s.heap s.heap [] := va_S.rf
  have hl := lv_entry ([.ref (G.2.2.2.1 0), .int x1, .int x2, .int x3]) (n := 4) (Nat.le_of_ble_eq_true rfl)
  rw [lg_entry_eq]
  generalize (lg_sl ([.ref (G.2.2.2.1 0), .int x1, .int x2, .int x3]) ++ List.replicate (4 - (lg_sl ([.ref (G.2.2.2.1 0), .int x1, .int x2, .int x3])).length) Slot.unset).toArray = ls at hl ⊢
  have hl : lv_has ls 4 [(0, .ref (G.2.2.2.1 0)), (1, .int x1), (2, .int x2), (3, .int x3)] := hl
  refine bX9_load_0 (A := va_A (cw G σ) s.heap.size) hA ⟨⟨hx, hb, hml, hown, hts⟩, hK, hN⟩ ⟨Nat.le_of_ble_eq_true rfl, Nat.le_of_ble_eq_true rfl⟩ (o := o) ho (fun τ v pc H locs ls ho hz w d => ?_) σ x1 x2 x3 _ _ _ hf ⟨hP, hD, hS⟩ hl
  exact W.zret hx hb hr (hy_bool hz) (fun t ht hW => ⟨⟨v, τ, rfl, ⟨by rw [ho], by rw [ho]⟩, by have h9 := w.1; rw [← ht] at h9; exact h9⟩, w.2.2.F ht⟩) w.2.2.2.2 d
set_option maxHeartbeats 4000000 in
set_option maxRecDepth 100000 in
theorem tbX9_load_0 (hA : ∀ q : Nat, s.heap.size ≤ q → A q) (B : hy_B RX9 cX9_load 4 wsX9_load G A p s m args c) (hR : 8 ≤ R.frames ∧ 125 ≤ R.locals) {o : hy_S × Int32 × Nat}  (ho : ¬ o.2.2 = 0) (hT : hy_TC l R meth c) (σ : hy_S) (x1 : Int32) (x2 : Int32) (x3 : Int32) (H : Heap) (locs : List Loc) (ls : Array Slot) (hf : fX9_load σ x1 x2 x3 = some o) (w : hy_w cw G A s σ H locs) (hl : lv_has ls 4 [(0, .ref (G.2.2.2.1 0)), (1, .int x1), (2, .int x2), (3, .int x3)]) : W p l e R s m args below meth c H locs 0 0 (vx_MQ below Qc (hy_X cw G o A) args s 1 6 A) (F0 m 0 ls []) := by
  unfold fX9_load at hf
  refine lv_iload_n B.1.1 B.1.2.1 dX9_load_0 rfl (lv_at hl 1 rfl) ?_
  refine lv_aload_n B.1.1 B.1.2.1 dX9_load_1 rfl (lv_at hl 0 rfl) ?_
  refine hy_get (k := 3) (v := .ref (G.2.2.2.1 4)) B w (cwq_0 G) rfl in_X9_load_X9 (by decide) (by decide +kernel) rfl dX9_load_2 ?_
  refine hy_getN (k := 7) (v := .int (σ.2 4)) B w (cwq_4 G) rfl in_X9_load_X1 (by decide) (by decide +kernel) rfl dX9_load_5 ?_
  rcases hy_bt_some hf with ⟨σ1, v2, h3, hf⟩ | ⟨h3, h4⟩
  · refine hy_csv (As := [.int x1, .int (σ.2 4)]) (rest := []) (o := (σ1, v2)) cw_fix hA B w (fun sz => mX9_needIndex l G sz σ x1 (σ.2 4) _ h3 rfl) (cwS 2 B.1.2.2.2.2 gX9_load_X9_needIndex rfl rfl rfl (by decide +kernel) ⟨by have := hR.1; show 6 + 1 ≤ _; omega, by have := hR.2; show 8 + (2 + 11) + 82 ≤ _; omega⟩) rfl hl.1 rfl (Nat.le_of_ble_eq_true rfl) dX9_load_8 ⟨Nat.zero_le _, Nat.zero_le _⟩ (fun H locs w => ?_)
    refine lv_aload_n B.1.1 B.1.2.1 dX9_load_11 rfl (lv_at hl 0 rfl) ?_
    refine lv_iload_n B.1.1 B.1.2.1 dX9_load_12 rfl (lv_at hl 2 rfl) ?_
    refine lv_iload_n B.1.1 B.1.2.1 dX9_load_13 rfl (lv_at hl 3 rfl) ?_
    rcases hy_bt_some hf with ⟨σ5, v6, h7, hf⟩ | ⟨h7, h8⟩
    · refine hy_cvv (As := [.int x2, .int x3]) (rest := []) (o := (σ5, v6)) cw_fix hA B w (fun sz => mX9_needHold l G sz σ1 x2 x3 _ h7 rfl) (cwV 2 B.1.2.2.2.2 gX9_load_X9_needHold rfl rfl rfl (by decide +kernel) ⟨by have := hR.1; show 7 + 1 ≤ _; omega, by have := hR.2; show 8 + (3 + 11) + 103 ≤ _; omega⟩) rfl (cwq_0 G σ1) rfl hl.1 rfl (Nat.le_of_ble_eq_true rfl) dX9_load_14 ⟨Nat.zero_le _, Nat.zero_le _⟩ (fun H locs w => ?_)
      refine lv_aload_n B.1.1 B.1.2.1 dX9_load_17 rfl (lv_at hl 0 rfl) ?_
      refine hy_get (k := 4) (v := .ref (G.2.2.2.1 5)) B w (cwq_0 G) rfl in_X9_load_X9 (by decide) (by decide +kernel) rfl dX9_load_18 ?_
      refine lv_iload_n B.1.1 B.1.2.1 dX9_load_21 rfl (lv_at hl 1 rfl) ?_
      refine lv_iload_n B.1.1 B.1.2.1 dX9_load_22 rfl (lv_at hl 2 rfl) ?_
      refine lv_iload_n B.1.1 B.1.2.1 dX9_load_23 rfl (lv_at hl 3 rfl) ?_
      obtain ⟨σ9, v10, h11, hf⟩ := hy_bd_some hf
      refine hy_cs (As := [.int x2, .int x3]) (rest := [.int x1, .ref (G.2.2.2.1 5)]) (o := (σ9, v10)) cw_fix hA B w (fun sz => mX0_pileOf l G sz σ5 x2 x3 _ h11) (va_cwS 2 B.1.2.2.2.2 gX9_load_X0_pileOf rfl rfl rfl (by decide +kernel) ⟨by have := hR.1; show 0 + 1 ≤ _; omega, by have := hR.2; show 8 + (2 + 11) + 0 ≤ _; omega⟩) rfl hl.1 rfl (Nat.le_of_ble_eq_true rfl) dX9_load_24 ⟨Nat.zero_le _, Nat.zero_le _⟩ (fun H locs w => ?_)
      obtain ⟨σ12, v13, h14, hf⟩ := hy_bd_some hf
      refine hy_cv (As := [.int x1, .int v10]) (rest := []) (o := (σ12, v13)) cw_fix hA B w (fun sz => mX0_put l G sz σ9 x1 v10 _ h14) (cwV 2 B.1.2.2.2.2 gX9_load_X0_put rfl rfl rfl (by decide +kernel) ⟨by have := hR.1; show 2 + 1 ≤ _; omega, by have := hR.2; show 8 + (3 + 11) + 46 ≤ _; omega⟩) rfl (cwq_5 G σ9) rfl hl.1 rfl (Nat.le_of_ble_eq_true rfl) dX9_load_27 ⟨Nat.zero_le _, Nat.zero_le _⟩ (fun H locs w => ?_)
      obtain ⟨c15, hf⟩ := hy_ck_some hf
      exact absurd (congrArg (fun z => z.2.2) (Option.some.inj hf)).symm ho
    · exact hy_tvv (As := [.int x2, .int x3]) (rest := []) hA B w hT (fun sz => tX9_needHold l hT.1 G sz σ1 x2 x3 _ h7 h8) (cwV 2 B.1.2.2.2.2 gX9_load_X9_needHold rfl rfl rfl (by decide +kernel) ⟨by have := hR.1; show 7 + 1 ≤ _; omega, by have := hR.2; show 8 + (3 + 11) + 103 ≤ _; omega⟩) rfl (cwq_0 G σ1) rfl hl.1 rfl (Nat.le_of_ble_eq_true rfl) dX9_load_14
  · exact hy_tsv (As := [.int x1, .int (σ.2 4)]) (rest := []) hA B w hT (fun sz => tX9_needIndex l hT.1 G sz σ x1 (σ.2 4) _ h3 h4) (cwS 2 B.1.2.2.2.2 gX9_load_X9_needIndex rfl rfl rfl (by decide +kernel) ⟨by have := hR.1; show 6 + 1 ≤ _; omega, by have := hR.2; show 8 + (2 + 11) + 82 ≤ _; omega⟩) rfl hl.1 rfl (Nat.le_of_ble_eq_true rfl) dX9_load_8
set_option maxHeartbeats 4000000 in
set_option maxRecDepth 100000 in
theorem tX9_load (l : Launch) (hlt : l.stackTraces = false) (G : hy_G) (sz : Nat) (σ : hy_S) (x1 : Int32) (x2 : Int32) (x3 : Int32) (o : hy_S × Int32 × Nat) (hf : fX9_load σ x1 x2 x3 = some o) (ho : ¬ o.2.2 = 0) : hy_MT l yX9_load wsX9_load ({ frames := 8, cells := 1, slots := 6, locals := 125 }) cw G σ sz [.ref (G.2.2.2.1 0), .int x1, .int x2, .int x3] o := by
  refine vx_ofW (cc := cX9_load) (maxL := 4) (ret := (some .boolean)) (by decide +kernel) rfl ?_
  intro p e s m args below meth c s₁ B hml h0 hv
  obtain ⟨rfl, hsz, hP, hK, hD0, hN⟩ := hv
  have hx := B.exec
  have hb := B.bytes
  have hr := B.returns
  have hts := atoms_spec (ws := wsX9_load) B.pre
  have hown : s.vm.findClass RX9 = some m.cls := findClass_of_methodNamed B.named
  have hlocks := B.notSynchronized
  subst hsz
  have hD := hD0.self (sz := s.heap.size)
  have hA : ∀ q : Nat, s.heap.size ≤ q → va_A (cw G σ) s.heap.size q := fun q h => Or.inr h
  have hS : va_S (va_A (cw G σ) s.heap.size) s.heap s.heap [] := va_S.rf
  have hl := lv_entry ([.ref (G.2.2.2.1 0), .int x1, .int x2, .int x3]) (n := 4) (Nat.le_of_ble_eq_true rfl)
  rw [lg_entry_eq]
  generalize (lg_sl ([.ref (G.2.2.2.1 0), .int x1, .int x2, .int x3]) ++ List.replicate (4 - (lg_sl ([.ref (G.2.2.2.1 0), .int x1, .int x2, .int x3])).length) Slot.unset).toArray = ls at hl ⊢
  have hl : lv_has ls 4 [(0, .ref (G.2.2.2.1 0)), (1, .int x1), (2, .int x2), (3, .int x3)] := hl
  exact tbX9_load_0 (A := va_A (cw G σ) s.heap.size) hA ⟨⟨hx, hb, hml, hown, hts⟩, hK, hN⟩ ⟨Nat.le_of_ble_eq_true rfl, Nat.le_of_ble_eq_true rfl⟩ (o := o) ho ⟨hlt, hlocks, h0, Nat.le_refl _, Nat.le_refl _⟩ σ x1 x2 x3 _ _ _ hf ⟨hP, hD, hS⟩ hl
theorem in_X9_land_X9 : ∀ w ∈ u_ws RX9 TX9 11, w ∈ wsX9_land := fun _ h => xt1 (xl (xl (xl (xr (h)))))
noncomputable def fX9_land (σ : hy_S) (x1 : Int32) (x2 : Int32) : Option (hy_S × Int32 × Nat) := hy_bt (fX9_needHold σ x1 x2) some (fun σ1 v2 => hy_bd (fX0_pileOf σ1 x1 x2) (fun σ5 v6 => hy_bd (fX0_takeTop σ5 v6) (fun σ8 v9 => some (σ8, v9, 0))))
set_option maxHeartbeats 4000000 in
set_option maxRecDepth 100000 in
theorem bX9_land_0 (hA : ∀ q : Nat, s.heap.size ≤ q → A q) (B : hy_B RX9 cX9_land 3 wsX9_land G A p s m args c) (hR : 8 ≤ R.frames ∧ 125 ≤ R.locals) {o : hy_S × Int32 × Nat}  (ho : o.2.2 = 0) (hret : ∀ (σ : hy_S) (v : Int32) (pc : Nat) (H : Heap) (locs : List Loc) (ls : Array Slot), o = (σ, v, 0) → hy_w cw G A s σ H locs → decode cX9_land pc = .ok (.ireturn, 1) → W p l e R s m args below meth c H locs 0 0 Q (F0 m pc ls [.int v])) (σ : hy_S) (x1 : Int32) (x2 : Int32) (H : Heap) (locs : List Loc) (ls : Array Slot) (hf : fX9_land σ x1 x2 = some o) (w : hy_w cw G A s σ H locs) (hl : lv_has ls 3 [(0, .ref (G.2.2.2.1 0)), (1, .int x1), (2, .int x2)]) : W p l e R s m args below meth c H locs 0 0 Q (F0 m 0 ls []) := by
  unfold fX9_land at hf
  refine lv_aload_n B.1.1 B.1.2.1 dX9_land_0 rfl (lv_at hl 0 rfl) ?_
  refine lv_iload_n B.1.1 B.1.2.1 dX9_land_1 rfl (lv_at hl 1 rfl) ?_
  refine lv_iload_n B.1.1 B.1.2.1 dX9_land_2 rfl (lv_at hl 2 rfl) ?_
  rcases hy_bt_some hf with ⟨σ1, v2, h3, hf⟩ | ⟨h3, h4⟩
  · refine hy_cvv (As := [.int x1, .int x2]) (rest := []) (o := (σ1, v2)) cw_fix hA B w (fun sz => mX9_needHold l G sz σ x1 x2 _ h3 rfl) (cwV 2 B.1.2.2.2.2 gX9_land_X9_needHold rfl rfl rfl (by decide +kernel) ⟨by have := hR.1; show 7 + 1 ≤ _; omega, by have := hR.2; show 8 + (3 + 11) + 103 ≤ _; omega⟩) rfl (cwq_0 G σ) rfl hl.1 rfl (Nat.le_of_ble_eq_true rfl) dX9_land_3 ⟨Nat.zero_le _, Nat.zero_le _⟩ (fun H locs w => ?_)
    refine lv_aload_n B.1.1 B.1.2.1 dX9_land_6 rfl (lv_at hl 0 rfl) ?_
    refine hy_get (k := 4) (v := .ref (G.2.2.2.1 5)) B w (cwq_0 G) rfl in_X9_land_X9 (by decide) (by decide +kernel) rfl dX9_land_7 ?_
    refine lv_iload_n B.1.1 B.1.2.1 dX9_land_10 rfl (lv_at hl 1 rfl) ?_
    refine lv_iload_n B.1.1 B.1.2.1 dX9_land_11 rfl (lv_at hl 2 rfl) ?_
    obtain ⟨σ5, v6, h7, hf⟩ := hy_bd_some hf
    refine hy_cs (As := [.int x1, .int x2]) (rest := [.ref (G.2.2.2.1 5)]) (o := (σ5, v6)) cw_fix hA B w (fun sz => mX0_pileOf l G sz σ1 x1 x2 _ h7) (va_cwS 2 B.1.2.2.2.2 gX9_land_X0_pileOf rfl rfl rfl (by decide +kernel) ⟨by have := hR.1; show 0 + 1 ≤ _; omega, by have := hR.2; show 8 + (2 + 11) + 0 ≤ _; omega⟩) rfl hl.1 rfl (Nat.le_of_ble_eq_true rfl) dX9_land_12 ⟨Nat.zero_le _, Nat.zero_le _⟩ (fun H locs w => ?_)
    obtain ⟨σ8, v9, h10, hf⟩ := hy_bd_some hf
    refine hy_cv (As := [.int v6]) (rest := []) (o := (σ8, v9)) cw_fix hA B w (fun sz => mX0_takeTop l G sz σ5 v6 _ h10) (cwV 1 B.1.2.2.2.2 gX9_land_X0_takeTop rfl rfl rfl (by decide +kernel) ⟨by have := hR.1; show 1 + 1 ≤ _; omega, by have := hR.2; show 8 + (3 + 11) + 23 ≤ _; omega⟩) rfl (cwq_5 G σ5) rfl hl.1 rfl (Nat.le_of_ble_eq_true rfl) dX9_land_15 ⟨Nat.zero_le _, Nat.zero_le _⟩ (fun H locs w => ?_)
    exact hret _ _ _ _ _ _ (Option.some.inj hf).symm w dX9_land_18
  · exact absurd ho h4
set_option maxHeartbeats 4000000 in
set_option maxRecDepth 100000 in
theorem mX9_land (l : Launch) (G : hy_G) (sz : Nat) (σ : hy_S) (x1 : Int32) (x2 : Int32) (o : hy_S × Int32 × Nat) (hf : fX9_land σ x1 x2 = some o) (ho : o.2.2 = 0) : hy_M l yX9_land wsX9_land ({ frames := 8, cells := 0, slots := 0, locals := 125 }) cw G σ sz [.ref (G.2.2.2.1 0), .int x1, .int x2] (o.1, o.2.1) := by
  refine Met.ofW (cc := cX9_land) (maxL := 3) (ret := (some .int)) (by decide +kernel) rfl ?_
  intro p e s m args below meth c s₁ B hml hv
  obtain ⟨rfl, hsz, hP, hK, hD0, hN⟩ := hv
  have hx := B.exec
  have hb := B.bytes
  have hr := B.returns
  have hts := atoms_spec (ws := wsX9_land) B.pre
  have hown : s.vm.findClass RX9 = some m.cls := findClass_of_methodNamed B.named
  have hlocks := B.notSynchronized
  subst hsz
  have hD := hD0.self (sz := s.heap.size)
  have hA : ∀ q : Nat, s.heap.size ≤ q → va_A (cw G σ) s.heap.size q := fun q h => Or.inr h
  have hS : va_S (va_A (cw G σ) s.heap.size) s.heap s.heap [] := va_S.rf
  have hl := lv_entry ([.ref (G.2.2.2.1 0), .int x1, .int x2]) (n := 3) (Nat.le_of_ble_eq_true rfl)
  rw [lg_entry_eq]
  generalize (lg_sl ([.ref (G.2.2.2.1 0), .int x1, .int x2]) ++ List.replicate (3 - (lg_sl ([.ref (G.2.2.2.1 0), .int x1, .int x2])).length) Slot.unset).toArray = ls at hl ⊢
  have hl : lv_has ls 3 [(0, .ref (G.2.2.2.1 0)), (1, .int x1), (2, .int x2)] := hl
  refine bX9_land_0 (A := va_A (cw G σ) s.heap.size) hA ⟨⟨hx, hb, hml, hown, hts⟩, hK, hN⟩ ⟨Nat.le_of_ble_eq_true rfl, Nat.le_of_ble_eq_true rfl⟩ (o := o) ho (fun τ v pc H locs ls ho w d => ?_) σ x1 x2 _ _ _ hf ⟨hP, hD, hS⟩ hl
  exact W.iret hx hb hr (fun t ht hW => ⟨⟨v, τ, rfl, ⟨by rw [ho], by rw [ho]⟩, by have h9 := w.1; rw [← ht] at h9; exact h9⟩, w.2.2.F ht⟩) w.2.2.2.2 d
set_option maxHeartbeats 4000000 in
set_option maxRecDepth 100000 in
theorem tbX9_land_0 (hA : ∀ q : Nat, s.heap.size ≤ q → A q) (B : hy_B RX9 cX9_land 3 wsX9_land G A p s m args c) (hR : 8 ≤ R.frames ∧ 125 ≤ R.locals) {o : hy_S × Int32 × Nat}  (ho : ¬ o.2.2 = 0) (hT : hy_TC l R meth c) (σ : hy_S) (x1 : Int32) (x2 : Int32) (H : Heap) (locs : List Loc) (ls : Array Slot) (hf : fX9_land σ x1 x2 = some o) (w : hy_w cw G A s σ H locs) (hl : lv_has ls 3 [(0, .ref (G.2.2.2.1 0)), (1, .int x1), (2, .int x2)]) : W p l e R s m args below meth c H locs 0 0 (vx_MQ below Qc (hy_X cw G o A) args s 1 6 A) (F0 m 0 ls []) := by
  unfold fX9_land at hf
  refine lv_aload_n B.1.1 B.1.2.1 dX9_land_0 rfl (lv_at hl 0 rfl) ?_
  refine lv_iload_n B.1.1 B.1.2.1 dX9_land_1 rfl (lv_at hl 1 rfl) ?_
  refine lv_iload_n B.1.1 B.1.2.1 dX9_land_2 rfl (lv_at hl 2 rfl) ?_
  rcases hy_bt_some hf with ⟨σ1, v2, h3, hf⟩ | ⟨h3, h4⟩
  · refine hy_cvv (As := [.int x1, .int x2]) (rest := []) (o := (σ1, v2)) cw_fix hA B w (fun sz => mX9_needHold l G sz σ x1 x2 _ h3 rfl) (cwV 2 B.1.2.2.2.2 gX9_land_X9_needHold rfl rfl rfl (by decide +kernel) ⟨by have := hR.1; show 7 + 1 ≤ _; omega, by have := hR.2; show 8 + (3 + 11) + 103 ≤ _; omega⟩) rfl (cwq_0 G σ) rfl hl.1 rfl (Nat.le_of_ble_eq_true rfl) dX9_land_3 ⟨Nat.zero_le _, Nat.zero_le _⟩ (fun H locs w => ?_)
    refine lv_aload_n B.1.1 B.1.2.1 dX9_land_6 rfl (lv_at hl 0 rfl) ?_
    refine hy_get (k := 4) (v := .ref (G.2.2.2.1 5)) B w (cwq_0 G) rfl in_X9_land_X9 (by decide) (by decide +kernel) rfl dX9_land_7 ?_
    refine lv_iload_n B.1.1 B.1.2.1 dX9_land_10 rfl (lv_at hl 1 rfl) ?_
    refine lv_iload_n B.1.1 B.1.2.1 dX9_land_11 rfl (lv_at hl 2 rfl) ?_
    obtain ⟨σ5, v6, h7, hf⟩ := hy_bd_some hf
    refine hy_cs (As := [.int x1, .int x2]) (rest := [.ref (G.2.2.2.1 5)]) (o := (σ5, v6)) cw_fix hA B w (fun sz => mX0_pileOf l G sz σ1 x1 x2 _ h7) (va_cwS 2 B.1.2.2.2.2 gX9_land_X0_pileOf rfl rfl rfl (by decide +kernel) ⟨by have := hR.1; show 0 + 1 ≤ _; omega, by have := hR.2; show 8 + (2 + 11) + 0 ≤ _; omega⟩) rfl hl.1 rfl (Nat.le_of_ble_eq_true rfl) dX9_land_12 ⟨Nat.zero_le _, Nat.zero_le _⟩ (fun H locs w => ?_)
    obtain ⟨σ8, v9, h10, hf⟩ := hy_bd_some hf
    refine hy_cv (As := [.int v6]) (rest := []) (o := (σ8, v9)) cw_fix hA B w (fun sz => mX0_takeTop l G sz σ5 v6 _ h10) (cwV 1 B.1.2.2.2.2 gX9_land_X0_takeTop rfl rfl rfl (by decide +kernel) ⟨by have := hR.1; show 1 + 1 ≤ _; omega, by have := hR.2; show 8 + (3 + 11) + 23 ≤ _; omega⟩) rfl (cwq_5 G σ5) rfl hl.1 rfl (Nat.le_of_ble_eq_true rfl) dX9_land_15 ⟨Nat.zero_le _, Nat.zero_le _⟩ (fun H locs w => ?_)
    exact absurd (congrArg (fun z => z.2.2) (Option.some.inj hf)).symm ho
  · exact hy_tvv (As := [.int x1, .int x2]) (rest := []) hA B w hT (fun sz => tX9_needHold l hT.1 G sz σ x1 x2 _ h3 h4) (cwV 2 B.1.2.2.2.2 gX9_land_X9_needHold rfl rfl rfl (by decide +kernel) ⟨by have := hR.1; show 7 + 1 ≤ _; omega, by have := hR.2; show 8 + (3 + 11) + 103 ≤ _; omega⟩) rfl (cwq_0 G σ) rfl hl.1 rfl (Nat.le_of_ble_eq_true rfl) dX9_land_3
set_option maxHeartbeats 4000000 in
set_option maxRecDepth 100000 in
theorem tX9_land (l : Launch) (hlt : l.stackTraces = false) (G : hy_G) (sz : Nat) (σ : hy_S) (x1 : Int32) (x2 : Int32) (o : hy_S × Int32 × Nat) (hf : fX9_land σ x1 x2 = some o) (ho : ¬ o.2.2 = 0) : hy_MT l yX9_land wsX9_land ({ frames := 8, cells := 1, slots := 6, locals := 125 }) cw G σ sz [.ref (G.2.2.2.1 0), .int x1, .int x2] o := by
  refine vx_ofW (cc := cX9_land) (maxL := 3) (ret := (some .int)) (by decide +kernel) rfl ?_
  intro p e s m args below meth c s₁ B hml h0 hv
  obtain ⟨rfl, hsz, hP, hK, hD0, hN⟩ := hv
  have hx := B.exec
  have hb := B.bytes
  have hr := B.returns
  have hts := atoms_spec (ws := wsX9_land) B.pre
  have hown : s.vm.findClass RX9 = some m.cls := findClass_of_methodNamed B.named
  have hlocks := B.notSynchronized
  subst hsz
  have hD := hD0.self (sz := s.heap.size)
  have hA : ∀ q : Nat, s.heap.size ≤ q → va_A (cw G σ) s.heap.size q := fun q h => Or.inr h
  have hS : va_S (va_A (cw G σ) s.heap.size) s.heap s.heap [] := va_S.rf
  have hl := lv_entry ([.ref (G.2.2.2.1 0), .int x1, .int x2]) (n := 3) (Nat.le_of_ble_eq_true rfl)
  rw [lg_entry_eq]
  generalize (lg_sl ([.ref (G.2.2.2.1 0), .int x1, .int x2]) ++ List.replicate (3 - (lg_sl ([.ref (G.2.2.2.1 0), .int x1, .int x2])).length) Slot.unset).toArray = ls at hl ⊢
  have hl : lv_has ls 3 [(0, .ref (G.2.2.2.1 0)), (1, .int x1), (2, .int x2)] := hl
  exact tbX9_land_0 (A := va_A (cw G σ) s.heap.size) hA ⟨⟨hx, hb, hml, hown, hts⟩, hK, hN⟩ ⟨Nat.le_of_ble_eq_true rfl, Nat.le_of_ble_eq_true rfl⟩ (o := o) ho ⟨hlt, hlocks, h0, Nat.le_refl _, Nat.le_refl _⟩ σ x1 x2 _ _ _ hf ⟨hP, hD, hS⟩ hl
theorem in_X9_storm_X0 : ∀ w ∈ u_ws RX0 TX0 4, w ∈ wsX9_storm := fun _ h => xt1 (xl (xl (xl (xl (xr (h))))))
theorem in_X9_storm_X9 : ∀ w ∈ u_ws RX9 TX9 11, w ∈ wsX9_storm := fun _ h => xt1 (xl (xl (xl (xl (xl (xr (h)))))))
noncomputable def fX9_storm (σ : hy_S) (x1 : Int32) (x2 : Int32) : Option (hy_S × Int32 × Nat) := hy_bt (fX9_needIndex σ x1 (σ.2 5)) some (fun σ1 v2 => hy_bt (fX9_needNumber σ1 x2 0 100) some (fun σ5 v6 => hy_bd (fX0_shake σ5 x1 x2) (fun σ9 v10 => some (σ9, v10, 0))))
set_option maxHeartbeats 4000000 in
set_option maxRecDepth 100000 in
theorem bX9_storm_0 (hA : ∀ q : Nat, s.heap.size ≤ q → A q) (B : hy_B RX9 cX9_storm 3 wsX9_storm G A p s m args c) (hR : 7 ≤ R.frames ∧ 104 ≤ R.locals) {o : hy_S × Int32 × Nat}  (ho : o.2.2 = 0) (hret : ∀ (σ : hy_S) (v : Int32) (pc : Nat) (H : Heap) (locs : List Loc) (ls : Array Slot), o = (σ, v, 0) → hy_w cw G A s σ H locs → decode cX9_storm pc = .ok (.ireturn, 1) → W p l e R s m args below meth c H locs 0 0 Q (F0 m pc ls [.int v])) (σ : hy_S) (x1 : Int32) (x2 : Int32) (H : Heap) (locs : List Loc) (ls : Array Slot) (hf : fX9_storm σ x1 x2 = some o) (w : hy_w cw G A s σ H locs) (hl : lv_has ls 3 [(0, .ref (G.2.2.2.1 0)), (1, .int x1), (2, .int x2)]) : W p l e R s m args below meth c H locs 0 0 Q (F0 m 0 ls []) := by
  unfold fX9_storm at hf
  refine lv_iload_n B.1.1 B.1.2.1 dX9_storm_0 rfl (lv_at hl 1 rfl) ?_
  refine lv_aload_n B.1.1 B.1.2.1 dX9_storm_1 rfl (lv_at hl 0 rfl) ?_
  refine hy_get (k := 4) (v := .ref (G.2.2.2.1 5)) B w (cwq_0 G) rfl in_X9_storm_X9 (by decide) (by decide +kernel) rfl dX9_storm_2 ?_
  refine hy_getN (k := 3) (v := .int (σ.2 5)) B w (cwq_5 G) rfl in_X9_storm_X0 (by decide) (by decide +kernel) rfl dX9_storm_5 ?_
  rcases hy_bt_some hf with ⟨σ1, v2, h3, hf⟩ | ⟨h3, h4⟩
  · refine hy_csv (As := [.int x1, .int (σ.2 5)]) (rest := []) (o := (σ1, v2)) cw_fix hA B w (fun sz => mX9_needIndex l G sz σ x1 (σ.2 5) _ h3 rfl) (cwS 2 B.1.2.2.2.2 gX9_storm_X9_needIndex rfl rfl rfl (by decide +kernel) ⟨by have := hR.1; show 6 + 1 ≤ _; omega, by have := hR.2; show 8 + (2 + 11) + 82 ≤ _; omega⟩) rfl hl.1 rfl (Nat.le_of_ble_eq_true rfl) dX9_storm_8 ⟨Nat.zero_le _, Nat.zero_le _⟩ (fun H locs w => ?_)
    refine lv_iload_n B.1.1 B.1.2.1 dX9_storm_11 rfl (lv_at hl 2 rfl) ?_
    refine lv_iconst (v := 0) B.1.1 B.1.2.1 dX9_storm_12 (by decide) ?_
    refine lv_bipush (v := 100) B.1.1 B.1.2.1 dX9_storm_13 (by decide) ?_
    rcases hy_bt_some hf with ⟨σ5, v6, h7, hf⟩ | ⟨h7, h8⟩
    · refine hy_csv (As := [.int x2, .int 0, .int 100]) (rest := []) (o := (σ5, v6)) cw_fix hA B w (fun sz => mX9_needNumber l G sz σ1 x2 0 100 _ h7 rfl) (cwS 3 B.1.2.2.2.2 gX9_storm_X9_needNumber rfl rfl rfl (by decide +kernel) ⟨by have := hR.1; show 6 + 1 ≤ _; omega, by have := hR.2; show 8 + (3 + 11) + 82 ≤ _; omega⟩) rfl hl.1 rfl (Nat.le_of_ble_eq_true rfl) dX9_storm_15 ⟨Nat.zero_le _, Nat.zero_le _⟩ (fun H locs w => ?_)
      refine lv_aload_n B.1.1 B.1.2.1 dX9_storm_18 rfl (lv_at hl 0 rfl) ?_
      refine hy_get (k := 4) (v := .ref (G.2.2.2.1 5)) B w (cwq_0 G) rfl in_X9_storm_X9 (by decide) (by decide +kernel) rfl dX9_storm_19 ?_
      refine lv_iload_n B.1.1 B.1.2.1 dX9_storm_22 rfl (lv_at hl 1 rfl) ?_
      refine lv_iload_n B.1.1 B.1.2.1 dX9_storm_23 rfl (lv_at hl 2 rfl) ?_
      obtain ⟨σ9, v10, h11, hf⟩ := hy_bd_some hf
      refine hy_cv (As := [.int x1, .int x2]) (rest := []) (o := (σ9, v10)) cw_fix hA B w (fun sz => mX0_shake l G sz σ5 x1 x2 _ h11) (cwV 2 B.1.2.2.2.2 gX9_storm_X0_shake rfl rfl rfl (by decide +kernel) ⟨by have := hR.1; show 3 + 1 ≤ _; omega, by have := hR.2; show 8 + (7 + 11) + 69 ≤ _; omega⟩) rfl (cwq_5 G σ5) rfl hl.1 rfl (Nat.le_of_ble_eq_true rfl) dX9_storm_24 ⟨Nat.zero_le _, Nat.zero_le _⟩ (fun H locs w => ?_)
      exact hret _ _ _ _ _ _ (Option.some.inj hf).symm w dX9_storm_27
    · exact absurd ho h8
  · exact absurd ho h4
set_option maxHeartbeats 4000000 in
set_option maxRecDepth 100000 in
theorem mX9_storm (l : Launch) (G : hy_G) (sz : Nat) (σ : hy_S) (x1 : Int32) (x2 : Int32) (o : hy_S × Int32 × Nat) (hf : fX9_storm σ x1 x2 = some o) (ho : o.2.2 = 0) : hy_M l yX9_storm wsX9_storm ({ frames := 7, cells := 0, slots := 0, locals := 104 }) cw G σ sz [.ref (G.2.2.2.1 0), .int x1, .int x2] (o.1, o.2.1) := by
  refine Met.ofW (cc := cX9_storm) (maxL := 3) (ret := (some .int)) (by decide +kernel) rfl ?_
  intro p e s m args below meth c s₁ B hml hv
  obtain ⟨rfl, hsz, hP, hK, hD0, hN⟩ := hv
  have hx := B.exec
  have hb := B.bytes
  have hr := B.returns
  have hts := atoms_spec (ws := wsX9_storm) B.pre
  have hown : s.vm.findClass RX9 = some m.cls := findClass_of_methodNamed B.named
  have hlocks := B.notSynchronized
  subst hsz
  have hD := hD0.self (sz := s.heap.size)
  have hA : ∀ q : Nat, s.heap.size ≤ q → va_A (cw G σ) s.heap.size q := fun q h => Or.inr h
  have hS : va_S (va_A (cw G σ) s.heap.size) s.heap s.heap [] := va_S.rf
  have hl := lv_entry ([.ref (G.2.2.2.1 0), .int x1, .int x2]) (n := 3) (Nat.le_of_ble_eq_true rfl)
  rw [lg_entry_eq]
  generalize (lg_sl ([.ref (G.2.2.2.1 0), .int x1, .int x2]) ++ List.replicate (3 - (lg_sl ([.ref (G.2.2.2.1 0), .int x1, .int x2])).length) Slot.unset).toArray = ls at hl ⊢
  have hl : lv_has ls 3 [(0, .ref (G.2.2.2.1 0)), (1, .int x1), (2, .int x2)] := hl
  refine bX9_storm_0 (A := va_A (cw G σ) s.heap.size) hA ⟨⟨hx, hb, hml, hown, hts⟩, hK, hN⟩ ⟨Nat.le_of_ble_eq_true rfl, Nat.le_of_ble_eq_true rfl⟩ (o := o) ho (fun τ v pc H locs ls ho w d => ?_) σ x1 x2 _ _ _ hf ⟨hP, hD, hS⟩ hl
  exact W.iret hx hb hr (fun t ht hW => ⟨⟨v, τ, rfl, ⟨by rw [ho], by rw [ho]⟩, by have h9 := w.1; rw [← ht] at h9; exact h9⟩, w.2.2.F ht⟩) w.2.2.2.2 d
set_option maxHeartbeats 4000000 in
set_option maxRecDepth 100000 in
theorem tbX9_storm_0 (hA : ∀ q : Nat, s.heap.size ≤ q → A q) (B : hy_B RX9 cX9_storm 3 wsX9_storm G A p s m args c) (hR : 7 ≤ R.frames ∧ 104 ≤ R.locals) {o : hy_S × Int32 × Nat}  (ho : ¬ o.2.2 = 0) (hT : hy_TC l R meth c) (σ : hy_S) (x1 : Int32) (x2 : Int32) (H : Heap) (locs : List Loc) (ls : Array Slot) (hf : fX9_storm σ x1 x2 = some o) (w : hy_w cw G A s σ H locs) (hl : lv_has ls 3 [(0, .ref (G.2.2.2.1 0)), (1, .int x1), (2, .int x2)]) : W p l e R s m args below meth c H locs 0 0 (vx_MQ below Qc (hy_X cw G o A) args s 1 6 A) (F0 m 0 ls []) := by
  unfold fX9_storm at hf
  refine lv_iload_n B.1.1 B.1.2.1 dX9_storm_0 rfl (lv_at hl 1 rfl) ?_
  refine lv_aload_n B.1.1 B.1.2.1 dX9_storm_1 rfl (lv_at hl 0 rfl) ?_
  refine hy_get (k := 4) (v := .ref (G.2.2.2.1 5)) B w (cwq_0 G) rfl in_X9_storm_X9 (by decide) (by decide +kernel) rfl dX9_storm_2 ?_
  refine hy_getN (k := 3) (v := .int (σ.2 5)) B w (cwq_5 G) rfl in_X9_storm_X0 (by decide) (by decide +kernel) rfl dX9_storm_5 ?_
  rcases hy_bt_some hf with ⟨σ1, v2, h3, hf⟩ | ⟨h3, h4⟩
  · refine hy_csv (As := [.int x1, .int (σ.2 5)]) (rest := []) (o := (σ1, v2)) cw_fix hA B w (fun sz => mX9_needIndex l G sz σ x1 (σ.2 5) _ h3 rfl) (cwS 2 B.1.2.2.2.2 gX9_storm_X9_needIndex rfl rfl rfl (by decide +kernel) ⟨by have := hR.1; show 6 + 1 ≤ _; omega, by have := hR.2; show 8 + (2 + 11) + 82 ≤ _; omega⟩) rfl hl.1 rfl (Nat.le_of_ble_eq_true rfl) dX9_storm_8 ⟨Nat.zero_le _, Nat.zero_le _⟩ (fun H locs w => ?_)
    refine lv_iload_n B.1.1 B.1.2.1 dX9_storm_11 rfl (lv_at hl 2 rfl) ?_
    refine lv_iconst (v := 0) B.1.1 B.1.2.1 dX9_storm_12 (by decide) ?_
    refine lv_bipush (v := 100) B.1.1 B.1.2.1 dX9_storm_13 (by decide) ?_
    rcases hy_bt_some hf with ⟨σ5, v6, h7, hf⟩ | ⟨h7, h8⟩
    · refine hy_csv (As := [.int x2, .int 0, .int 100]) (rest := []) (o := (σ5, v6)) cw_fix hA B w (fun sz => mX9_needNumber l G sz σ1 x2 0 100 _ h7 rfl) (cwS 3 B.1.2.2.2.2 gX9_storm_X9_needNumber rfl rfl rfl (by decide +kernel) ⟨by have := hR.1; show 6 + 1 ≤ _; omega, by have := hR.2; show 8 + (3 + 11) + 82 ≤ _; omega⟩) rfl hl.1 rfl (Nat.le_of_ble_eq_true rfl) dX9_storm_15 ⟨Nat.zero_le _, Nat.zero_le _⟩ (fun H locs w => ?_)
      refine lv_aload_n B.1.1 B.1.2.1 dX9_storm_18 rfl (lv_at hl 0 rfl) ?_
      refine hy_get (k := 4) (v := .ref (G.2.2.2.1 5)) B w (cwq_0 G) rfl in_X9_storm_X9 (by decide) (by decide +kernel) rfl dX9_storm_19 ?_
      refine lv_iload_n B.1.1 B.1.2.1 dX9_storm_22 rfl (lv_at hl 1 rfl) ?_
      refine lv_iload_n B.1.1 B.1.2.1 dX9_storm_23 rfl (lv_at hl 2 rfl) ?_
      obtain ⟨σ9, v10, h11, hf⟩ := hy_bd_some hf
      refine hy_cv (As := [.int x1, .int x2]) (rest := []) (o := (σ9, v10)) cw_fix hA B w (fun sz => mX0_shake l G sz σ5 x1 x2 _ h11) (cwV 2 B.1.2.2.2.2 gX9_storm_X0_shake rfl rfl rfl (by decide +kernel) ⟨by have := hR.1; show 3 + 1 ≤ _; omega, by have := hR.2; show 8 + (7 + 11) + 69 ≤ _; omega⟩) rfl (cwq_5 G σ5) rfl hl.1 rfl (Nat.le_of_ble_eq_true rfl) dX9_storm_24 ⟨Nat.zero_le _, Nat.zero_le _⟩ (fun H locs w => ?_)
      exact absurd (congrArg (fun z => z.2.2) (Option.some.inj hf)).symm ho
    · exact hy_tsv (As := [.int x2, .int 0, .int 100]) (rest := []) hA B w hT (fun sz => tX9_needNumber l hT.1 G sz σ1 x2 0 100 _ h7 h8) (cwS 3 B.1.2.2.2.2 gX9_storm_X9_needNumber rfl rfl rfl (by decide +kernel) ⟨by have := hR.1; show 6 + 1 ≤ _; omega, by have := hR.2; show 8 + (3 + 11) + 82 ≤ _; omega⟩) rfl hl.1 rfl (Nat.le_of_ble_eq_true rfl) dX9_storm_15
  · exact hy_tsv (As := [.int x1, .int (σ.2 5)]) (rest := []) hA B w hT (fun sz => tX9_needIndex l hT.1 G sz σ x1 (σ.2 5) _ h3 h4) (cwS 2 B.1.2.2.2.2 gX9_storm_X9_needIndex rfl rfl rfl (by decide +kernel) ⟨by have := hR.1; show 6 + 1 ≤ _; omega, by have := hR.2; show 8 + (2 + 11) + 82 ≤ _; omega⟩) rfl hl.1 rfl (Nat.le_of_ble_eq_true rfl) dX9_storm_8
set_option maxHeartbeats 4000000 in
set_option maxRecDepth 100000 in
theorem tX9_storm (l : Launch) (hlt : l.stackTraces = false) (G : hy_G) (sz : Nat) (σ : hy_S) (x1 : Int32) (x2 : Int32) (o : hy_S × Int32 × Nat) (hf : fX9_storm σ x1 x2 = some o) (ho : ¬ o.2.2 = 0) : hy_MT l yX9_storm wsX9_storm ({ frames := 7, cells := 1, slots := 6, locals := 104 }) cw G σ sz [.ref (G.2.2.2.1 0), .int x1, .int x2] o := by
  refine vx_ofW (cc := cX9_storm) (maxL := 3) (ret := (some .int)) (by decide +kernel) rfl ?_
  intro p e s m args below meth c s₁ B hml h0 hv
  obtain ⟨rfl, hsz, hP, hK, hD0, hN⟩ := hv
  have hx := B.exec
  have hb := B.bytes
  have hr := B.returns
  have hts := atoms_spec (ws := wsX9_storm) B.pre
  have hown : s.vm.findClass RX9 = some m.cls := findClass_of_methodNamed B.named
  have hlocks := B.notSynchronized
  subst hsz
  have hD := hD0.self (sz := s.heap.size)
  have hA : ∀ q : Nat, s.heap.size ≤ q → va_A (cw G σ) s.heap.size q := fun q h => Or.inr h
  have hS : va_S (va_A (cw G σ) s.heap.size) s.heap s.heap [] := va_S.rf
  have hl := lv_entry ([.ref (G.2.2.2.1 0), .int x1, .int x2]) (n := 3) (Nat.le_of_ble_eq_true rfl)
  rw [lg_entry_eq]
  generalize (lg_sl ([.ref (G.2.2.2.1 0), .int x1, .int x2]) ++ List.replicate (3 - (lg_sl ([.ref (G.2.2.2.1 0), .int x1, .int x2])).length) Slot.unset).toArray = ls at hl ⊢
  have hl : lv_has ls 3 [(0, .ref (G.2.2.2.1 0)), (1, .int x1), (2, .int x2)] := hl
  exact tbX9_storm_0 (A := va_A (cw G σ) s.heap.size) hA ⟨⟨hx, hb, hml, hown, hts⟩, hK, hN⟩ ⟨Nat.le_of_ble_eq_true rfl, Nat.le_of_ble_eq_true rfl⟩ (o := o) ho ⟨hlt, hlocks, h0, Nat.le_refl _, Nat.le_refl _⟩ σ x1 x2 _ _ _ hf ⟨hP, hD, hS⟩ hl
theorem in_X9_look_X1 : ∀ w ∈ u_ws RX1 TX1 8, w ∈ wsX9_look := fun _ h => xt1 (xl (xl (xl (xl (xr (h))))))
theorem in_X9_look_X9 : ∀ w ∈ u_ws RX9 TX9 11, w ∈ wsX9_look := fun _ h => xt1 (xl (xl (xl (xl (xl (xr (h)))))))
noncomputable def fX9_look (σ : hy_S) (x1 : Int32) (x2 : Int32) : Option (hy_S × Int32 × Nat) := hy_bt (fX9_needIndex σ x1 (σ.2 4)) some (fun σ1 v2 => (if x2 = 0 then hy_ga σ1 9 60 x1 (fun v6 => some (σ1, v6, 0)) else (if x2 = 1 then hy_ga σ1 5 60 x1 (fun v10 => some (σ1, v10, 0)) else (if x2 = 2 then hy_ga σ1 6 60 x1 (fun v14 => some (σ1, v14, 0)) else (if x2 = 3 then hy_ga σ1 7 60 x1 (fun v18 => some (σ1, v18, 0)) else (if x2 = 4 then hy_ga σ1 8 60 x1 (fun v22 => some (σ1, v22, 0)) else (if x2 = 5 then hy_bd (fX1_weight σ1 x1) (fun σ26 v27 => some (σ26, v27, 0)) else (if x2 = 6 then hy_ga σ1 10 60 x1 (fun v30 => hy_bd (fX0_shipOf σ1 v30) (fun σ33 v34 => some (σ33, v34, 0))) else (if x2 = 7 then hy_ga σ1 10 60 x1 (fun v37 => hy_bd (fX0_holdOf σ1 v37) (fun σ40 v41 => some (σ40, v41, 0))) else (if x2 = 8 then hy_bd (fX0_weightAbove σ1 x1) (fun σ44 v45 => some (σ44, v45, 0)) else some (σ1, 0, 4)))))))))))
set_option maxHeartbeats 4000000 in
set_option maxRecDepth 100000 in
theorem bX9_look_0 (hA : ∀ q : Nat, s.heap.size ≤ q → A q) (B : hy_B RX9 cX9_look 3 wsX9_look G A p s m args c) (hR : 7 ≤ R.frames ∧ 103 ≤ R.locals) {o : hy_S × Int32 × Nat}  (ho : o.2.2 = 0) (hret : ∀ (σ : hy_S) (v : Int32) (pc : Nat) (H : Heap) (locs : List Loc) (ls : Array Slot), o = (σ, v, 0) → hy_w cw G A s σ H locs → decode cX9_look pc = .ok (.ireturn, 1) → W p l e R s m args below meth c H locs 0 0 Q (F0 m pc ls [.int v])) (σ : hy_S) (x1 : Int32) (x2 : Int32) (H : Heap) (locs : List Loc) (ls : Array Slot) (hf : fX9_look σ x1 x2 = some o) (w : hy_w cw G A s σ H locs) (hl : lv_has ls 3 [(0, .ref (G.2.2.2.1 0)), (1, .int x1), (2, .int x2)]) : W p l e R s m args below meth c H locs 0 0 Q (F0 m 0 ls []) := by
  unfold fX9_look at hf
  refine lv_iload_n B.1.1 B.1.2.1 dX9_look_0 rfl (lv_at hl 1 rfl) ?_
  refine lv_aload_n B.1.1 B.1.2.1 dX9_look_1 rfl (lv_at hl 0 rfl) ?_
  refine hy_get (k := 3) (v := .ref (G.2.2.2.1 4)) B w (cwq_0 G) rfl in_X9_look_X9 (by decide) (by decide +kernel) rfl dX9_look_2 ?_
  refine hy_getN (k := 7) (v := .int (σ.2 4)) B w (cwq_4 G) rfl in_X9_look_X1 (by decide) (by decide +kernel) rfl dX9_look_5 ?_
  rcases hy_bt_some hf with ⟨σ1, v2, h3, hf⟩ | ⟨h3, h4⟩
  · refine hy_csv (As := [.int x1, .int (σ.2 4)]) (rest := []) (o := (σ1, v2)) cw_fix hA B w (fun sz => mX9_needIndex l G sz σ x1 (σ.2 4) _ h3 rfl) (cwS 2 B.1.2.2.2.2 gX9_look_X9_needIndex rfl rfl rfl (by decide +kernel) ⟨by have := hR.1; show 6 + 1 ≤ _; omega, by have := hR.2; show 8 + (2 + 11) + 82 ≤ _; omega⟩) rfl hl.1 rfl (Nat.le_of_ble_eq_true rfl) dX9_look_8 ⟨Nat.zero_le _, Nat.zero_le _⟩ (fun H locs w => ?_)
    refine lv_iload_n B.1.1 B.1.2.1 dX9_look_11 rfl (lv_at hl 2 rfl) ?_
    by_cases c5 : x2 = 0
    · rw [if_pos c5] at hf
      have c5e : Int32.toInt x2 = 0 := by rw [c5]; rfl
      refine lv_tableIn (tgt := 64) B.1.1 B.1.2.1 dX9_look_12 (by rw [c5e]; decide) (by rw [c5e]; decide) (by rw [c5e]; rfl) (by decide) ?_
      refine lv_aload_n B.1.1 B.1.2.1 dX9_look_64 rfl (lv_at hl 0 rfl) ?_
      refine hy_get (k := 3) (v := .ref (G.2.2.2.1 4)) B w (cwq_0 G) rfl in_X9_look_X9 (by decide) (by decide +kernel) rfl dX9_look_65 ?_
      refine hy_getN (k := 5) (v := .ref (G.2.2.2.1 19)) B w (cwq_4 G) rfl in_X9_look_X1 (by decide) (by decide +kernel) rfl dX9_look_68 ?_
      refine lv_iload_n B.1.1 B.1.2.1 dX9_look_71 rfl (lv_at hl 1 rfl) ?_
      obtain ⟨h8, v6, e7, hf⟩ := hy_ga_some hf
      refine hy_iald B w (cwq_19 G) h8 e7 dX9_look_72 ?_
      exact hret _ _ _ _ _ _ (Option.some.inj hf).symm w dX9_look_73
    · rw [if_neg c5] at hf
      by_cases c9 : x2 = 1
      · rw [if_pos c9] at hf
        have c9e : Int32.toInt x2 = 1 := by rw [c9]; rfl
        refine lv_tableIn (tgt := 74) B.1.1 B.1.2.1 dX9_look_12 (by rw [c9e]; decide) (by rw [c9e]; decide) (by rw [c9e]; rfl) (by decide) ?_
        refine lv_aload_n B.1.1 B.1.2.1 dX9_look_74 rfl (lv_at hl 0 rfl) ?_
        refine hy_get (k := 3) (v := .ref (G.2.2.2.1 4)) B w (cwq_0 G) rfl in_X9_look_X9 (by decide) (by decide +kernel) rfl dX9_look_75 ?_
        refine hy_getN (k := 1) (v := .ref (G.2.2.2.1 15)) B w (cwq_4 G) rfl in_X9_look_X1 (by decide) (by decide +kernel) rfl dX9_look_78 ?_
        refine lv_iload_n B.1.1 B.1.2.1 dX9_look_81 rfl (lv_at hl 1 rfl) ?_
        obtain ⟨h12, v10, e11, hf⟩ := hy_ga_some hf
        refine hy_iald B w (cwq_15 G) h12 e11 dX9_look_82 ?_
        exact hret _ _ _ _ _ _ (Option.some.inj hf).symm w dX9_look_83
      · rw [if_neg c9] at hf
        by_cases c13 : x2 = 2
        · rw [if_pos c13] at hf
          have c13e : Int32.toInt x2 = 2 := by rw [c13]; rfl
          refine lv_tableIn (tgt := 84) B.1.1 B.1.2.1 dX9_look_12 (by rw [c13e]; decide) (by rw [c13e]; decide) (by rw [c13e]; rfl) (by decide) ?_
          refine lv_aload_n B.1.1 B.1.2.1 dX9_look_84 rfl (lv_at hl 0 rfl) ?_
          refine hy_get (k := 3) (v := .ref (G.2.2.2.1 4)) B w (cwq_0 G) rfl in_X9_look_X9 (by decide) (by decide +kernel) rfl dX9_look_85 ?_
          refine hy_getN (k := 2) (v := .ref (G.2.2.2.1 16)) B w (cwq_4 G) rfl in_X9_look_X1 (by decide) (by decide +kernel) rfl dX9_look_88 ?_
          refine lv_iload_n B.1.1 B.1.2.1 dX9_look_91 rfl (lv_at hl 1 rfl) ?_
          obtain ⟨h16, v14, e15, hf⟩ := hy_ga_some hf
          refine hy_iald B w (cwq_16 G) h16 e15 dX9_look_92 ?_
          exact hret _ _ _ _ _ _ (Option.some.inj hf).symm w dX9_look_93
        · rw [if_neg c13] at hf
          by_cases c17 : x2 = 3
          · rw [if_pos c17] at hf
            have c17e : Int32.toInt x2 = 3 := by rw [c17]; rfl
            refine lv_tableIn (tgt := 94) B.1.1 B.1.2.1 dX9_look_12 (by rw [c17e]; decide) (by rw [c17e]; decide) (by rw [c17e]; rfl) (by decide) ?_
            refine lv_aload_n B.1.1 B.1.2.1 dX9_look_94 rfl (lv_at hl 0 rfl) ?_
            refine hy_get (k := 3) (v := .ref (G.2.2.2.1 4)) B w (cwq_0 G) rfl in_X9_look_X9 (by decide) (by decide +kernel) rfl dX9_look_95 ?_
            refine hy_getN (k := 3) (v := .ref (G.2.2.2.1 17)) B w (cwq_4 G) rfl in_X9_look_X1 (by decide) (by decide +kernel) rfl dX9_look_98 ?_
            refine lv_iload_n B.1.1 B.1.2.1 dX9_look_101 rfl (lv_at hl 1 rfl) ?_
            obtain ⟨h20, v18, e19, hf⟩ := hy_ga_some hf
            refine hy_iald B w (cwq_17 G) h20 e19 dX9_look_102 ?_
            exact hret _ _ _ _ _ _ (Option.some.inj hf).symm w dX9_look_103
          · rw [if_neg c17] at hf
            by_cases c21 : x2 = 4
            · rw [if_pos c21] at hf
              have c21e : Int32.toInt x2 = 4 := by rw [c21]; rfl
              refine lv_tableIn (tgt := 104) B.1.1 B.1.2.1 dX9_look_12 (by rw [c21e]; decide) (by rw [c21e]; decide) (by rw [c21e]; rfl) (by decide) ?_
              refine lv_aload_n B.1.1 B.1.2.1 dX9_look_104 rfl (lv_at hl 0 rfl) ?_
              refine hy_get (k := 3) (v := .ref (G.2.2.2.1 4)) B w (cwq_0 G) rfl in_X9_look_X9 (by decide) (by decide +kernel) rfl dX9_look_105 ?_
              refine hy_getN (k := 4) (v := .ref (G.2.2.2.1 18)) B w (cwq_4 G) rfl in_X9_look_X1 (by decide) (by decide +kernel) rfl dX9_look_108 ?_
              refine lv_iload_n B.1.1 B.1.2.1 dX9_look_111 rfl (lv_at hl 1 rfl) ?_
              obtain ⟨h24, v22, e23, hf⟩ := hy_ga_some hf
              refine hy_iald B w (cwq_18 G) h24 e23 dX9_look_112 ?_
              exact hret _ _ _ _ _ _ (Option.some.inj hf).symm w dX9_look_113
            · rw [if_neg c21] at hf
              by_cases c25 : x2 = 5
              · rw [if_pos c25] at hf
                have c25e : Int32.toInt x2 = 5 := by rw [c25]; rfl
                refine lv_tableIn (tgt := 114) B.1.1 B.1.2.1 dX9_look_12 (by rw [c25e]; decide) (by rw [c25e]; decide) (by rw [c25e]; rfl) (by decide) ?_
                refine lv_aload_n B.1.1 B.1.2.1 dX9_look_114 rfl (lv_at hl 0 rfl) ?_
                refine hy_get (k := 3) (v := .ref (G.2.2.2.1 4)) B w (cwq_0 G) rfl in_X9_look_X9 (by decide) (by decide +kernel) rfl dX9_look_115 ?_
                refine lv_iload_n B.1.1 B.1.2.1 dX9_look_118 rfl (lv_at hl 1 rfl) ?_
                obtain ⟨σ26, v27, h28, hf⟩ := hy_bd_some hf
                refine hy_cv (As := [.int x1]) (rest := []) (o := (σ26, v27)) cw_fix hA B w (fun sz => mX1_weight l G sz σ1 x1 _ h28) (cwV 1 B.1.2.2.2.2 gX9_look_X1_weight rfl rfl rfl (by decide +kernel) ⟨by have := hR.1; show 0 + 1 ≤ _; omega, by have := hR.2; show 8 + (2 + 11) + 0 ≤ _; omega⟩) rfl (cwq_4 G σ1) rfl hl.1 rfl (Nat.le_of_ble_eq_true rfl) dX9_look_119 ⟨Nat.zero_le _, Nat.zero_le _⟩ (fun H locs w => ?_)
                exact hret _ _ _ _ _ _ (Option.some.inj hf).symm w dX9_look_122
              · rw [if_neg c25] at hf
                by_cases c29 : x2 = 6
                · rw [if_pos c29] at hf
                  have c29e : Int32.toInt x2 = 6 := by rw [c29]; rfl
                  refine lv_tableIn (tgt := 123) B.1.1 B.1.2.1 dX9_look_12 (by rw [c29e]; decide) (by rw [c29e]; decide) (by rw [c29e]; rfl) (by decide) ?_
                  refine lv_aload_n B.1.1 B.1.2.1 dX9_look_123 rfl (lv_at hl 0 rfl) ?_
                  refine hy_get (k := 3) (v := .ref (G.2.2.2.1 4)) B w (cwq_0 G) rfl in_X9_look_X9 (by decide) (by decide +kernel) rfl dX9_look_124 ?_
                  refine hy_getN (k := 6) (v := .ref (G.2.2.2.1 20)) B w (cwq_4 G) rfl in_X9_look_X1 (by decide) (by decide +kernel) rfl dX9_look_127 ?_
                  refine lv_iload_n B.1.1 B.1.2.1 dX9_look_130 rfl (lv_at hl 1 rfl) ?_
                  obtain ⟨h32, v30, e31, hf⟩ := hy_ga_some hf
                  refine hy_iald B w (cwq_20 G) h32 e31 dX9_look_131 ?_
                  obtain ⟨σ33, v34, h35, hf⟩ := hy_bd_some hf
                  refine hy_cs (As := [.int v30]) (rest := []) (o := (σ33, v34)) cw_fix hA B w (fun sz => mX0_shipOf l G sz σ1 v30 _ h35) (va_cwS 1 B.1.2.2.2.2 gX9_look_X0_shipOf rfl rfl rfl (by decide +kernel) ⟨by have := hR.1; show 0 + 1 ≤ _; omega, by have := hR.2; show 8 + (1 + 11) + 0 ≤ _; omega⟩) rfl hl.1 rfl (Nat.le_of_ble_eq_true rfl) dX9_look_132 ⟨Nat.zero_le _, Nat.zero_le _⟩ (fun H locs w => ?_)
                  exact hret _ _ _ _ _ _ (Option.some.inj hf).symm w dX9_look_135
                · rw [if_neg c29] at hf
                  by_cases c36 : x2 = 7
                  · rw [if_pos c36] at hf
                    have c36e : Int32.toInt x2 = 7 := by rw [c36]; rfl
                    refine lv_tableIn (tgt := 136) B.1.1 B.1.2.1 dX9_look_12 (by rw [c36e]; decide) (by rw [c36e]; decide) (by rw [c36e]; rfl) (by decide) ?_
                    refine lv_aload_n B.1.1 B.1.2.1 dX9_look_136 rfl (lv_at hl 0 rfl) ?_
                    refine hy_get (k := 3) (v := .ref (G.2.2.2.1 4)) B w (cwq_0 G) rfl in_X9_look_X9 (by decide) (by decide +kernel) rfl dX9_look_137 ?_
                    refine hy_getN (k := 6) (v := .ref (G.2.2.2.1 20)) B w (cwq_4 G) rfl in_X9_look_X1 (by decide) (by decide +kernel) rfl dX9_look_140 ?_
                    refine lv_iload_n B.1.1 B.1.2.1 dX9_look_143 rfl (lv_at hl 1 rfl) ?_
                    obtain ⟨h39, v37, e38, hf⟩ := hy_ga_some hf
                    refine hy_iald B w (cwq_20 G) h39 e38 dX9_look_144 ?_
                    obtain ⟨σ40, v41, h42, hf⟩ := hy_bd_some hf
                    refine hy_cs (As := [.int v37]) (rest := []) (o := (σ40, v41)) cw_fix hA B w (fun sz => mX0_holdOf l G sz σ1 v37 _ h42) (va_cwS 1 B.1.2.2.2.2 gX9_look_X0_holdOf rfl rfl rfl (by decide +kernel) ⟨by have := hR.1; show 0 + 1 ≤ _; omega, by have := hR.2; show 8 + (1 + 11) + 0 ≤ _; omega⟩) rfl hl.1 rfl (Nat.le_of_ble_eq_true rfl) dX9_look_145 ⟨Nat.zero_le _, Nat.zero_le _⟩ (fun H locs w => ?_)
                    exact hret _ _ _ _ _ _ (Option.some.inj hf).symm w dX9_look_148
                  · rw [if_neg c36] at hf
                    by_cases c43 : x2 = 8
                    · rw [if_pos c43] at hf
                      have c43e : Int32.toInt x2 = 8 := by rw [c43]; rfl
                      refine lv_tableIn (tgt := 149) B.1.1 B.1.2.1 dX9_look_12 (by rw [c43e]; decide) (by rw [c43e]; decide) (by rw [c43e]; rfl) (by decide) ?_
                      refine lv_aload_n B.1.1 B.1.2.1 dX9_look_149 rfl (lv_at hl 0 rfl) ?_
                      refine hy_get (k := 4) (v := .ref (G.2.2.2.1 5)) B w (cwq_0 G) rfl in_X9_look_X9 (by decide) (by decide +kernel) rfl dX9_look_150 ?_
                      refine lv_iload_n B.1.1 B.1.2.1 dX9_look_153 rfl (lv_at hl 1 rfl) ?_
                      obtain ⟨σ44, v45, h46, hf⟩ := hy_bd_some hf
                      refine hy_cv (As := [.int x1]) (rest := []) (o := (σ44, v45)) cw_fix hA B w (fun sz => mX0_weightAbove l G sz σ1 x1 _ h46) (cwV 1 B.1.2.2.2.2 gX9_look_X0_weightAbove rfl rfl rfl (by decide +kernel) ⟨by have := hR.1; show 1 + 1 ≤ _; omega, by have := hR.2; show 8 + (6 + 11) + 21 ≤ _; omega⟩) rfl (cwq_5 G σ1) rfl hl.1 rfl (Nat.le_of_ble_eq_true rfl) dX9_look_154 ⟨Nat.zero_le _, Nat.zero_le _⟩ (fun H locs w => ?_)
                      exact hret _ _ _ _ _ _ (Option.some.inj hf).symm w dX9_look_157
                    · rw [if_neg c43] at hf
                      have c5t := lv_neT (a := 0) c5 rfl
                      have c9t := lv_neT (a := 1) c9 rfl
                      have c13t := lv_neT (a := 2) c13 rfl
                      have c17t := lv_neT (a := 3) c17 rfl
                      have c21t := lv_neT (a := 4) c21 rfl
                      have c25t := lv_neT (a := 5) c25 rfl
                      have c29t := lv_neT (a := 6) c29 rfl
                      have c36t := lv_neT (a := 7) c36 rfl
                      have c43t := lv_neT (a := 8) c43 rfl
                      refine lv_tableOut (tgt := 158) B.1.1 B.1.2.1 dX9_look_12 (by omega) (by decide) ?_
                      exact absurd ((congrArg (fun z => z.2.2) (Option.some.inj hf)).trans ho) (Nat.succ_ne_zero _)
  · exact absurd ho h4
set_option maxHeartbeats 4000000 in
set_option maxRecDepth 100000 in
theorem mX9_look (l : Launch) (G : hy_G) (sz : Nat) (σ : hy_S) (x1 : Int32) (x2 : Int32) (o : hy_S × Int32 × Nat) (hf : fX9_look σ x1 x2 = some o) (ho : o.2.2 = 0) : hy_M l yX9_look wsX9_look ({ frames := 7, cells := 0, slots := 0, locals := 103 }) cw G σ sz [.ref (G.2.2.2.1 0), .int x1, .int x2] (o.1, o.2.1) := by
  refine Met.ofW (cc := cX9_look) (maxL := 3) (ret := (some .int)) (by decide +kernel) rfl ?_
  intro p e s m args below meth c s₁ B hml hv
  obtain ⟨rfl, hsz, hP, hK, hD0, hN⟩ := hv
  have hx := B.exec
  have hb := B.bytes
  have hr := B.returns
  have hts := atoms_spec (ws := wsX9_look) B.pre
  have hown : s.vm.findClass RX9 = some m.cls := findClass_of_methodNamed B.named
  have hlocks := B.notSynchronized
  subst hsz
  have hD := hD0.self (sz := s.heap.size)
  have hA : ∀ q : Nat, s.heap.size ≤ q → va_A (cw G σ) s.heap.size q := fun q h => Or.inr h
  have hS : va_S (va_A (cw G σ) s.heap.size) s.heap s.heap [] := va_S.rf
  have hl := lv_entry ([.ref (G.2.2.2.1 0), .int x1, .int x2]) (n := 3) (Nat.le_of_ble_eq_true rfl)
  rw [lg_entry_eq]
  generalize (lg_sl ([.ref (G.2.2.2.1 0), .int x1, .int x2]) ++ List.replicate (3 - (lg_sl ([.ref (G.2.2.2.1 0), .int x1, .int x2])).length) Slot.unset).toArray = ls at hl ⊢
  have hl : lv_has ls 3 [(0, .ref (G.2.2.2.1 0)), (1, .int x1), (2, .int x2)] := hl
  refine bX9_look_0 (A := va_A (cw G σ) s.heap.size) hA ⟨⟨hx, hb, hml, hown, hts⟩, hK, hN⟩ ⟨Nat.le_of_ble_eq_true rfl, Nat.le_of_ble_eq_true rfl⟩ (o := o) ho (fun τ v pc H locs ls ho w d => ?_) σ x1 x2 _ _ _ hf ⟨hP, hD, hS⟩ hl
  exact W.iret hx hb hr (fun t ht hW => ⟨⟨v, τ, rfl, ⟨by rw [ho], by rw [ho]⟩, by have h9 := w.1; rw [← ht] at h9; exact h9⟩, w.2.2.F ht⟩) w.2.2.2.2 d
set_option maxHeartbeats 4000000 in
set_option maxRecDepth 100000 in
theorem tbX9_look_0 (hA : ∀ q : Nat, s.heap.size ≤ q → A q) (B : hy_B RX9 cX9_look 3 wsX9_look G A p s m args c) (hR : 7 ≤ R.frames ∧ 103 ≤ R.locals) {o : hy_S × Int32 × Nat}  (ho : ¬ o.2.2 = 0) (hT : hy_TC l R meth c) (σ : hy_S) (x1 : Int32) (x2 : Int32) (H : Heap) (locs : List Loc) (ls : Array Slot) (hf : fX9_look σ x1 x2 = some o) (w : hy_w cw G A s σ H locs) (hl : lv_has ls 3 [(0, .ref (G.2.2.2.1 0)), (1, .int x1), (2, .int x2)]) : W p l e R s m args below meth c H locs 0 0 (vx_MQ below Qc (hy_X cw G o A) args s 1 6 A) (F0 m 0 ls []) := by
  unfold fX9_look at hf
  refine lv_iload_n B.1.1 B.1.2.1 dX9_look_0 rfl (lv_at hl 1 rfl) ?_
  refine lv_aload_n B.1.1 B.1.2.1 dX9_look_1 rfl (lv_at hl 0 rfl) ?_
  refine hy_get (k := 3) (v := .ref (G.2.2.2.1 4)) B w (cwq_0 G) rfl in_X9_look_X9 (by decide) (by decide +kernel) rfl dX9_look_2 ?_
  refine hy_getN (k := 7) (v := .int (σ.2 4)) B w (cwq_4 G) rfl in_X9_look_X1 (by decide) (by decide +kernel) rfl dX9_look_5 ?_
  rcases hy_bt_some hf with ⟨σ1, v2, h3, hf⟩ | ⟨h3, h4⟩
  · refine hy_csv (As := [.int x1, .int (σ.2 4)]) (rest := []) (o := (σ1, v2)) cw_fix hA B w (fun sz => mX9_needIndex l G sz σ x1 (σ.2 4) _ h3 rfl) (cwS 2 B.1.2.2.2.2 gX9_look_X9_needIndex rfl rfl rfl (by decide +kernel) ⟨by have := hR.1; show 6 + 1 ≤ _; omega, by have := hR.2; show 8 + (2 + 11) + 82 ≤ _; omega⟩) rfl hl.1 rfl (Nat.le_of_ble_eq_true rfl) dX9_look_8 ⟨Nat.zero_le _, Nat.zero_le _⟩ (fun H locs w => ?_)
    refine lv_iload_n B.1.1 B.1.2.1 dX9_look_11 rfl (lv_at hl 2 rfl) ?_
    by_cases c5 : x2 = 0
    · rw [if_pos c5] at hf
      have c5e : Int32.toInt x2 = 0 := by rw [c5]; rfl
      refine lv_tableIn (tgt := 64) B.1.1 B.1.2.1 dX9_look_12 (by rw [c5e]; decide) (by rw [c5e]; decide) (by rw [c5e]; rfl) (by decide) ?_
      refine lv_aload_n B.1.1 B.1.2.1 dX9_look_64 rfl (lv_at hl 0 rfl) ?_
      refine hy_get (k := 3) (v := .ref (G.2.2.2.1 4)) B w (cwq_0 G) rfl in_X9_look_X9 (by decide) (by decide +kernel) rfl dX9_look_65 ?_
      refine hy_getN (k := 5) (v := .ref (G.2.2.2.1 19)) B w (cwq_4 G) rfl in_X9_look_X1 (by decide) (by decide +kernel) rfl dX9_look_68 ?_
      refine lv_iload_n B.1.1 B.1.2.1 dX9_look_71 rfl (lv_at hl 1 rfl) ?_
      obtain ⟨h8, v6, e7, hf⟩ := hy_ga_some hf
      refine hy_iald B w (cwq_19 G) h8 e7 dX9_look_72 ?_
      exact absurd (congrArg (fun z => z.2.2) (Option.some.inj hf)).symm ho
    · rw [if_neg c5] at hf
      by_cases c9 : x2 = 1
      · rw [if_pos c9] at hf
        have c9e : Int32.toInt x2 = 1 := by rw [c9]; rfl
        refine lv_tableIn (tgt := 74) B.1.1 B.1.2.1 dX9_look_12 (by rw [c9e]; decide) (by rw [c9e]; decide) (by rw [c9e]; rfl) (by decide) ?_
        refine lv_aload_n B.1.1 B.1.2.1 dX9_look_74 rfl (lv_at hl 0 rfl) ?_
        refine hy_get (k := 3) (v := .ref (G.2.2.2.1 4)) B w (cwq_0 G) rfl in_X9_look_X9 (by decide) (by decide +kernel) rfl dX9_look_75 ?_
        refine hy_getN (k := 1) (v := .ref (G.2.2.2.1 15)) B w (cwq_4 G) rfl in_X9_look_X1 (by decide) (by decide +kernel) rfl dX9_look_78 ?_
        refine lv_iload_n B.1.1 B.1.2.1 dX9_look_81 rfl (lv_at hl 1 rfl) ?_
        obtain ⟨h12, v10, e11, hf⟩ := hy_ga_some hf
        refine hy_iald B w (cwq_15 G) h12 e11 dX9_look_82 ?_
        exact absurd (congrArg (fun z => z.2.2) (Option.some.inj hf)).symm ho
      · rw [if_neg c9] at hf
        by_cases c13 : x2 = 2
        · rw [if_pos c13] at hf
          have c13e : Int32.toInt x2 = 2 := by rw [c13]; rfl
          refine lv_tableIn (tgt := 84) B.1.1 B.1.2.1 dX9_look_12 (by rw [c13e]; decide) (by rw [c13e]; decide) (by rw [c13e]; rfl) (by decide) ?_
          refine lv_aload_n B.1.1 B.1.2.1 dX9_look_84 rfl (lv_at hl 0 rfl) ?_
          refine hy_get (k := 3) (v := .ref (G.2.2.2.1 4)) B w (cwq_0 G) rfl in_X9_look_X9 (by decide) (by decide +kernel) rfl dX9_look_85 ?_
          refine hy_getN (k := 2) (v := .ref (G.2.2.2.1 16)) B w (cwq_4 G) rfl in_X9_look_X1 (by decide) (by decide +kernel) rfl dX9_look_88 ?_
          refine lv_iload_n B.1.1 B.1.2.1 dX9_look_91 rfl (lv_at hl 1 rfl) ?_
          obtain ⟨h16, v14, e15, hf⟩ := hy_ga_some hf
          refine hy_iald B w (cwq_16 G) h16 e15 dX9_look_92 ?_
          exact absurd (congrArg (fun z => z.2.2) (Option.some.inj hf)).symm ho
        · rw [if_neg c13] at hf
          by_cases c17 : x2 = 3
          · rw [if_pos c17] at hf
            have c17e : Int32.toInt x2 = 3 := by rw [c17]; rfl
            refine lv_tableIn (tgt := 94) B.1.1 B.1.2.1 dX9_look_12 (by rw [c17e]; decide) (by rw [c17e]; decide) (by rw [c17e]; rfl) (by decide) ?_
            refine lv_aload_n B.1.1 B.1.2.1 dX9_look_94 rfl (lv_at hl 0 rfl) ?_
            refine hy_get (k := 3) (v := .ref (G.2.2.2.1 4)) B w (cwq_0 G) rfl in_X9_look_X9 (by decide) (by decide +kernel) rfl dX9_look_95 ?_
            refine hy_getN (k := 3) (v := .ref (G.2.2.2.1 17)) B w (cwq_4 G) rfl in_X9_look_X1 (by decide) (by decide +kernel) rfl dX9_look_98 ?_
            refine lv_iload_n B.1.1 B.1.2.1 dX9_look_101 rfl (lv_at hl 1 rfl) ?_
            obtain ⟨h20, v18, e19, hf⟩ := hy_ga_some hf
            refine hy_iald B w (cwq_17 G) h20 e19 dX9_look_102 ?_
            exact absurd (congrArg (fun z => z.2.2) (Option.some.inj hf)).symm ho
          · rw [if_neg c17] at hf
            by_cases c21 : x2 = 4
            · rw [if_pos c21] at hf
              have c21e : Int32.toInt x2 = 4 := by rw [c21]; rfl
              refine lv_tableIn (tgt := 104) B.1.1 B.1.2.1 dX9_look_12 (by rw [c21e]; decide) (by rw [c21e]; decide) (by rw [c21e]; rfl) (by decide) ?_
              refine lv_aload_n B.1.1 B.1.2.1 dX9_look_104 rfl (lv_at hl 0 rfl) ?_
              refine hy_get (k := 3) (v := .ref (G.2.2.2.1 4)) B w (cwq_0 G) rfl in_X9_look_X9 (by decide) (by decide +kernel) rfl dX9_look_105 ?_
              refine hy_getN (k := 4) (v := .ref (G.2.2.2.1 18)) B w (cwq_4 G) rfl in_X9_look_X1 (by decide) (by decide +kernel) rfl dX9_look_108 ?_
              refine lv_iload_n B.1.1 B.1.2.1 dX9_look_111 rfl (lv_at hl 1 rfl) ?_
              obtain ⟨h24, v22, e23, hf⟩ := hy_ga_some hf
              refine hy_iald B w (cwq_18 G) h24 e23 dX9_look_112 ?_
              exact absurd (congrArg (fun z => z.2.2) (Option.some.inj hf)).symm ho
            · rw [if_neg c21] at hf
              by_cases c25 : x2 = 5
              · rw [if_pos c25] at hf
                have c25e : Int32.toInt x2 = 5 := by rw [c25]; rfl
                refine lv_tableIn (tgt := 114) B.1.1 B.1.2.1 dX9_look_12 (by rw [c25e]; decide) (by rw [c25e]; decide) (by rw [c25e]; rfl) (by decide) ?_
                refine lv_aload_n B.1.1 B.1.2.1 dX9_look_114 rfl (lv_at hl 0 rfl) ?_
                refine hy_get (k := 3) (v := .ref (G.2.2.2.1 4)) B w (cwq_0 G) rfl in_X9_look_X9 (by decide) (by decide +kernel) rfl dX9_look_115 ?_
                refine lv_iload_n B.1.1 B.1.2.1 dX9_look_118 rfl (lv_at hl 1 rfl) ?_
                obtain ⟨σ26, v27, h28, hf⟩ := hy_bd_some hf
                refine hy_cv (As := [.int x1]) (rest := []) (o := (σ26, v27)) cw_fix hA B w (fun sz => mX1_weight l G sz σ1 x1 _ h28) (cwV 1 B.1.2.2.2.2 gX9_look_X1_weight rfl rfl rfl (by decide +kernel) ⟨by have := hR.1; show 0 + 1 ≤ _; omega, by have := hR.2; show 8 + (2 + 11) + 0 ≤ _; omega⟩) rfl (cwq_4 G σ1) rfl hl.1 rfl (Nat.le_of_ble_eq_true rfl) dX9_look_119 ⟨Nat.zero_le _, Nat.zero_le _⟩ (fun H locs w => ?_)
                exact absurd (congrArg (fun z => z.2.2) (Option.some.inj hf)).symm ho
              · rw [if_neg c25] at hf
                by_cases c29 : x2 = 6
                · rw [if_pos c29] at hf
                  have c29e : Int32.toInt x2 = 6 := by rw [c29]; rfl
                  refine lv_tableIn (tgt := 123) B.1.1 B.1.2.1 dX9_look_12 (by rw [c29e]; decide) (by rw [c29e]; decide) (by rw [c29e]; rfl) (by decide) ?_
                  refine lv_aload_n B.1.1 B.1.2.1 dX9_look_123 rfl (lv_at hl 0 rfl) ?_
                  refine hy_get (k := 3) (v := .ref (G.2.2.2.1 4)) B w (cwq_0 G) rfl in_X9_look_X9 (by decide) (by decide +kernel) rfl dX9_look_124 ?_
                  refine hy_getN (k := 6) (v := .ref (G.2.2.2.1 20)) B w (cwq_4 G) rfl in_X9_look_X1 (by decide) (by decide +kernel) rfl dX9_look_127 ?_
                  refine lv_iload_n B.1.1 B.1.2.1 dX9_look_130 rfl (lv_at hl 1 rfl) ?_
                  obtain ⟨h32, v30, e31, hf⟩ := hy_ga_some hf
                  refine hy_iald B w (cwq_20 G) h32 e31 dX9_look_131 ?_
                  obtain ⟨σ33, v34, h35, hf⟩ := hy_bd_some hf
                  refine hy_cs (As := [.int v30]) (rest := []) (o := (σ33, v34)) cw_fix hA B w (fun sz => mX0_shipOf l G sz σ1 v30 _ h35) (va_cwS 1 B.1.2.2.2.2 gX9_look_X0_shipOf rfl rfl rfl (by decide +kernel) ⟨by have := hR.1; show 0 + 1 ≤ _; omega, by have := hR.2; show 8 + (1 + 11) + 0 ≤ _; omega⟩) rfl hl.1 rfl (Nat.le_of_ble_eq_true rfl) dX9_look_132 ⟨Nat.zero_le _, Nat.zero_le _⟩ (fun H locs w => ?_)
                  exact absurd (congrArg (fun z => z.2.2) (Option.some.inj hf)).symm ho
                · rw [if_neg c29] at hf
                  by_cases c36 : x2 = 7
                  · rw [if_pos c36] at hf
                    have c36e : Int32.toInt x2 = 7 := by rw [c36]; rfl
                    refine lv_tableIn (tgt := 136) B.1.1 B.1.2.1 dX9_look_12 (by rw [c36e]; decide) (by rw [c36e]; decide) (by rw [c36e]; rfl) (by decide) ?_
                    refine lv_aload_n B.1.1 B.1.2.1 dX9_look_136 rfl (lv_at hl 0 rfl) ?_
                    refine hy_get (k := 3) (v := .ref (G.2.2.2.1 4)) B w (cwq_0 G) rfl in_X9_look_X9 (by decide) (by decide +kernel) rfl dX9_look_137 ?_
                    refine hy_getN (k := 6) (v := .ref (G.2.2.2.1 20)) B w (cwq_4 G) rfl in_X9_look_X1 (by decide) (by decide +kernel) rfl dX9_look_140 ?_
                    refine lv_iload_n B.1.1 B.1.2.1 dX9_look_143 rfl (lv_at hl 1 rfl) ?_
                    obtain ⟨h39, v37, e38, hf⟩ := hy_ga_some hf
                    refine hy_iald B w (cwq_20 G) h39 e38 dX9_look_144 ?_
                    obtain ⟨σ40, v41, h42, hf⟩ := hy_bd_some hf
                    refine hy_cs (As := [.int v37]) (rest := []) (o := (σ40, v41)) cw_fix hA B w (fun sz => mX0_holdOf l G sz σ1 v37 _ h42) (va_cwS 1 B.1.2.2.2.2 gX9_look_X0_holdOf rfl rfl rfl (by decide +kernel) ⟨by have := hR.1; show 0 + 1 ≤ _; omega, by have := hR.2; show 8 + (1 + 11) + 0 ≤ _; omega⟩) rfl hl.1 rfl (Nat.le_of_ble_eq_true rfl) dX9_look_145 ⟨Nat.zero_le _, Nat.zero_le _⟩ (fun H locs w => ?_)
                    exact absurd (congrArg (fun z => z.2.2) (Option.some.inj hf)).symm ho
                  · rw [if_neg c36] at hf
                    by_cases c43 : x2 = 8
                    · rw [if_pos c43] at hf
                      have c43e : Int32.toInt x2 = 8 := by rw [c43]; rfl
                      refine lv_tableIn (tgt := 149) B.1.1 B.1.2.1 dX9_look_12 (by rw [c43e]; decide) (by rw [c43e]; decide) (by rw [c43e]; rfl) (by decide) ?_
                      refine lv_aload_n B.1.1 B.1.2.1 dX9_look_149 rfl (lv_at hl 0 rfl) ?_
                      refine hy_get (k := 4) (v := .ref (G.2.2.2.1 5)) B w (cwq_0 G) rfl in_X9_look_X9 (by decide) (by decide +kernel) rfl dX9_look_150 ?_
                      refine lv_iload_n B.1.1 B.1.2.1 dX9_look_153 rfl (lv_at hl 1 rfl) ?_
                      obtain ⟨σ44, v45, h46, hf⟩ := hy_bd_some hf
                      refine hy_cv (As := [.int x1]) (rest := []) (o := (σ44, v45)) cw_fix hA B w (fun sz => mX0_weightAbove l G sz σ1 x1 _ h46) (cwV 1 B.1.2.2.2.2 gX9_look_X0_weightAbove rfl rfl rfl (by decide +kernel) ⟨by have := hR.1; show 1 + 1 ≤ _; omega, by have := hR.2; show 8 + (6 + 11) + 21 ≤ _; omega⟩) rfl (cwq_5 G σ1) rfl hl.1 rfl (Nat.le_of_ble_eq_true rfl) dX9_look_154 ⟨Nat.zero_le _, Nat.zero_le _⟩ (fun H locs w => ?_)
                      exact absurd (congrArg (fun z => z.2.2) (Option.some.inj hf)).symm ho
                    · rw [if_neg c43] at hf
                      have c5t := lv_neT (a := 0) c5 rfl
                      have c9t := lv_neT (a := 1) c9 rfl
                      have c13t := lv_neT (a := 2) c13 rfl
                      have c17t := lv_neT (a := 3) c17 rfl
                      have c21t := lv_neT (a := 4) c21 rfl
                      have c25t := lv_neT (a := 5) c25 rfl
                      have c29t := lv_neT (a := 6) c29 rfl
                      have c36t := lv_neT (a := 7) c36 rfl
                      have c43t := lv_neT (a := 8) c43 rfl
                      refine lv_tableOut (tgt := 158) B.1.1 B.1.2.1 dX9_look_12 (by omega) (by decide) ?_
                      have he := Option.some.inj hf
                      subst he
                      exact hy_throwN (k := 4) (text := "what is 0 to 8") B w hT ⟨by have := hR.1; omega, by have := hR.2; omega⟩ (by decide +kernel) (by decide +kernel) (by decide +kernel) (by decide +kernel) (by decide +kernel) (by decide +kernel) (by decide +kernel) (by decide +kernel) hl.1 dX9_look_158 dX9_look_161 dX9_look_162 dX9_look_164 dX9_look_167
  · exact hy_tsv (As := [.int x1, .int (σ.2 4)]) (rest := []) hA B w hT (fun sz => tX9_needIndex l hT.1 G sz σ x1 (σ.2 4) _ h3 h4) (cwS 2 B.1.2.2.2.2 gX9_look_X9_needIndex rfl rfl rfl (by decide +kernel) ⟨by have := hR.1; show 6 + 1 ≤ _; omega, by have := hR.2; show 8 + (2 + 11) + 82 ≤ _; omega⟩) rfl hl.1 rfl (Nat.le_of_ble_eq_true rfl) dX9_look_8
set_option maxHeartbeats 4000000 in
set_option maxRecDepth 100000 in
theorem tX9_look (l : Launch) (hlt : l.stackTraces = false) (G : hy_G) (sz : Nat) (σ : hy_S) (x1 : Int32) (x2 : Int32) (o : hy_S × Int32 × Nat) (hf : fX9_look σ x1 x2 = some o) (ho : ¬ o.2.2 = 0) : hy_MT l yX9_look wsX9_look ({ frames := 7, cells := 1, slots := 6, locals := 103 }) cw G σ sz [.ref (G.2.2.2.1 0), .int x1, .int x2] o := by
  refine vx_ofW (cc := cX9_look) (maxL := 3) (ret := (some .int)) (by decide +kernel) rfl ?_
  intro p e s m args below meth c s₁ B hml h0 hv
  obtain ⟨rfl, hsz, hP, hK, hD0, hN⟩ := hv
  have hx := B.exec
  have hb := B.bytes
  have hr := B.returns
  have hts := atoms_spec (ws := wsX9_look) B.pre
  have hown : s.vm.findClass RX9 = some m.cls := findClass_of_methodNamed B.named
  have hlocks := B.notSynchronized
  subst hsz
  have hD := hD0.self (sz := s.heap.size)
  have hA : ∀ q : Nat, s.heap.size ≤ q → va_A (cw G σ) s.heap.size q := fun q h => Or.inr h
  have hS : va_S (va_A (cw G σ) s.heap.size) s.heap s.heap [] := va_S.rf
  have hl := lv_entry ([.ref (G.2.2.2.1 0), .int x1, .int x2]) (n := 3) (Nat.le_of_ble_eq_true rfl)
  rw [lg_entry_eq]
  generalize (lg_sl ([.ref (G.2.2.2.1 0), .int x1, .int x2]) ++ List.replicate (3 - (lg_sl ([.ref (G.2.2.2.1 0), .int x1, .int x2])).length) Slot.unset).toArray = ls at hl ⊢
  have hl : lv_has ls 3 [(0, .ref (G.2.2.2.1 0)), (1, .int x1), (2, .int x2)] := hl
  exact tbX9_look_0 (A := va_A (cw G σ) s.heap.size) hA ⟨⟨hx, hb, hml, hown, hts⟩, hK, hN⟩ ⟨Nat.le_of_ble_eq_true rfl, Nat.le_of_ble_eq_true rfl⟩ (o := o) ho ⟨hlt, hlocks, h0, Nat.le_refl _, Nat.le_refl _⟩ σ x1 x2 _ _ _ hf ⟨hP, hD, hS⟩ hl
theorem in_X9_stack_X9 : ∀ w ∈ u_ws RX9 TX9 11, w ∈ wsX9_stack := fun _ h => xt1 (xl (xl (xr (h))))
noncomputable def fX9_stack (σ : hy_S) (x1 : Int32) (x2 : Int32) (x3 : Int32) : Option (hy_S × Int32 × Nat) := hy_bt (fX9_needHold σ x1 x2) some (fun σ1 v2 => hy_bd (fX0_pileOf σ1 x1 x2) (fun σ5 v6 => hy_bd (fX0_jarAt σ5 v6 x3) (fun σ8 v9 => some (σ8, v9, 0))))
set_option maxHeartbeats 4000000 in
set_option maxRecDepth 100000 in
theorem bX9_stack_0 (hA : ∀ q : Nat, s.heap.size ≤ q → A q) (B : hy_B RX9 cX9_stack 4 wsX9_stack G A p s m args c) (hR : 8 ≤ R.frames ∧ 125 ≤ R.locals) {o : hy_S × Int32 × Nat}  (ho : o.2.2 = 0) (hret : ∀ (σ : hy_S) (v : Int32) (pc : Nat) (H : Heap) (locs : List Loc) (ls : Array Slot), o = (σ, v, 0) → hy_w cw G A s σ H locs → decode cX9_stack pc = .ok (.ireturn, 1) → W p l e R s m args below meth c H locs 0 0 Q (F0 m pc ls [.int v])) (σ : hy_S) (x1 : Int32) (x2 : Int32) (x3 : Int32) (H : Heap) (locs : List Loc) (ls : Array Slot) (hf : fX9_stack σ x1 x2 x3 = some o) (w : hy_w cw G A s σ H locs) (hl : lv_has ls 4 [(0, .ref (G.2.2.2.1 0)), (1, .int x1), (2, .int x2), (3, .int x3)]) : W p l e R s m args below meth c H locs 0 0 Q (F0 m 0 ls []) := by
  unfold fX9_stack at hf
  refine lv_aload_n B.1.1 B.1.2.1 dX9_stack_0 rfl (lv_at hl 0 rfl) ?_
  refine lv_iload_n B.1.1 B.1.2.1 dX9_stack_1 rfl (lv_at hl 1 rfl) ?_
  refine lv_iload_n B.1.1 B.1.2.1 dX9_stack_2 rfl (lv_at hl 2 rfl) ?_
  rcases hy_bt_some hf with ⟨σ1, v2, h3, hf⟩ | ⟨h3, h4⟩
  · refine hy_cvv (As := [.int x1, .int x2]) (rest := []) (o := (σ1, v2)) cw_fix hA B w (fun sz => mX9_needHold l G sz σ x1 x2 _ h3 rfl) (cwV 2 B.1.2.2.2.2 gX9_stack_X9_needHold rfl rfl rfl (by decide +kernel) ⟨by have := hR.1; show 7 + 1 ≤ _; omega, by have := hR.2; show 8 + (3 + 11) + 103 ≤ _; omega⟩) rfl (cwq_0 G σ) rfl hl.1 rfl (Nat.le_of_ble_eq_true rfl) dX9_stack_3 ⟨Nat.zero_le _, Nat.zero_le _⟩ (fun H locs w => ?_)
    refine lv_aload_n B.1.1 B.1.2.1 dX9_stack_6 rfl (lv_at hl 0 rfl) ?_
    refine hy_get (k := 4) (v := .ref (G.2.2.2.1 5)) B w (cwq_0 G) rfl in_X9_stack_X9 (by decide) (by decide +kernel) rfl dX9_stack_7 ?_
    refine lv_iload_n B.1.1 B.1.2.1 dX9_stack_10 rfl (lv_at hl 1 rfl) ?_
    refine lv_iload_n B.1.1 B.1.2.1 dX9_stack_11 rfl (lv_at hl 2 rfl) ?_
    obtain ⟨σ5, v6, h7, hf⟩ := hy_bd_some hf
    refine hy_cs (As := [.int x1, .int x2]) (rest := [.ref (G.2.2.2.1 5)]) (o := (σ5, v6)) cw_fix hA B w (fun sz => mX0_pileOf l G sz σ1 x1 x2 _ h7) (va_cwS 2 B.1.2.2.2.2 gX9_stack_X0_pileOf rfl rfl rfl (by decide +kernel) ⟨by have := hR.1; show 0 + 1 ≤ _; omega, by have := hR.2; show 8 + (2 + 11) + 0 ≤ _; omega⟩) rfl hl.1 rfl (Nat.le_of_ble_eq_true rfl) dX9_stack_12 ⟨Nat.zero_le _, Nat.zero_le _⟩ (fun H locs w => ?_)
    refine lv_iload_n B.1.1 B.1.2.1 dX9_stack_15 rfl (lv_at hl 3 rfl) ?_
    obtain ⟨σ8, v9, h10, hf⟩ := hy_bd_some hf
    refine hy_cv (As := [.int v6, .int x3]) (rest := []) (o := (σ8, v9)) cw_fix hA B w (fun sz => mX0_jarAt l G sz σ5 v6 x3 _ h10) (cwV 2 B.1.2.2.2.2 gX9_stack_X0_jarAt rfl rfl rfl (by decide +kernel) ⟨by have := hR.1; show 0 + 1 ≤ _; omega, by have := hR.2; show 8 + (3 + 11) + 0 ≤ _; omega⟩) rfl (cwq_5 G σ5) rfl hl.1 rfl (Nat.le_of_ble_eq_true rfl) dX9_stack_16 ⟨Nat.zero_le _, Nat.zero_le _⟩ (fun H locs w => ?_)
    exact hret _ _ _ _ _ _ (Option.some.inj hf).symm w dX9_stack_19
  · exact absurd ho h4
set_option maxHeartbeats 4000000 in
set_option maxRecDepth 100000 in
theorem mX9_stack (l : Launch) (G : hy_G) (sz : Nat) (σ : hy_S) (x1 : Int32) (x2 : Int32) (x3 : Int32) (o : hy_S × Int32 × Nat) (hf : fX9_stack σ x1 x2 x3 = some o) (ho : o.2.2 = 0) : hy_M l yX9_stack wsX9_stack ({ frames := 8, cells := 0, slots := 0, locals := 125 }) cw G σ sz [.ref (G.2.2.2.1 0), .int x1, .int x2, .int x3] (o.1, o.2.1) := by
  refine Met.ofW (cc := cX9_stack) (maxL := 4) (ret := (some .int)) (by decide +kernel) rfl ?_
  intro p e s m args below meth c s₁ B hml hv
  obtain ⟨rfl, hsz, hP, hK, hD0, hN⟩ := hv
  have hx := B.exec
  have hb := B.bytes
  have hr := B.returns
  have hts := atoms_spec (ws := wsX9_stack) B.pre
  have hown : s.vm.findClass RX9 = some m.cls := findClass_of_methodNamed B.named
  have hlocks := B.notSynchronized
  subst hsz
  have hD := hD0.self (sz := s.heap.size)
  have hA : ∀ q : Nat, s.heap.size ≤ q → va_A (cw G σ) s.heap.size q := fun q h => Or.inr h
  have hS : va_S (va_A (cw G σ) s.heap.size) s.heap s.heap [] := va_S.rf
  have hl := lv_entry ([.ref (G.2.2.2.1 0), .int x1, .int x2, .int x3]) (n := 4) (Nat.le_of_ble_eq_true rfl)
  rw [lg_entry_eq]
  generalize (lg_sl ([.ref (G.2.2.2.1 0), .int x1, .int x2, .int x3]) ++ List.replicate (4 - (lg_sl ([.ref (G.2.2.2.1 0), .int x1, .int x2, .int x3])).length) Slot.unset).toArray = ls at hl ⊢
  have hl : lv_has ls 4 [(0, .ref (G.2.2.2.1 0)), (1, .int x1), (2, .int x2), (3, .int x3)] := hl
  refine bX9_stack_0 (A := va_A (cw G σ) s.heap.size) hA ⟨⟨hx, hb, hml, hown, hts⟩, hK, hN⟩ ⟨Nat.le_of_ble_eq_true rfl, Nat.le_of_ble_eq_true rfl⟩ (o := o) ho (fun τ v pc H locs ls ho w d => ?_) σ x1 x2 x3 _ _ _ hf ⟨hP, hD, hS⟩ hl
  exact W.iret hx hb hr (fun t ht hW => ⟨⟨v, τ, rfl, ⟨by rw [ho], by rw [ho]⟩, by have h9 := w.1; rw [← ht] at h9; exact h9⟩, w.2.2.F ht⟩) w.2.2.2.2 d
set_option maxHeartbeats 4000000 in
set_option maxRecDepth 100000 in
theorem tbX9_stack_0 (hA : ∀ q : Nat, s.heap.size ≤ q → A q) (B : hy_B RX9 cX9_stack 4 wsX9_stack G A p s m args c) (hR : 8 ≤ R.frames ∧ 125 ≤ R.locals) {o : hy_S × Int32 × Nat}  (ho : ¬ o.2.2 = 0) (hT : hy_TC l R meth c) (σ : hy_S) (x1 : Int32) (x2 : Int32) (x3 : Int32) (H : Heap) (locs : List Loc) (ls : Array Slot) (hf : fX9_stack σ x1 x2 x3 = some o) (w : hy_w cw G A s σ H locs) (hl : lv_has ls 4 [(0, .ref (G.2.2.2.1 0)), (1, .int x1), (2, .int x2), (3, .int x3)]) : W p l e R s m args below meth c H locs 0 0 (vx_MQ below Qc (hy_X cw G o A) args s 1 6 A) (F0 m 0 ls []) := by
  unfold fX9_stack at hf
  refine lv_aload_n B.1.1 B.1.2.1 dX9_stack_0 rfl (lv_at hl 0 rfl) ?_
  refine lv_iload_n B.1.1 B.1.2.1 dX9_stack_1 rfl (lv_at hl 1 rfl) ?_
  refine lv_iload_n B.1.1 B.1.2.1 dX9_stack_2 rfl (lv_at hl 2 rfl) ?_
  rcases hy_bt_some hf with ⟨σ1, v2, h3, hf⟩ | ⟨h3, h4⟩
  · refine hy_cvv (As := [.int x1, .int x2]) (rest := []) (o := (σ1, v2)) cw_fix hA B w (fun sz => mX9_needHold l G sz σ x1 x2 _ h3 rfl) (cwV 2 B.1.2.2.2.2 gX9_stack_X9_needHold rfl rfl rfl (by decide +kernel) ⟨by have := hR.1; show 7 + 1 ≤ _; omega, by have := hR.2; show 8 + (3 + 11) + 103 ≤ _; omega⟩) rfl (cwq_0 G σ) rfl hl.1 rfl (Nat.le_of_ble_eq_true rfl) dX9_stack_3 ⟨Nat.zero_le _, Nat.zero_le _⟩ (fun H locs w => ?_)
    refine lv_aload_n B.1.1 B.1.2.1 dX9_stack_6 rfl (lv_at hl 0 rfl) ?_
    refine hy_get (k := 4) (v := .ref (G.2.2.2.1 5)) B w (cwq_0 G) rfl in_X9_stack_X9 (by decide) (by decide +kernel) rfl dX9_stack_7 ?_
    refine lv_iload_n B.1.1 B.1.2.1 dX9_stack_10 rfl (lv_at hl 1 rfl) ?_
    refine lv_iload_n B.1.1 B.1.2.1 dX9_stack_11 rfl (lv_at hl 2 rfl) ?_
    obtain ⟨σ5, v6, h7, hf⟩ := hy_bd_some hf
    refine hy_cs (As := [.int x1, .int x2]) (rest := [.ref (G.2.2.2.1 5)]) (o := (σ5, v6)) cw_fix hA B w (fun sz => mX0_pileOf l G sz σ1 x1 x2 _ h7) (va_cwS 2 B.1.2.2.2.2 gX9_stack_X0_pileOf rfl rfl rfl (by decide +kernel) ⟨by have := hR.1; show 0 + 1 ≤ _; omega, by have := hR.2; show 8 + (2 + 11) + 0 ≤ _; omega⟩) rfl hl.1 rfl (Nat.le_of_ble_eq_true rfl) dX9_stack_12 ⟨Nat.zero_le _, Nat.zero_le _⟩ (fun H locs w => ?_)
    refine lv_iload_n B.1.1 B.1.2.1 dX9_stack_15 rfl (lv_at hl 3 rfl) ?_
    obtain ⟨σ8, v9, h10, hf⟩ := hy_bd_some hf
    refine hy_cv (As := [.int v6, .int x3]) (rest := []) (o := (σ8, v9)) cw_fix hA B w (fun sz => mX0_jarAt l G sz σ5 v6 x3 _ h10) (cwV 2 B.1.2.2.2.2 gX9_stack_X0_jarAt rfl rfl rfl (by decide +kernel) ⟨by have := hR.1; show 0 + 1 ≤ _; omega, by have := hR.2; show 8 + (3 + 11) + 0 ≤ _; omega⟩) rfl (cwq_5 G σ5) rfl hl.1 rfl (Nat.le_of_ble_eq_true rfl) dX9_stack_16 ⟨Nat.zero_le _, Nat.zero_le _⟩ (fun H locs w => ?_)
    exact absurd (congrArg (fun z => z.2.2) (Option.some.inj hf)).symm ho
  · exact hy_tvv (As := [.int x1, .int x2]) (rest := []) hA B w hT (fun sz => tX9_needHold l hT.1 G sz σ x1 x2 _ h3 h4) (cwV 2 B.1.2.2.2.2 gX9_stack_X9_needHold rfl rfl rfl (by decide +kernel) ⟨by have := hR.1; show 7 + 1 ≤ _; omega, by have := hR.2; show 8 + (3 + 11) + 103 ≤ _; omega⟩) rfl (cwq_0 G σ) rfl hl.1 rfl (Nat.le_of_ble_eq_true rfl) dX9_stack_3
set_option maxHeartbeats 4000000 in
set_option maxRecDepth 100000 in
theorem tX9_stack (l : Launch) (hlt : l.stackTraces = false) (G : hy_G) (sz : Nat) (σ : hy_S) (x1 : Int32) (x2 : Int32) (x3 : Int32) (o : hy_S × Int32 × Nat) (hf : fX9_stack σ x1 x2 x3 = some o) (ho : ¬ o.2.2 = 0) : hy_MT l yX9_stack wsX9_stack ({ frames := 8, cells := 1, slots := 6, locals := 125 }) cw G σ sz [.ref (G.2.2.2.1 0), .int x1, .int x2, .int x3] o := by
  refine vx_ofW (cc := cX9_stack) (maxL := 4) (ret := (some .int)) (by decide +kernel) rfl ?_
  intro p e s m args below meth c s₁ B hml h0 hv
  obtain ⟨rfl, hsz, hP, hK, hD0, hN⟩ := hv
  have hx := B.exec
  have hb := B.bytes
  have hr := B.returns
  have hts := atoms_spec (ws := wsX9_stack) B.pre
  have hown : s.vm.findClass RX9 = some m.cls := findClass_of_methodNamed B.named
  have hlocks := B.notSynchronized
  subst hsz
  have hD := hD0.self (sz := s.heap.size)
  have hA : ∀ q : Nat, s.heap.size ≤ q → va_A (cw G σ) s.heap.size q := fun q h => Or.inr h
  have hS : va_S (va_A (cw G σ) s.heap.size) s.heap s.heap [] := va_S.rf
  have hl := lv_entry ([.ref (G.2.2.2.1 0), .int x1, .int x2, .int x3]) (n := 4) (Nat.le_of_ble_eq_true rfl)
  rw [lg_entry_eq]
  generalize (lg_sl ([.ref (G.2.2.2.1 0), .int x1, .int x2, .int x3]) ++ List.replicate (4 - (lg_sl ([.ref (G.2.2.2.1 0), .int x1, .int x2, .int x3])).length) Slot.unset).toArray = ls at hl ⊢
  have hl : lv_has ls 4 [(0, .ref (G.2.2.2.1 0)), (1, .int x1), (2, .int x2), (3, .int x3)] := hl
  exact tbX9_stack_0 (A := va_A (cw G σ) s.heap.size) hA ⟨⟨hx, hb, hml, hown, hts⟩, hK, hN⟩ ⟨Nat.le_of_ble_eq_true rfl, Nat.le_of_ble_eq_true rfl⟩ (o := o) ho ⟨hlt, hlocks, h0, Nat.le_refl _, Nat.le_refl _⟩ σ x1 x2 x3 _ _ _ hf ⟨hP, hD, hS⟩ hl
end HY2
