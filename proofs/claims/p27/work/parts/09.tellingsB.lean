section HK7
variable {p : Program} {l : Launch} {e : Env} {R : Room} {s : State} {m : MethodId} {args : Array Value} {below : List Frame} {meth : Method} {c : Code} {Q : State → Prop} {G : hy_G} {A : Nat → Prop} {Qc : Array Value → State → Outcome → State → Prop}
theorem in_X8_add_X8 : ∀ w ∈ u_ws RX8 TX8 10, w ∈ wsX8_add := fun _ h => xt1 (xr (h))
noncomputable def fX8_add (σ : hy_S) (x1 : Int32) (x2 : Int32) (x3 : Int32) (x4 : Int32) : Option (hy_S × Int32) := hy_pa σ 22 60 (σ.2 8) x1 (fun σ1 => hy_pa σ1 23 60 (σ1.2 8) x2 (fun σ4 => hy_pa σ4 24 60 (σ4.2 8) x3 (fun σ7 => hy_pa σ7 25 60 (σ7.2 8) x4 (fun σ10 => hy_pa σ10 26 60 (σ10.2 8) (-1) (fun σ13 => hy_pf σ13 8 ((σ13.2 8) + 1) (fun σ16 => some (σ16, ((σ16.2 8) - 1))))))))
set_option maxHeartbeats 4000000 in
set_option maxRecDepth 100000 in
theorem bX8_add_0 (hA : ∀ q : Nat, s.heap.size ≤ q → A q) (B : hy_B RX8 cX8_add 5 wsX8_add G A p s m args c) (hR : 0 ≤ R.frames ∧ 0 ≤ R.locals) {o : hy_S × Int32}  (hret : ∀ (σ : hy_S) (v : Int32) (pc : Nat) (H : Heap) (locs : List Loc) (ls : Array Slot), o = (σ, v) → hy_w cw G A s σ H locs → decode cX8_add pc = .ok (.ireturn, 1) → W p l e R s m args below meth c H locs 0 0 Q (F0 m pc ls [.int v])) (σ : hy_S) (x1 : Int32) (x2 : Int32) (x3 : Int32) (x4 : Int32) (H : Heap) (locs : List Loc) (ls : Array Slot) (hf : fX8_add σ x1 x2 x3 x4 = some o) (w : hy_w cw G A s σ H locs) (hl : lv_has ls 5 [(0, .ref (G.2.2.2.1 9)), (1, .int x1), (2, .int x2), (3, .int x3), (4, .int x4)]) : W p l e R s m args below meth c H locs 0 0 Q (F0 m 0 ls []) := by
  unfold fX8_add at hf
  refine lv_aload_n B.1.1 B.1.2.1 dX8_add_0 rfl (lv_at hl 0 rfl) ?_
  refine hy_get (k := 0) (v := .ref (G.2.2.2.1 32)) B w (cwq_9 G) rfl in_X8_add_X8 (by decide) (by decide +kernel) rfl dX8_add_1 ?_
  refine lv_aload_n B.1.1 B.1.2.1 dX8_add_4 rfl (lv_at hl 0 rfl) ?_
  refine hy_get (k := 8) (v := .int (σ.2 8)) B w (cwq_9 G) rfl in_X8_add_X8 (by decide) (by decide +kernel) rfl dX8_add_5 ?_
  refine lv_iload_n B.1.1 B.1.2.1 dX8_add_8 rfl (lv_at hl 1 rfl) ?_
  obtain ⟨h3, σ1, e2, hf⟩ := hy_pa_some hf
  refine hy_iast B w (cwq_32 G) (cws_32 G) h3 e2 dX8_add_9 (fun H locs w => ?_)
  refine lv_aload_n B.1.1 B.1.2.1 dX8_add_10 rfl (lv_at hl 0 rfl) ?_
  refine hy_get (k := 1) (v := .ref (G.2.2.2.1 33)) B w (cwq_9 G) rfl in_X8_add_X8 (by decide) (by decide +kernel) rfl dX8_add_11 ?_
  refine lv_aload_n B.1.1 B.1.2.1 dX8_add_14 rfl (lv_at hl 0 rfl) ?_
  refine hy_get (k := 8) (v := .int (σ1.2 8)) B w (cwq_9 G) rfl in_X8_add_X8 (by decide) (by decide +kernel) rfl dX8_add_15 ?_
  refine lv_iload_n B.1.1 B.1.2.1 dX8_add_18 rfl (lv_at hl 2 rfl) ?_
  obtain ⟨h6, σ4, e5, hf⟩ := hy_pa_some hf
  refine hy_iast B w (cwq_33 G) (cws_33 G) h6 e5 dX8_add_19 (fun H locs w => ?_)
  refine lv_aload_n B.1.1 B.1.2.1 dX8_add_20 rfl (lv_at hl 0 rfl) ?_
  refine hy_get (k := 2) (v := .ref (G.2.2.2.1 34)) B w (cwq_9 G) rfl in_X8_add_X8 (by decide) (by decide +kernel) rfl dX8_add_21 ?_
  refine lv_aload_n B.1.1 B.1.2.1 dX8_add_24 rfl (lv_at hl 0 rfl) ?_
  refine hy_get (k := 8) (v := .int (σ4.2 8)) B w (cwq_9 G) rfl in_X8_add_X8 (by decide) (by decide +kernel) rfl dX8_add_25 ?_
  refine lv_iload_n B.1.1 B.1.2.1 dX8_add_28 rfl (lv_at hl 3 rfl) ?_
  obtain ⟨h9, σ7, e8, hf⟩ := hy_pa_some hf
  refine hy_iast B w (cwq_34 G) (cws_34 G) h9 e8 dX8_add_29 (fun H locs w => ?_)
  refine lv_aload_n B.1.1 B.1.2.1 dX8_add_30 rfl (lv_at hl 0 rfl) ?_
  refine hy_get (k := 3) (v := .ref (G.2.2.2.1 35)) B w (cwq_9 G) rfl in_X8_add_X8 (by decide) (by decide +kernel) rfl dX8_add_31 ?_
  refine lv_aload_n B.1.1 B.1.2.1 dX8_add_34 rfl (lv_at hl 0 rfl) ?_
  refine hy_get (k := 8) (v := .int (σ7.2 8)) B w (cwq_9 G) rfl in_X8_add_X8 (by decide) (by decide +kernel) rfl dX8_add_35 ?_
  refine lv_iload B.1.1 B.1.2.1 dX8_add_38 (lv_at hl 4 rfl) ?_
  obtain ⟨h12, σ10, e11, hf⟩ := hy_pa_some hf
  refine hy_iast B w (cwq_35 G) (cws_35 G) h12 e11 dX8_add_40 (fun H locs w => ?_)
  refine lv_aload_n B.1.1 B.1.2.1 dX8_add_41 rfl (lv_at hl 0 rfl) ?_
  refine hy_get (k := 4) (v := .ref (G.2.2.2.1 36)) B w (cwq_9 G) rfl in_X8_add_X8 (by decide) (by decide +kernel) rfl dX8_add_42 ?_
  refine lv_aload_n B.1.1 B.1.2.1 dX8_add_45 rfl (lv_at hl 0 rfl) ?_
  refine hy_get (k := 8) (v := .int (σ10.2 8)) B w (cwq_9 G) rfl in_X8_add_X8 (by decide) (by decide +kernel) rfl dX8_add_46 ?_
  refine lv_iconst (v := (-1)) B.1.1 B.1.2.1 dX8_add_49 (by decide) ?_
  obtain ⟨h15, σ13, e14, hf⟩ := hy_pa_some hf
  refine hy_iast B w (cwq_36 G) (cws_36 G) h15 e14 dX8_add_50 (fun H locs w => ?_)
  refine lv_aload_n B.1.1 B.1.2.1 dX8_add_51 rfl (lv_at hl 0 rfl) ?_
  refine lv_dup B.1.1 B.1.2.1 dX8_add_52 rfl ?_
  refine hy_get (k := 8) (v := .int (σ13.2 8)) B w (cwq_9 G) rfl in_X8_add_X8 (by decide) (by decide +kernel) rfl dX8_add_53 ?_
  refine lv_iconst (v := 1) B.1.1 B.1.2.1 dX8_add_56 (by decide) ?_
  refine lv_iadd B.1.1 B.1.2.1 dX8_add_57 ?_
  obtain ⟨σ16, e17, hf⟩ := hy_pf_some hf
  refine hy_put (k := 8) B w (cwq_9 G) rfl in_X8_add_X8 tyX8 tyX8_ok nmX8 (by decide) (by decide +kernel) rfl rfl (by show 8 < 10; decide) (cwp_8 G) e17 dX8_add_58 (fun H locs w => ?_)
  refine lv_aload_n B.1.1 B.1.2.1 dX8_add_61 rfl (lv_at hl 0 rfl) ?_
  refine hy_get (k := 8) (v := .int (σ16.2 8)) B w (cwq_9 G) rfl in_X8_add_X8 (by decide) (by decide +kernel) rfl dX8_add_62 ?_
  refine lv_iconst (v := 1) B.1.1 B.1.2.1 dX8_add_65 (by decide) ?_
  refine lv_isub B.1.1 B.1.2.1 dX8_add_66 ?_
  exact hret _ _ _ _ _ _ (Option.some.inj hf).symm w dX8_add_67
set_option maxHeartbeats 4000000 in
set_option maxRecDepth 100000 in
theorem mX8_add (l : Launch) (G : hy_G) (sz : Nat) (σ : hy_S) (x1 : Int32) (x2 : Int32) (x3 : Int32) (x4 : Int32) (o : hy_S × Int32) (hf : fX8_add σ x1 x2 x3 x4 = some o) : hy_M l yX8_add wsX8_add ({ frames := 0, cells := 0, slots := 0, locals := 0 }) cw G σ sz [.ref (G.2.2.2.1 9), .int x1, .int x2, .int x3, .int x4] o := by
  refine Met.ofW (cc := cX8_add) (maxL := 5) (ret := (some .int)) (by decide +kernel) rfl ?_
  intro p e s m args below meth c s₁ B hml hv
  obtain ⟨rfl, hsz, hP, hK, hD0, hN⟩ := hv
  have hx := B.exec
  have hb := B.bytes
  have hr := B.returns
  have hts := atoms_spec (ws := wsX8_add) B.pre
  have hown : s.vm.findClass RX8 = some m.cls := findClass_of_methodNamed B.named
  have hlocks := B.notSynchronized
  subst hsz
  have hD := hD0.self (sz := s.heap.size)
  have hA : ∀ q : Nat, s.heap.size ≤ q → va_A (cw G σ) s.heap.size q := fun q h => Or.inr h
  have hS : va_S (va_A (cw G σ) s.heap.size) s.heap s.heap [] := va_S.rf
  have hl := lv_entry ([.ref (G.2.2.2.1 9), .int x1, .int x2, .int x3, .int x4]) (n := 5) (Nat.le_of_ble_eq_true rfl)
  rw [lg_entry_eq]
  generalize (lg_sl ([.ref (G.2.2.2.1 9), .int x1, .int x2, .int x3, .int x4]) ++ List.replicate (5 - (lg_sl ([.ref (G.2.2.2.1 9), .int x1, .int x2, .int x3, .int x4])).length) Slot.unset).toArray = ls at hl ⊢
  have hl : lv_has ls 5 [(0, .ref (G.2.2.2.1 9)), (1, .int x1), (2, .int x2), (3, .int x3), (4, .int x4)] := hl
  refine bX8_add_0 (A := va_A (cw G σ) s.heap.size) hA ⟨⟨hx, hb, hml, hown, hts⟩, hK, hN⟩ ⟨Nat.le_of_ble_eq_true rfl, Nat.le_of_ble_eq_true rfl⟩ (o := o) (fun τ v pc H locs ls ho w d => ?_) σ x1 x2 x3 x4 _ _ _ hf ⟨hP, hD, hS⟩ hl
  exact W.iret hx hb hr (fun t ht hW => ⟨⟨v, τ, rfl, ⟨by rw [ho], by rw [ho]⟩, by have h9 := w.1; rw [← ht] at h9; exact h9⟩, w.2.2.F ht⟩) w.2.2.2.2 d
theorem in_X8_takeBack_X8 : ∀ w ∈ u_ws RX8 TX8 10, w ∈ wsX8_takeBack := fun _ h => xt1 (xr (h))
noncomputable def fX8_takeBack (σ : hy_S) (x1 : Int32) (x2 : Int32) : Option (hy_S × Int32) := hy_ga σ 26 60 x1 (fun v1 => (if v1 = (-1) then hy_pa σ 26 60 x1 x2 (fun σ5 => some (σ5, 1)) else some (σ, 0)))
set_option maxHeartbeats 4000000 in
set_option maxRecDepth 100000 in
theorem bX8_takeBack_0 (hA : ∀ q : Nat, s.heap.size ≤ q → A q) (B : hy_B RX8 cX8_takeBack 3 wsX8_takeBack G A p s m args c) (hR : 0 ≤ R.frames ∧ 0 ≤ R.locals) {o : hy_S × Int32}  (hret : ∀ (σ : hy_S) (v : Int32) (pc : Nat) (H : Heap) (locs : List Loc) (ls : Array Slot), o = (σ, v) → (v = 0 ∨ v = 1) → hy_w cw G A s σ H locs → decode cX8_takeBack pc = .ok (.ireturn, 1) → W p l e R s m args below meth c H locs 0 0 Q (F0 m pc ls [.int v])) (σ : hy_S) (x1 : Int32) (x2 : Int32) (H : Heap) (locs : List Loc) (ls : Array Slot) (hf : fX8_takeBack σ x1 x2 = some o) (w : hy_w cw G A s σ H locs) (hl : lv_has ls 3 [(0, .ref (G.2.2.2.1 9)), (1, .int x1), (2, .int x2)]) : W p l e R s m args below meth c H locs 0 0 Q (F0 m 0 ls []) := by
  unfold fX8_takeBack at hf
  refine lv_aload_n B.1.1 B.1.2.1 dX8_takeBack_0 rfl (lv_at hl 0 rfl) ?_
  refine hy_get (k := 4) (v := .ref (G.2.2.2.1 36)) B w (cwq_9 G) rfl in_X8_takeBack_X8 (by decide) (by decide +kernel) rfl dX8_takeBack_1 ?_
  refine lv_iload_n B.1.1 B.1.2.1 dX8_takeBack_4 rfl (lv_at hl 1 rfl) ?_
  obtain ⟨h3, v1, e2, hf⟩ := hy_ga_some hf
  refine hy_iald B w (cwq_36 G) h3 e2 dX8_takeBack_5 ?_
  refine lv_iconst (v := (-1)) B.1.1 B.1.2.1 dX8_takeBack_6 (by decide) ?_
  refine lv_icmp_eq (tgt := 12) B.1.1 B.1.2.1 dX8_takeBack_7 (by decide) (fun c4 => ?_) (fun c4 => ?_)
  · rw [if_pos c4] at hf
    refine lv_aload_n B.1.1 B.1.2.1 dX8_takeBack_12 rfl (lv_at hl 0 rfl) ?_
    refine hy_get (k := 4) (v := .ref (G.2.2.2.1 36)) B w (cwq_9 G) rfl in_X8_takeBack_X8 (by decide) (by decide +kernel) rfl dX8_takeBack_13 ?_
    refine lv_iload_n B.1.1 B.1.2.1 dX8_takeBack_16 rfl (lv_at hl 1 rfl) ?_
    refine lv_iload_n B.1.1 B.1.2.1 dX8_takeBack_17 rfl (lv_at hl 2 rfl) ?_
    obtain ⟨h7, σ5, e6, hf⟩ := hy_pa_some hf
    refine hy_iast B w (cwq_36 G) (cws_36 G) h7 e6 dX8_takeBack_18 (fun H locs w => ?_)
    refine lv_iconst (v := 1) B.1.1 B.1.2.1 dX8_takeBack_19 (by decide) ?_
    exact hret _ _ _ _ _ _ (Option.some.inj hf).symm (Or.inr rfl) w dX8_takeBack_20
  · rw [if_neg c4] at hf
    refine lv_iconst (v := 0) B.1.1 B.1.2.1 dX8_takeBack_10 (by decide) ?_
    exact hret _ _ _ _ _ _ (Option.some.inj hf).symm (Or.inl rfl) w dX8_takeBack_11
set_option maxHeartbeats 4000000 in
set_option maxRecDepth 100000 in
theorem mX8_takeBack (l : Launch) (G : hy_G) (sz : Nat) (σ : hy_S) (x1 : Int32) (x2 : Int32) (o : hy_S × Int32) (hf : fX8_takeBack σ x1 x2 = some o) : hy_M l yX8_takeBack wsX8_takeBack ({ frames := 0, cells := 0, slots := 0, locals := 0 }) cw G σ sz [.ref (G.2.2.2.1 9), .int x1, .int x2] o := by
  refine Met.ofW (cc := cX8_takeBack) (maxL := 3) (ret := (some .boolean)) (by decide +kernel) rfl ?_
  intro p e s m args below meth c s₁ B hml hv
  obtain ⟨rfl, hsz, hP, hK, hD0, hN⟩ := hv
  have hx := B.exec
  have hb := B.bytes
  have hr := B.returns
  have hts := atoms_spec (ws := wsX8_takeBack) B.pre
  have hown : s.vm.findClass RX8 = some m.cls := findClass_of_methodNamed B.named
  have hlocks := B.notSynchronized
  subst hsz
  have hD := hD0.self (sz := s.heap.size)
  have hA : ∀ q : Nat, s.heap.size ≤ q → va_A (cw G σ) s.heap.size q := fun q h => Or.inr h
  have hS : va_S (va_A (cw G σ) s.heap.size) s.heap s.heap [] := va_S.rf
  have hl := lv_entry ([.ref (G.2.2.2.1 9), .int x1, .int x2]) (n := 3) (Nat.le_of_ble_eq_true rfl)
  rw [lg_entry_eq]
  generalize (lg_sl ([.ref (G.2.2.2.1 9), .int x1, .int x2]) ++ List.replicate (3 - (lg_sl ([.ref (G.2.2.2.1 9), .int x1, .int x2])).length) Slot.unset).toArray = ls at hl ⊢
  have hl : lv_has ls 3 [(0, .ref (G.2.2.2.1 9)), (1, .int x1), (2, .int x2)] := hl
  refine bX8_takeBack_0 (A := va_A (cw G σ) s.heap.size) hA ⟨⟨hx, hb, hml, hown, hts⟩, hK, hN⟩ ⟨Nat.le_of_ble_eq_true rfl, Nat.le_of_ble_eq_true rfl⟩ (o := o) (fun τ v pc H locs ls ho hz w d => ?_) σ x1 x2 _ _ _ hf ⟨hP, hD, hS⟩ hl
  exact W.zret hx hb hr (hy_bool hz) (fun t ht hW => ⟨⟨v, τ, rfl, ⟨by rw [ho], by rw [ho]⟩, by have h9 := w.1; rw [← ht] at h9; exact h9⟩, w.2.2.F ht⟩) w.2.2.2.2 d
theorem in_X8_recall_X8 : ∀ w ∈ u_ws RX8 TX8 10, w ∈ wsX8_recall := fun _ h => xt1 (xr (h))
noncomputable def fX8_recall_75 (k7 : hy_S → Int32 → Int32 → Option (hy_S × Int32)) (σ : hy_S) (x1 : Int32) (x2 : Int32) : Option (hy_S × Int32) := k7 σ x1 (x2 + 1)
noncomputable def fX8_recall_40 (k7 : hy_S → Int32 → Int32 → Option (hy_S × Int32)) (σ : hy_S) (s0 : Int32) (x1 : Int32) (x2 : Int32) : Option (hy_S × Int32) := hy_ga σ 25 60 x2 (fun v1 => (if x1 < v1 then fX8_recall_75 k7 σ x1 x2 else (if s0 = 0 then fX8_recall_75 k7 σ x1 x2 else hy_pa σ 27 60 (σ.2 9) x2 (fun σ6 => hy_pf σ6 9 ((σ6.2 9) + 1) (fun σ9 => fX8_recall_75 k7 σ9 x1 x2)))))
noncomputable def fX8_recall_35 (k7 : hy_S → Int32 → Int32 → Option (hy_S × Int32)) (σ : hy_S) (x1 : Int32) (x2 : Int32) : Option (hy_S × Int32) := fX8_recall_40 k7 σ 1 x1 x2
noncomputable def fX8_recall_7 : Nat → hy_S → Int32 → Int32 → Option (hy_S × Int32)
  | 0, _, _, _ => none
  | n + 1, σ, x1, x2 => (if (σ.2 8) ≤ x2 then some (σ, 0) else hy_ga σ 26 60 x2 (fun v2 => (if v2 = (-1) then fX8_recall_35 (fX8_recall_7 n) σ x1 x2 else hy_ga σ 26 60 x2 (fun v6 => (if v6 ≤ x1 then fX8_recall_40 (fX8_recall_7 n) σ 0 x1 x2 else fX8_recall_35 (fX8_recall_7 n) σ x1 x2)))))
noncomputable def fX8_recall (σ : hy_S) (x1 : Int32) : Option (hy_S × Int32) := hy_pf σ 9 0 (fun σ1 => fX8_recall_7 hy_fu σ1 x1 0)
set_option maxHeartbeats 4000000 in
set_option maxRecDepth 100000 in
theorem bX8_recall_75 (hA : ∀ q : Nat, s.heap.size ≤ q → A q) (B : hy_B RX8 cX8_recall 4 wsX8_recall G A p s m args c) (hR : 0 ≤ R.frames ∧ 0 ≤ R.locals) {o : hy_S × Int32}  {k7 : hy_S → Int32 → Int32 → Option (hy_S × Int32)} (hk7 : ∀ (σ : hy_S) (x1 : Int32) (x2 : Int32) (H : Heap) (locs : List Loc) (ls : Array Slot), k7 σ x1 x2 = some o → hy_w cw G A s σ H locs → lv_has ls 4 [(0, .ref (G.2.2.2.1 9)), (1, .int x1), (2, .int x2)] → W p l e R s m args below meth c H locs 0 0 Q (F0 m 7 ls [])) (hret : ∀ (σ : hy_S) (pc : Nat) (H : Heap) (locs : List Loc) (ls : Array Slot), o = (σ, 0) → hy_w cw G A s σ H locs → decode cX8_recall pc = .ok (.return_, 1) → W p l e R s m args below meth c H locs 0 0 Q (F0 m pc ls [])) (σ : hy_S) (x1 : Int32) (x2 : Int32) (H : Heap) (locs : List Loc) (ls : Array Slot) (hf : fX8_recall_75 k7 σ x1 x2 = some o) (w : hy_w cw G A s σ H locs) (hl : lv_has ls 4 [(0, .ref (G.2.2.2.1 9)), (1, .int x1), (2, .int x2)]) : W p l e R s m args below meth c H locs 0 0 Q (F0 m 75 ls []) := by
  unfold fX8_recall_75 at hf
  refine lv_iinc (v := (x2 + 1)) (lv' := [(2, .int (x2 + 1)), (0, .ref (G.2.2.2.1 9)), (1, .int x1)]) B.1.1 B.1.2.1 dX8_recall_75 hl (k := 2) rfl rfl (by decide) rfl (fun ls hl => ?_)
  refine lv_goto (tgt := 7) B.1.1 B.1.2.1 dX8_recall_78 (by decide) ?_
  exact hk7 _ _ _ _ _ _ hf w (lv_sub hl [1, 2, 0] rfl)
set_option maxHeartbeats 4000000 in
set_option maxRecDepth 100000 in
theorem bX8_recall_40 (hA : ∀ q : Nat, s.heap.size ≤ q → A q) (B : hy_B RX8 cX8_recall 4 wsX8_recall G A p s m args c) (hR : 0 ≤ R.frames ∧ 0 ≤ R.locals) {o : hy_S × Int32}  {k7 : hy_S → Int32 → Int32 → Option (hy_S × Int32)} (hk7 : ∀ (σ : hy_S) (x1 : Int32) (x2 : Int32) (H : Heap) (locs : List Loc) (ls : Array Slot), k7 σ x1 x2 = some o → hy_w cw G A s σ H locs → lv_has ls 4 [(0, .ref (G.2.2.2.1 9)), (1, .int x1), (2, .int x2)] → W p l e R s m args below meth c H locs 0 0 Q (F0 m 7 ls [])) (hret : ∀ (σ : hy_S) (pc : Nat) (H : Heap) (locs : List Loc) (ls : Array Slot), o = (σ, 0) → hy_w cw G A s σ H locs → decode cX8_recall pc = .ok (.return_, 1) → W p l e R s m args below meth c H locs 0 0 Q (F0 m pc ls [])) (σ : hy_S) (s0 : Int32) (x1 : Int32) (x2 : Int32) (H : Heap) (locs : List Loc) (ls : Array Slot) (hf : fX8_recall_40 k7 σ s0 x1 x2 = some o) (w : hy_w cw G A s σ H locs) (hl : lv_has ls 4 [(0, .ref (G.2.2.2.1 9)), (1, .int x1), (2, .int x2)]) : W p l e R s m args below meth c H locs 0 0 Q (F0 m 40 ls [.int s0]) := by
  unfold fX8_recall_40 at hf
  refine lv_istore_n (lv' := [(3, .int s0), (0, .ref (G.2.2.2.1 9)), (1, .int x1), (2, .int x2)]) B.1.1 B.1.2.1 dX8_recall_40 rfl hl (by decide) rfl (fun ls hl => ?_)
  refine lv_aload_n B.1.1 B.1.2.1 dX8_recall_41 rfl (lv_at hl 1 rfl) ?_
  refine hy_get (k := 3) (v := .ref (G.2.2.2.1 35)) B w (cwq_9 G) rfl in_X8_recall_X8 (by decide) (by decide +kernel) rfl dX8_recall_42 ?_
  refine lv_iload_n B.1.1 B.1.2.1 dX8_recall_45 rfl (lv_at hl 3 rfl) ?_
  obtain ⟨h3, v1, e2, hf⟩ := hy_ga_some hf
  refine hy_iald B w (cwq_35 G) h3 e2 dX8_recall_46 ?_
  refine lv_iload_n B.1.1 B.1.2.1 dX8_recall_47 rfl (lv_at hl 2 rfl) ?_
  refine lv_icmp_gt (tgt := 75) B.1.1 B.1.2.1 dX8_recall_48 (by decide) (fun c4 => ?_) (fun c4 => ?_)
  · rw [if_pos c4] at hf
    exact bX8_recall_75 hA B hR hk7 hret _ _ _ _ _ _ hf w (lv_sub hl [1, 2, 3] rfl)
  · rw [if_neg c4] at hf
    refine lv_iload_n B.1.1 B.1.2.1 dX8_recall_51 rfl (lv_at hl 0 rfl) ?_
    refine lv_if_eq (tgt := 75) B.1.1 B.1.2.1 dX8_recall_52 (by decide) (fun c5 => ?_) (fun c5 => ?_)
    · rw [if_pos c5] at hf
      exact bX8_recall_75 hA B hR hk7 hret _ _ _ _ _ _ hf w (lv_sub hl [1, 2, 3] rfl)
    · rw [if_neg c5] at hf
      refine lv_aload_n B.1.1 B.1.2.1 dX8_recall_55 rfl (lv_at hl 1 rfl) ?_
      refine hy_get (k := 5) (v := .ref (G.2.2.2.1 37)) B w (cwq_9 G) rfl in_X8_recall_X8 (by decide) (by decide +kernel) rfl dX8_recall_56 ?_
      refine lv_aload_n B.1.1 B.1.2.1 dX8_recall_59 rfl (lv_at hl 1 rfl) ?_
      refine hy_get (k := 9) (v := .int (σ.2 9)) B w (cwq_9 G) rfl in_X8_recall_X8 (by decide) (by decide +kernel) rfl dX8_recall_60 ?_
      refine lv_iload_n B.1.1 B.1.2.1 dX8_recall_63 rfl (lv_at hl 3 rfl) ?_
      obtain ⟨h8, σ6, e7, hf⟩ := hy_pa_some hf
      refine hy_iast B w (cwq_37 G) (cws_37 G) h8 e7 dX8_recall_64 (fun H locs w => ?_)
      refine lv_aload_n B.1.1 B.1.2.1 dX8_recall_65 rfl (lv_at hl 1 rfl) ?_
      refine lv_dup B.1.1 B.1.2.1 dX8_recall_66 rfl ?_
      refine hy_get (k := 9) (v := .int (σ6.2 9)) B w (cwq_9 G) rfl in_X8_recall_X8 (by decide) (by decide +kernel) rfl dX8_recall_67 ?_
      refine lv_iconst (v := 1) B.1.1 B.1.2.1 dX8_recall_70 (by decide) ?_
      refine lv_iadd B.1.1 B.1.2.1 dX8_recall_71 ?_
      obtain ⟨σ9, e10, hf⟩ := hy_pf_some hf
      refine hy_put (k := 9) B w (cwq_9 G) rfl in_X8_recall_X8 tyX8 tyX8_ok nmX8 (by decide) (by decide +kernel) rfl rfl (by show 9 < 10; decide) (cwp_9 G) e10 dX8_recall_72 (fun H locs w => ?_)
      exact bX8_recall_75 hA B hR hk7 hret _ _ _ _ _ _ hf w (lv_sub hl [1, 2, 3] rfl)
set_option maxHeartbeats 4000000 in
set_option maxRecDepth 100000 in
theorem bX8_recall_35 (hA : ∀ q : Nat, s.heap.size ≤ q → A q) (B : hy_B RX8 cX8_recall 4 wsX8_recall G A p s m args c) (hR : 0 ≤ R.frames ∧ 0 ≤ R.locals) {o : hy_S × Int32}  {k7 : hy_S → Int32 → Int32 → Option (hy_S × Int32)} (hk7 : ∀ (σ : hy_S) (x1 : Int32) (x2 : Int32) (H : Heap) (locs : List Loc) (ls : Array Slot), k7 σ x1 x2 = some o → hy_w cw G A s σ H locs → lv_has ls 4 [(0, .ref (G.2.2.2.1 9)), (1, .int x1), (2, .int x2)] → W p l e R s m args below meth c H locs 0 0 Q (F0 m 7 ls [])) (hret : ∀ (σ : hy_S) (pc : Nat) (H : Heap) (locs : List Loc) (ls : Array Slot), o = (σ, 0) → hy_w cw G A s σ H locs → decode cX8_recall pc = .ok (.return_, 1) → W p l e R s m args below meth c H locs 0 0 Q (F0 m pc ls [])) (σ : hy_S) (x1 : Int32) (x2 : Int32) (H : Heap) (locs : List Loc) (ls : Array Slot) (hf : fX8_recall_35 k7 σ x1 x2 = some o) (w : hy_w cw G A s σ H locs) (hl : lv_has ls 4 [(0, .ref (G.2.2.2.1 9)), (1, .int x1), (2, .int x2)]) : W p l e R s m args below meth c H locs 0 0 Q (F0 m 35 ls []) := by
  unfold fX8_recall_35 at hf
  refine lv_iconst (v := 1) B.1.1 B.1.2.1 dX8_recall_35 (by decide) ?_
  refine lv_goto (tgt := 40) B.1.1 B.1.2.1 dX8_recall_36 (by decide) ?_
  exact bX8_recall_40 hA B hR hk7 hret _ _ _ _ _ _ _ hf w (lv_sub hl [0, 1, 2] rfl)
set_option maxHeartbeats 4000000 in
set_option maxRecDepth 100000 in
theorem bX8_recall_7 (hA : ∀ q : Nat, s.heap.size ≤ q → A q) (B : hy_B RX8 cX8_recall 4 wsX8_recall G A p s m args c) (hR : 0 ≤ R.frames ∧ 0 ≤ R.locals) {o : hy_S × Int32}  (hret : ∀ (σ : hy_S) (pc : Nat) (H : Heap) (locs : List Loc) (ls : Array Slot), o = (σ, 0) → hy_w cw G A s σ H locs → decode cX8_recall pc = .ok (.return_, 1) → W p l e R s m args below meth c H locs 0 0 Q (F0 m pc ls [])) : ∀ (n : Nat) (σ : hy_S) (x1 : Int32) (x2 : Int32) (H : Heap) (locs : List Loc) (ls : Array Slot), fX8_recall_7 n σ x1 x2 = some o → hy_w cw G A s σ H locs → lv_has ls 4 [(0, .ref (G.2.2.2.1 9)), (1, .int x1), (2, .int x2)] → W p l e R s m args below meth c H locs 0 0 Q (F0 m 7 ls []) := by
  intro n
  induction n with
  | zero => intro σ x1 x2 H locs ls hf; cases hf
  | succ n hk7 =>
    intro σ x1 x2 H locs ls hf w hl
    unfold fX8_recall_7 at hf
    refine lv_iload_n B.1.1 B.1.2.1 dX8_recall_7 rfl (lv_at hl 2 rfl) ?_
    refine lv_aload_n B.1.1 B.1.2.1 dX8_recall_8 rfl (lv_at hl 0 rfl) ?_
    refine hy_get (k := 8) (v := .int (σ.2 8)) B w (cwq_9 G) rfl in_X8_recall_X8 (by decide) (by decide +kernel) rfl dX8_recall_9 ?_
    refine lv_icmp_ge (tgt := 81) B.1.1 B.1.2.1 dX8_recall_12 (by decide) (fun c1 => ?_) (fun c1 => ?_)
    · rw [if_pos c1] at hf
      exact hret _ _ _ _ _ (Option.some.inj hf).symm w dX8_recall_81
    · rw [if_neg c1] at hf
      refine lv_aload_n B.1.1 B.1.2.1 dX8_recall_15 rfl (lv_at hl 0 rfl) ?_
      refine hy_get (k := 4) (v := .ref (G.2.2.2.1 36)) B w (cwq_9 G) rfl in_X8_recall_X8 (by decide) (by decide +kernel) rfl dX8_recall_16 ?_
      refine lv_iload_n B.1.1 B.1.2.1 dX8_recall_19 rfl (lv_at hl 2 rfl) ?_
      obtain ⟨h4, v2, e3, hf⟩ := hy_ga_some hf
      refine hy_iald B w (cwq_36 G) h4 e3 dX8_recall_20 ?_
      refine lv_iconst (v := (-1)) B.1.1 B.1.2.1 dX8_recall_21 (by decide) ?_
      refine lv_icmp_eq (tgt := 35) B.1.1 B.1.2.1 dX8_recall_22 (by decide) (fun c5 => ?_) (fun c5 => ?_)
      · rw [if_pos c5] at hf
        exact bX8_recall_35 hA B hR hk7 hret _ _ _ _ _ _ hf w (lv_sub hl [0, 1, 2] rfl)
      · rw [if_neg c5] at hf
        refine lv_iload_n B.1.1 B.1.2.1 dX8_recall_25 rfl (lv_at hl 1 rfl) ?_
        refine lv_aload_n B.1.1 B.1.2.1 dX8_recall_26 rfl (lv_at hl 0 rfl) ?_
        refine hy_get (k := 4) (v := .ref (G.2.2.2.1 36)) B w (cwq_9 G) rfl in_X8_recall_X8 (by decide) (by decide +kernel) rfl dX8_recall_27 ?_
        refine lv_iload_n B.1.1 B.1.2.1 dX8_recall_30 rfl (lv_at hl 2 rfl) ?_
        obtain ⟨h8, v6, e7, hf⟩ := hy_ga_some hf
        refine hy_iald B w (cwq_36 G) h8 e7 dX8_recall_31 ?_
        refine lv_icmp_ge (tgt := 39) B.1.1 B.1.2.1 dX8_recall_32 (by decide) (fun c9 => ?_) (fun c9 => ?_)
        · rw [if_pos c9] at hf
          refine lv_iconst (v := 0) B.1.1 B.1.2.1 dX8_recall_39 (by decide) ?_
          exact bX8_recall_40 hA B hR hk7 hret _ _ _ _ _ _ _ hf w (lv_sub hl [0, 1, 2] rfl)
        · rw [if_neg c9] at hf
          exact bX8_recall_35 hA B hR hk7 hret _ _ _ _ _ _ hf w (lv_sub hl [0, 1, 2] rfl)
set_option maxHeartbeats 4000000 in
set_option maxRecDepth 100000 in
theorem bX8_recall_0 (hA : ∀ q : Nat, s.heap.size ≤ q → A q) (B : hy_B RX8 cX8_recall 4 wsX8_recall G A p s m args c) (hR : 0 ≤ R.frames ∧ 0 ≤ R.locals) {o : hy_S × Int32}  (hret : ∀ (σ : hy_S) (pc : Nat) (H : Heap) (locs : List Loc) (ls : Array Slot), o = (σ, 0) → hy_w cw G A s σ H locs → decode cX8_recall pc = .ok (.return_, 1) → W p l e R s m args below meth c H locs 0 0 Q (F0 m pc ls [])) (σ : hy_S) (x1 : Int32) (H : Heap) (locs : List Loc) (ls : Array Slot) (hf : fX8_recall σ x1 = some o) (w : hy_w cw G A s σ H locs) (hl : lv_has ls 4 [(0, .ref (G.2.2.2.1 9)), (1, .int x1)]) : W p l e R s m args below meth c H locs 0 0 Q (F0 m 0 ls []) := by
  unfold fX8_recall at hf
  refine lv_aload_n B.1.1 B.1.2.1 dX8_recall_0 rfl (lv_at hl 0 rfl) ?_
  refine lv_iconst (v := 0) B.1.1 B.1.2.1 dX8_recall_1 (by decide) ?_
  obtain ⟨σ1, e2, hf⟩ := hy_pf_some hf
  refine hy_put (k := 9) B w (cwq_9 G) rfl in_X8_recall_X8 tyX8 tyX8_ok nmX8 (by decide) (by decide +kernel) rfl rfl (by show 9 < 10; decide) (cwp_9 G) e2 dX8_recall_2 (fun H locs w => ?_)
  refine lv_iconst (v := 0) B.1.1 B.1.2.1 dX8_recall_5 (by decide) ?_
  refine lv_istore_n (lv' := [(2, .int 0), (0, .ref (G.2.2.2.1 9)), (1, .int x1)]) B.1.1 B.1.2.1 dX8_recall_6 rfl hl (by decide) rfl (fun ls hl => ?_)
  exact bX8_recall_7 hA B hR  hret _ _ _ _ _ _ _ hf w (lv_sub hl [1, 2, 0] rfl)
set_option maxHeartbeats 4000000 in
set_option maxRecDepth 100000 in
theorem mX8_recall (l : Launch) (G : hy_G) (sz : Nat) (σ : hy_S) (x1 : Int32) (o : hy_S × Int32) (hf : fX8_recall σ x1 = some o) : hy_Mv l yX8_recall wsX8_recall ({ frames := 0, cells := 0, slots := 0, locals := 0 }) cw G σ sz [.ref (G.2.2.2.1 9), .int x1] o := by
  refine Met.ofW (cc := cX8_recall) (maxL := 4) (ret := none) (by decide +kernel) rfl ?_
  intro p e s m args below meth c s₁ B hml hv
  obtain ⟨rfl, hsz, hP, hK, hD0, hN⟩ := hv
  have hx := B.exec
  have hb := B.bytes
  have hr := B.returns
  have hts := atoms_spec (ws := wsX8_recall) B.pre
  have hown : s.vm.findClass RX8 = some m.cls := findClass_of_methodNamed B.named
  have hlocks := B.notSynchronized
  subst hsz
  have hD := hD0.self (sz := s.heap.size)
  have hA : ∀ q : Nat, s.heap.size ≤ q → va_A (cw G σ) s.heap.size q := fun q h => Or.inr h
  have hS : va_S (va_A (cw G σ) s.heap.size) s.heap s.heap [] := va_S.rf
  have hl := lv_entry ([.ref (G.2.2.2.1 9), .int x1]) (n := 4) (Nat.le_of_ble_eq_true rfl)
  rw [lg_entry_eq]
  generalize (lg_sl ([.ref (G.2.2.2.1 9), .int x1]) ++ List.replicate (4 - (lg_sl ([.ref (G.2.2.2.1 9), .int x1])).length) Slot.unset).toArray = ls at hl ⊢
  have hl : lv_has ls 4 [(0, .ref (G.2.2.2.1 9)), (1, .int x1)] := hl
  refine bX8_recall_0 (A := va_A (cw G σ) s.heap.size) hA ⟨⟨hx, hb, hml, hown, hts⟩, hK, hN⟩ ⟨Nat.le_of_ble_eq_true rfl, Nat.le_of_ble_eq_true rfl⟩ (o := o) (fun τ pc H locs ls ho w d => ?_) σ x1 _ _ _ hf ⟨hP, hD, hS⟩ hl
  exact W.vret hx hb hr (fun t ht hW => ⟨⟨τ, rfl, by rw [ho], by have h9 := w.1; rw [← ht] at h9; exact h9⟩, w.2.2.F ht⟩) w.2.2.2.2 d
theorem in_X8_pushOn_X8 : ∀ w ∈ u_ws RX8 TX8 10, w ∈ wsX8_pushOn := fun _ h => xt1 (xr (h))
noncomputable def fX8_pushOn_84 (k4 : hy_S → Int32 → Int32 → Option (hy_S × Int32)) (σ : hy_S) (x1 : Int32) (x2 : Int32) : Option (hy_S × Int32) := k4 σ x1 (x2 + 1)
noncomputable def fX8_pushOn_4 : Nat → hy_S → Int32 → Int32 → Option (hy_S × Int32)
  | 0, _, _, _ => none
  | n + 1, σ, x1, x2 => (if (σ.2 9) ≤ x2 then hy_ck (x1 = 0 ∨ x1 = 1) (some (σ, x1)) else hy_ga σ 27 60 x2 (fun v3 => hy_ga σ 22 60 v3 (fun v6 => hy_ga σ 28 13 v6 (fun v9 => (if v9 = (-1000000000) then fX8_pushOn_84 (fX8_pushOn_4 n) σ x1 x2 else hy_ga σ 24 60 v3 (fun v13 => hy_ga σ 23 60 v3 (fun v16 => hy_ga σ 28 13 v16 (fun v19 => (if (v9 + v13) ≤ v19 then fX8_pushOn_84 (fX8_pushOn_4 n) σ x1 x2 else hy_ga σ 23 60 v3 (fun v23 => hy_ga σ 24 60 v3 (fun v26 => hy_pa σ 28 13 v23 (v9 + v26) (fun σ29 => fX8_pushOn_84 (fX8_pushOn_4 n) σ29 1 x2))))))))))))
noncomputable def fX8_pushOn (σ : hy_S) : Option (hy_S × Int32) := fX8_pushOn_4 hy_fu σ 0 0
set_option maxHeartbeats 4000000 in
set_option maxRecDepth 100000 in
theorem bX8_pushOn_84 (hA : ∀ q : Nat, s.heap.size ≤ q → A q) (B : hy_B RX8 cX8_pushOn 5 wsX8_pushOn G A p s m args c) (hR : 0 ≤ R.frames ∧ 0 ≤ R.locals) {o : hy_S × Int32}  {k4 : hy_S → Int32 → Int32 → Option (hy_S × Int32)} (hk4 : ∀ (σ : hy_S) (x1 : Int32) (x2 : Int32) (H : Heap) (locs : List Loc) (ls : Array Slot), k4 σ x1 x2 = some o → hy_w cw G A s σ H locs → lv_has ls 5 [(0, .ref (G.2.2.2.1 9)), (1, .int x1), (2, .int x2)] → W p l e R s m args below meth c H locs 0 0 Q (F0 m 4 ls [])) (hret : ∀ (σ : hy_S) (v : Int32) (pc : Nat) (H : Heap) (locs : List Loc) (ls : Array Slot), o = (σ, v) → (v = 0 ∨ v = 1) → hy_w cw G A s σ H locs → decode cX8_pushOn pc = .ok (.ireturn, 1) → W p l e R s m args below meth c H locs 0 0 Q (F0 m pc ls [.int v])) (σ : hy_S) (x1 : Int32) (x2 : Int32) (H : Heap) (locs : List Loc) (ls : Array Slot) (hf : fX8_pushOn_84 k4 σ x1 x2 = some o) (w : hy_w cw G A s σ H locs) (hl : lv_has ls 5 [(0, .ref (G.2.2.2.1 9)), (1, .int x1), (2, .int x2)]) : W p l e R s m args below meth c H locs 0 0 Q (F0 m 84 ls []) := by
  unfold fX8_pushOn_84 at hf
  refine lv_iinc (v := (x2 + 1)) (lv' := [(2, .int (x2 + 1)), (0, .ref (G.2.2.2.1 9)), (1, .int x1)]) B.1.1 B.1.2.1 dX8_pushOn_84 hl (k := 2) rfl rfl (by decide) rfl (fun ls hl => ?_)
  refine lv_goto (tgt := 4) B.1.1 B.1.2.1 dX8_pushOn_87 (by decide) ?_
  exact hk4 _ _ _ _ _ _ hf w (lv_sub hl [1, 2, 0] rfl)
set_option maxHeartbeats 4000000 in
set_option maxRecDepth 100000 in
theorem bX8_pushOn_4 (hA : ∀ q : Nat, s.heap.size ≤ q → A q) (B : hy_B RX8 cX8_pushOn 5 wsX8_pushOn G A p s m args c) (hR : 0 ≤ R.frames ∧ 0 ≤ R.locals) {o : hy_S × Int32}  (hret : ∀ (σ : hy_S) (v : Int32) (pc : Nat) (H : Heap) (locs : List Loc) (ls : Array Slot), o = (σ, v) → (v = 0 ∨ v = 1) → hy_w cw G A s σ H locs → decode cX8_pushOn pc = .ok (.ireturn, 1) → W p l e R s m args below meth c H locs 0 0 Q (F0 m pc ls [.int v])) : ∀ (n : Nat) (σ : hy_S) (x1 : Int32) (x2 : Int32) (H : Heap) (locs : List Loc) (ls : Array Slot), fX8_pushOn_4 n σ x1 x2 = some o → hy_w cw G A s σ H locs → lv_has ls 5 [(0, .ref (G.2.2.2.1 9)), (1, .int x1), (2, .int x2)] → W p l e R s m args below meth c H locs 0 0 Q (F0 m 4 ls []) := by
  intro n
  induction n with
  | zero => intro σ x1 x2 H locs ls hf; cases hf
  | succ n hk4 =>
    intro σ x1 x2 H locs ls hf w hl
    unfold fX8_pushOn_4 at hf
    refine lv_iload_n B.1.1 B.1.2.1 dX8_pushOn_4 rfl (lv_at hl 2 rfl) ?_
    refine lv_aload_n B.1.1 B.1.2.1 dX8_pushOn_5 rfl (lv_at hl 0 rfl) ?_
    refine hy_get (k := 9) (v := .int (σ.2 9)) B w (cwq_9 G) rfl in_X8_pushOn_X8 (by decide) (by decide +kernel) rfl dX8_pushOn_6 ?_
    refine lv_icmp_ge (tgt := 90) B.1.1 B.1.2.1 dX8_pushOn_9 (by decide) (fun c1 => ?_) (fun c1 => ?_)
    · rw [if_pos c1] at hf
      refine lv_iload_n B.1.1 B.1.2.1 dX8_pushOn_90 rfl (lv_at hl 1 rfl) ?_
      obtain ⟨c2, hf⟩ := hy_ck_some hf
      exact hret _ _ _ _ _ _ (Option.some.inj hf).symm c2 w dX8_pushOn_91
    · rw [if_neg c1] at hf
      refine lv_aload_n B.1.1 B.1.2.1 dX8_pushOn_12 rfl (lv_at hl 0 rfl) ?_
      refine hy_get (k := 5) (v := .ref (G.2.2.2.1 37)) B w (cwq_9 G) rfl in_X8_pushOn_X8 (by decide) (by decide +kernel) rfl dX8_pushOn_13 ?_
      refine lv_iload_n B.1.1 B.1.2.1 dX8_pushOn_16 rfl (lv_at hl 2 rfl) ?_
      obtain ⟨h5, v3, e4, hf⟩ := hy_ga_some hf
      refine hy_iald B w (cwq_37 G) h5 e4 dX8_pushOn_17 ?_
      refine lv_istore_n (lv' := [(3, .int v3), (0, .ref (G.2.2.2.1 9)), (1, .int x1), (2, .int x2)]) B.1.1 B.1.2.1 dX8_pushOn_18 rfl hl (by decide) rfl (fun ls hl => ?_)
      refine lv_aload_n B.1.1 B.1.2.1 dX8_pushOn_19 rfl (lv_at hl 1 rfl) ?_
      refine hy_get (k := 6) (v := .ref (G.2.2.2.1 38)) B w (cwq_9 G) rfl in_X8_pushOn_X8 (by decide) (by decide +kernel) rfl dX8_pushOn_20 ?_
      refine lv_aload_n B.1.1 B.1.2.1 dX8_pushOn_23 rfl (lv_at hl 1 rfl) ?_
      refine hy_get (k := 0) (v := .ref (G.2.2.2.1 32)) B w (cwq_9 G) rfl in_X8_pushOn_X8 (by decide) (by decide +kernel) rfl dX8_pushOn_24 ?_
      refine lv_iload_n B.1.1 B.1.2.1 dX8_pushOn_27 rfl (lv_at hl 0 rfl) ?_
      obtain ⟨h8, v6, e7, hf⟩ := hy_ga_some hf
      refine hy_iald B w (cwq_32 G) h8 e7 dX8_pushOn_28 ?_
      obtain ⟨h11, v9, e10, hf⟩ := hy_ga_some hf
      refine hy_iald B w (cwq_38 G) h11 e10 dX8_pushOn_29 ?_
      refine lv_istore (lv' := [(4, .int v9), (3, .int v3), (0, .ref (G.2.2.2.1 9)), (1, .int x1), (2, .int x2)]) B.1.1 B.1.2.1 dX8_pushOn_30 hl (by decide) rfl (fun ls hl => ?_)
      refine lv_iload B.1.1 B.1.2.1 dX8_pushOn_32 (lv_at hl 0 rfl) ?_
      refine lv_ldc (v := (-1000000000)) B.1.1 B.1.2.1 B.1.2.2.2.1 (B.1.2.2.2.2 (.constant RX8 51 (-1000000000)) (by decide +kernel)) dX8_pushOn_34 ?_
      refine lv_icmp_eq (tgt := 84) B.1.1 B.1.2.1 dX8_pushOn_36 (by decide) (fun c12 => ?_) (fun c12 => ?_)
      · rw [if_pos c12] at hf
        exact bX8_pushOn_84 hA B hR hk4 hret _ _ _ _ _ _ hf w (lv_sub hl [2, 3, 4] rfl)
      · rw [if_neg c12] at hf
        refine lv_iload B.1.1 B.1.2.1 dX8_pushOn_39 (lv_at hl 0 rfl) ?_
        refine lv_aload_n B.1.1 B.1.2.1 dX8_pushOn_41 rfl (lv_at hl 2 rfl) ?_
        refine hy_get (k := 2) (v := .ref (G.2.2.2.1 34)) B w (cwq_9 G) rfl in_X8_pushOn_X8 (by decide) (by decide +kernel) rfl dX8_pushOn_42 ?_
        refine lv_iload_n B.1.1 B.1.2.1 dX8_pushOn_45 rfl (lv_at hl 1 rfl) ?_
        obtain ⟨h15, v13, e14, hf⟩ := hy_ga_some hf
        refine hy_iald B w (cwq_34 G) h15 e14 dX8_pushOn_46 ?_
        refine lv_iadd B.1.1 B.1.2.1 dX8_pushOn_47 ?_
        refine lv_aload_n B.1.1 B.1.2.1 dX8_pushOn_48 rfl (lv_at hl 2 rfl) ?_
        refine hy_get (k := 6) (v := .ref (G.2.2.2.1 38)) B w (cwq_9 G) rfl in_X8_pushOn_X8 (by decide) (by decide +kernel) rfl dX8_pushOn_49 ?_
        refine lv_aload_n B.1.1 B.1.2.1 dX8_pushOn_52 rfl (lv_at hl 2 rfl) ?_
        refine hy_get (k := 1) (v := .ref (G.2.2.2.1 33)) B w (cwq_9 G) rfl in_X8_pushOn_X8 (by decide) (by decide +kernel) rfl dX8_pushOn_53 ?_
        refine lv_iload_n B.1.1 B.1.2.1 dX8_pushOn_56 rfl (lv_at hl 1 rfl) ?_
        obtain ⟨h18, v16, e17, hf⟩ := hy_ga_some hf
        refine hy_iald B w (cwq_33 G) h18 e17 dX8_pushOn_57 ?_
        obtain ⟨h21, v19, e20, hf⟩ := hy_ga_some hf
        refine hy_iald B w (cwq_38 G) h21 e20 dX8_pushOn_58 ?_
        refine lv_icmp_le (tgt := 84) B.1.1 B.1.2.1 dX8_pushOn_59 (by decide) (fun c22 => ?_) (fun c22 => ?_)
        · rw [if_pos c22] at hf
          exact bX8_pushOn_84 hA B hR hk4 hret _ _ _ _ _ _ hf w (lv_sub hl [2, 3, 4] rfl)
        · rw [if_neg c22] at hf
          refine lv_aload_n B.1.1 B.1.2.1 dX8_pushOn_62 rfl (lv_at hl 2 rfl) ?_
          refine hy_get (k := 6) (v := .ref (G.2.2.2.1 38)) B w (cwq_9 G) rfl in_X8_pushOn_X8 (by decide) (by decide +kernel) rfl dX8_pushOn_63 ?_
          refine lv_aload_n B.1.1 B.1.2.1 dX8_pushOn_66 rfl (lv_at hl 2 rfl) ?_
          refine hy_get (k := 1) (v := .ref (G.2.2.2.1 33)) B w (cwq_9 G) rfl in_X8_pushOn_X8 (by decide) (by decide +kernel) rfl dX8_pushOn_67 ?_
          refine lv_iload_n B.1.1 B.1.2.1 dX8_pushOn_70 rfl (lv_at hl 1 rfl) ?_
          obtain ⟨h25, v23, e24, hf⟩ := hy_ga_some hf
          refine hy_iald B w (cwq_33 G) h25 e24 dX8_pushOn_71 ?_
          refine lv_iload B.1.1 B.1.2.1 dX8_pushOn_72 (lv_at hl 0 rfl) ?_
          refine lv_aload_n B.1.1 B.1.2.1 dX8_pushOn_74 rfl (lv_at hl 2 rfl) ?_
          refine hy_get (k := 2) (v := .ref (G.2.2.2.1 34)) B w (cwq_9 G) rfl in_X8_pushOn_X8 (by decide) (by decide +kernel) rfl dX8_pushOn_75 ?_
          refine lv_iload_n B.1.1 B.1.2.1 dX8_pushOn_78 rfl (lv_at hl 1 rfl) ?_
          obtain ⟨h28, v26, e27, hf⟩ := hy_ga_some hf
          refine hy_iald B w (cwq_34 G) h28 e27 dX8_pushOn_79 ?_
          refine lv_iadd B.1.1 B.1.2.1 dX8_pushOn_80 ?_
          obtain ⟨h31, σ29, e30, hf⟩ := hy_pa_some hf
          refine hy_iast B w (cwq_38 G) (cws_38 G) h31 e30 dX8_pushOn_81 (fun H locs w => ?_)
          refine lv_iconst (v := 1) B.1.1 B.1.2.1 dX8_pushOn_82 (by decide) ?_
          refine lv_istore_n (lv' := [(1, .int 1), (4, .int v9), (3, .int v3), (0, .ref (G.2.2.2.1 9)), (2, .int x2)]) B.1.1 B.1.2.1 dX8_pushOn_83 rfl hl (by decide) rfl (fun ls hl => ?_)
          exact bX8_pushOn_84 hA B hR hk4 hret _ _ _ _ _ _ hf w (lv_sub hl [3, 0, 4] rfl)
set_option maxHeartbeats 4000000 in
set_option maxRecDepth 100000 in
theorem bX8_pushOn_0 (hA : ∀ q : Nat, s.heap.size ≤ q → A q) (B : hy_B RX8 cX8_pushOn 5 wsX8_pushOn G A p s m args c) (hR : 0 ≤ R.frames ∧ 0 ≤ R.locals) {o : hy_S × Int32}  (hret : ∀ (σ : hy_S) (v : Int32) (pc : Nat) (H : Heap) (locs : List Loc) (ls : Array Slot), o = (σ, v) → (v = 0 ∨ v = 1) → hy_w cw G A s σ H locs → decode cX8_pushOn pc = .ok (.ireturn, 1) → W p l e R s m args below meth c H locs 0 0 Q (F0 m pc ls [.int v])) (σ : hy_S) (H : Heap) (locs : List Loc) (ls : Array Slot) (hf : fX8_pushOn σ = some o) (w : hy_w cw G A s σ H locs) (hl : lv_has ls 5 [(0, .ref (G.2.2.2.1 9))]) : W p l e R s m args below meth c H locs 0 0 Q (F0 m 0 ls []) := by
  unfold fX8_pushOn at hf
  refine lv_iconst (v := 0) B.1.1 B.1.2.1 dX8_pushOn_0 (by decide) ?_
  refine lv_istore_n (lv' := [(1, .int 0), (0, .ref (G.2.2.2.1 9))]) B.1.1 B.1.2.1 dX8_pushOn_1 rfl hl (by decide) rfl (fun ls hl => ?_)
  refine lv_iconst (v := 0) B.1.1 B.1.2.1 dX8_pushOn_2 (by decide) ?_
  refine lv_istore_n (lv' := [(2, .int 0), (1, .int 0), (0, .ref (G.2.2.2.1 9))]) B.1.1 B.1.2.1 dX8_pushOn_3 rfl hl (by decide) rfl (fun ls hl => ?_)
  exact bX8_pushOn_4 hA B hR  hret _ _ _ _ _ _ _ hf w (lv_sub hl [2, 1, 0] rfl)
set_option maxHeartbeats 4000000 in
set_option maxRecDepth 100000 in
theorem mX8_pushOn (l : Launch) (G : hy_G) (sz : Nat) (σ : hy_S) (o : hy_S × Int32) (hf : fX8_pushOn σ = some o) : hy_M l yX8_pushOn wsX8_pushOn ({ frames := 0, cells := 0, slots := 0, locals := 0 }) cw G σ sz [.ref (G.2.2.2.1 9)] o := by
  refine Met.ofW (cc := cX8_pushOn) (maxL := 5) (ret := (some .boolean)) (by decide +kernel) rfl ?_
  intro p e s m args below meth c s₁ B hml hv
  obtain ⟨rfl, hsz, hP, hK, hD0, hN⟩ := hv
  have hx := B.exec
  have hb := B.bytes
  have hr := B.returns
  have hts := atoms_spec (ws := wsX8_pushOn) B.pre
  have hown : s.vm.findClass RX8 = some m.cls := findClass_of_methodNamed B.named
  have hlocks := B.notSynchronized
  subst hsz
  have hD := hD0.self (sz := s.heap.size)
  have hA : ∀ q : Nat, s.heap.size ≤ q → va_A (cw G σ) s.heap.size q := fun q h => Or.inr h
  have hS : va_S (va_A (cw G σ) s.heap.size) s.heap s.heap [] := va_S.rf
  have hl := lv_entry ([.ref (G.2.2.2.1 9)]) (n := 5) (Nat.le_of_ble_eq_true rfl)
  rw [lg_entry_eq]
  generalize (lg_sl ([.ref (G.2.2.2.1 9)]) ++ List.replicate (5 - (lg_sl ([.ref (G.2.2.2.1 9)])).length) Slot.unset).toArray = ls at hl ⊢
  have hl : lv_has ls 5 [(0, .ref (G.2.2.2.1 9))] := hl
  refine bX8_pushOn_0 (A := va_A (cw G σ) s.heap.size) hA ⟨⟨hx, hb, hml, hown, hts⟩, hK, hN⟩ ⟨Nat.le_of_ble_eq_true rfl, Nat.le_of_ble_eq_true rfl⟩ (o := o) (fun τ v pc H locs ls ho hz w d => ?_) σ _ _ _ hf ⟨hP, hD, hS⟩ hl
  exact W.zret hx hb hr (hy_bool hz) (fun t ht hW => ⟨⟨v, τ, rfl, ⟨by rw [ho], by rw [ho]⟩, by have h9 := w.1; rw [← ht] at h9; exact h9⟩, w.2.2.F ht⟩) w.2.2.2.2 d
noncomputable def fX8_settles_2 : Nat → hy_S → Int32 → Option (hy_S × Int32)
  | 0, _, _ => none
  | n + 1, σ, x1 => (if 13 ≤ x1 then some (σ, 0) else hy_bd (fX8_pushOn σ) (fun σ2 v3 => (if v3 = 0 then some (σ2, 1) else (fX8_settles_2 n) σ2 (x1 + 1))))
noncomputable def fX8_settles (σ : hy_S) : Option (hy_S × Int32) := fX8_settles_2 hy_fu σ 0
set_option maxHeartbeats 4000000 in
set_option maxRecDepth 100000 in
theorem bX8_settles_2 (hA : ∀ q : Nat, s.heap.size ≤ q → A q) (B : hy_B RX8 cX8_settles 2 wsX8_settles G A p s m args c) (hR : 1 ≤ R.frames ∧ 24 ≤ R.locals) {o : hy_S × Int32}  (hret : ∀ (σ : hy_S) (v : Int32) (pc : Nat) (H : Heap) (locs : List Loc) (ls : Array Slot), o = (σ, v) → (v = 0 ∨ v = 1) → hy_w cw G A s σ H locs → decode cX8_settles pc = .ok (.ireturn, 1) → W p l e R s m args below meth c H locs 0 0 Q (F0 m pc ls [.int v])) : ∀ (n : Nat) (σ : hy_S) (x1 : Int32) (H : Heap) (locs : List Loc) (ls : Array Slot), fX8_settles_2 n σ x1 = some o → hy_w cw G A s σ H locs → lv_has ls 2 [(0, .ref (G.2.2.2.1 9)), (1, .int x1)] → W p l e R s m args below meth c H locs 0 0 Q (F0 m 2 ls []) := by
  intro n
  induction n with
  | zero => intro σ x1 H locs ls hf; cases hf
  | succ n hk2 =>
    intro σ x1 H locs ls hf w hl
    unfold fX8_settles_2 at hf
    refine lv_iload_n B.1.1 B.1.2.1 dX8_settles_2 rfl (lv_at hl 1 rfl) ?_
    refine lv_bipush (v := 13) B.1.1 B.1.2.1 dX8_settles_3 (by decide) ?_
    refine lv_icmp_ge (tgt := 23) B.1.1 B.1.2.1 dX8_settles_5 (by decide) (fun c1 => ?_) (fun c1 => ?_)
    · rw [if_pos c1] at hf
      refine lv_iconst (v := 0) B.1.1 B.1.2.1 dX8_settles_23 (by decide) ?_
      exact hret _ _ _ _ _ _ (Option.some.inj hf).symm (Or.inl rfl) w dX8_settles_24
    · rw [if_neg c1] at hf
      refine lv_aload_n B.1.1 B.1.2.1 dX8_settles_8 rfl (lv_at hl 0 rfl) ?_
      obtain ⟨σ2, v3, h4, hf⟩ := hy_bd_some hf
      refine hy_cv (As := []) (rest := []) (o := (σ2, v3)) cw_fix hA B w (fun sz => mX8_pushOn l G sz σ  _ h4) (cwV 0 B.1.2.2.2.2 gX8_settles_X8_pushOn rfl rfl rfl (by decide +kernel) ⟨by have := hR.1; show 0 + 1 ≤ _; omega, by have := hR.2; show 8 + (5 + 11) + 0 ≤ _; omega⟩) rfl (cwq_9 G σ) rfl hl.1 rfl (Nat.le_of_ble_eq_true rfl) dX8_settles_9 ⟨Nat.zero_le _, Nat.zero_le _⟩ (fun H locs w => ?_)
      refine lv_if_ne (tgt := 17) B.1.1 B.1.2.1 dX8_settles_12 (by decide) (fun c5 => ?_) (fun c5 => ?_)
      · rw [if_neg c5] at hf
        refine lv_iinc (v := (x1 + 1)) (lv' := [(1, .int (x1 + 1)), (0, .ref (G.2.2.2.1 9))]) B.1.1 B.1.2.1 dX8_settles_17 hl (k := 1) rfl rfl (by decide) rfl (fun ls hl => ?_)
        refine lv_goto (tgt := 2) B.1.1 B.1.2.1 dX8_settles_20 (by decide) ?_
        exact hk2 _ _ _ _ _ hf w (lv_sub hl [1, 0] rfl)
      · rw [if_pos c5] at hf
        refine lv_iconst (v := 1) B.1.1 B.1.2.1 dX8_settles_15 (by decide) ?_
        exact hret _ _ _ _ _ _ (Option.some.inj hf).symm (Or.inr rfl) w dX8_settles_16
set_option maxHeartbeats 4000000 in
set_option maxRecDepth 100000 in
theorem bX8_settles_0 (hA : ∀ q : Nat, s.heap.size ≤ q → A q) (B : hy_B RX8 cX8_settles 2 wsX8_settles G A p s m args c) (hR : 1 ≤ R.frames ∧ 24 ≤ R.locals) {o : hy_S × Int32}  (hret : ∀ (σ : hy_S) (v : Int32) (pc : Nat) (H : Heap) (locs : List Loc) (ls : Array Slot), o = (σ, v) → (v = 0 ∨ v = 1) → hy_w cw G A s σ H locs → decode cX8_settles pc = .ok (.ireturn, 1) → W p l e R s m args below meth c H locs 0 0 Q (F0 m pc ls [.int v])) (σ : hy_S) (H : Heap) (locs : List Loc) (ls : Array Slot) (hf : fX8_settles σ = some o) (w : hy_w cw G A s σ H locs) (hl : lv_has ls 2 [(0, .ref (G.2.2.2.1 9))]) : W p l e R s m args below meth c H locs 0 0 Q (F0 m 0 ls []) := by
  unfold fX8_settles at hf
  refine lv_iconst (v := 0) B.1.1 B.1.2.1 dX8_settles_0 (by decide) ?_
  refine lv_istore_n (lv' := [(1, .int 0), (0, .ref (G.2.2.2.1 9))]) B.1.1 B.1.2.1 dX8_settles_1 rfl hl (by decide) rfl (fun ls hl => ?_)
  exact bX8_settles_2 hA B hR  hret _ _ _ _ _ _ hf w (lv_sub hl [1, 0] rfl)
set_option maxHeartbeats 4000000 in
set_option maxRecDepth 100000 in
theorem mX8_settles (l : Launch) (G : hy_G) (sz : Nat) (σ : hy_S) (o : hy_S × Int32) (hf : fX8_settles σ = some o) : hy_M l yX8_settles wsX8_settles ({ frames := 1, cells := 0, slots := 0, locals := 24 }) cw G σ sz [.ref (G.2.2.2.1 9)] o := by
  refine Met.ofW (cc := cX8_settles) (maxL := 2) (ret := (some .boolean)) (by decide +kernel) rfl ?_
  intro p e s m args below meth c s₁ B hml hv
  obtain ⟨rfl, hsz, hP, hK, hD0, hN⟩ := hv
  have hx := B.exec
  have hb := B.bytes
  have hr := B.returns
  have hts := atoms_spec (ws := wsX8_settles) B.pre
  have hown : s.vm.findClass RX8 = some m.cls := findClass_of_methodNamed B.named
  have hlocks := B.notSynchronized
  subst hsz
  have hD := hD0.self (sz := s.heap.size)
  have hA : ∀ q : Nat, s.heap.size ≤ q → va_A (cw G σ) s.heap.size q := fun q h => Or.inr h
  have hS : va_S (va_A (cw G σ) s.heap.size) s.heap s.heap [] := va_S.rf
  have hl := lv_entry ([.ref (G.2.2.2.1 9)]) (n := 2) (Nat.le_of_ble_eq_true rfl)
  rw [lg_entry_eq]
  generalize (lg_sl ([.ref (G.2.2.2.1 9)]) ++ List.replicate (2 - (lg_sl ([.ref (G.2.2.2.1 9)])).length) Slot.unset).toArray = ls at hl ⊢
  have hl : lv_has ls 2 [(0, .ref (G.2.2.2.1 9))] := hl
  refine bX8_settles_0 (A := va_A (cw G σ) s.heap.size) hA ⟨⟨hx, hb, hml, hown, hts⟩, hK, hN⟩ ⟨Nat.le_of_ble_eq_true rfl, Nat.le_of_ble_eq_true rfl⟩ (o := o) (fun τ v pc H locs ls ho hz w d => ?_) σ _ _ _ hf ⟨hP, hD, hS⟩ hl
  exact W.zret hx hb hr (hy_bool hz) (fun t ht hW => ⟨⟨v, τ, rfl, ⟨by rw [ho], by rw [ho]⟩, by have h9 := w.1; rw [← ht] at h9; exact h9⟩, w.2.2.F ht⟩) w.2.2.2.2 d
theorem in_X8_canAllHold_X8 : ∀ w ∈ u_ws RX8 TX8 10, w ∈ wsX8_canAllHold := fun _ h => xt1 (xr (h))
noncomputable def fX8_canAllHold (σ : hy_S) : Option (hy_S × Int32) := hy_bd (fX8_setAll_a σ 0) (fun σ1 v2 => hy_bd (fX8_settles σ1) (fun σ4 v5 => hy_ck (v5 = 0 ∨ v5 = 1) (some (σ4, v5))))
set_option maxHeartbeats 4000000 in
set_option maxRecDepth 100000 in
theorem bX8_canAllHold_0 (hA : ∀ q : Nat, s.heap.size ≤ q → A q) (B : hy_B RX8 cX8_canAllHold 1 wsX8_canAllHold G A p s m args c) (hR : 2 ≤ R.frames ∧ 45 ≤ R.locals) {o : hy_S × Int32}  (hret : ∀ (σ : hy_S) (v : Int32) (pc : Nat) (H : Heap) (locs : List Loc) (ls : Array Slot), o = (σ, v) → (v = 0 ∨ v = 1) → hy_w cw G A s σ H locs → decode cX8_canAllHold pc = .ok (.ireturn, 1) → W p l e R s m args below meth c H locs 0 0 Q (F0 m pc ls [.int v])) (σ : hy_S) (H : Heap) (locs : List Loc) (ls : Array Slot) (hf : fX8_canAllHold σ = some o) (w : hy_w cw G A s σ H locs) (hl : lv_has ls 1 [(0, .ref (G.2.2.2.1 9))]) : W p l e R s m args below meth c H locs 0 0 Q (F0 m 0 ls []) := by
  unfold fX8_canAllHold at hf
  refine lv_aload_n B.1.1 B.1.2.1 dX8_canAllHold_0 rfl (lv_at hl 0 rfl) ?_
  refine hy_get (k := 6) (v := .ref (G.2.2.2.1 38)) B w (cwq_9 G) rfl in_X8_canAllHold_X8 (by decide) (by decide +kernel) rfl dX8_canAllHold_1 ?_
  refine lv_iconst (v := 0) B.1.1 B.1.2.1 dX8_canAllHold_4 (by decide) ?_
  obtain ⟨σ1, v2, h3, hf⟩ := hy_bd_some hf
  refine hy_csv (As := [.ref (G.2.2.2.1 38), .int 0]) (rest := []) (o := (σ1, v2)) cw_fix hA B w (fun sz => mX8_setAll_a l G sz σ 0 _ h3) (cwS 2 B.1.2.2.2.2 gX8_canAllHold_X8_setAll rfl rfl rfl (by decide +kernel) ⟨by have := hR.1; show 0 + 1 ≤ _; omega, by have := hR.2; show 8 + (3 + 11) + 0 ≤ _; omega⟩) rfl hl.1 rfl (Nat.le_of_ble_eq_true rfl) dX8_canAllHold_5 ⟨Nat.zero_le _, Nat.zero_le _⟩ (fun H locs w => ?_)
  refine lv_aload_n B.1.1 B.1.2.1 dX8_canAllHold_8 rfl (lv_at hl 0 rfl) ?_
  obtain ⟨σ4, v5, h6, hf⟩ := hy_bd_some hf
  refine hy_cv (As := []) (rest := []) (o := (σ4, v5)) cw_fix hA B w (fun sz => mX8_settles l G sz σ1  _ h6) (cwV 0 B.1.2.2.2.2 gX8_canAllHold_X8_settles rfl rfl rfl (by decide +kernel) ⟨by have := hR.1; show 1 + 1 ≤ _; omega, by have := hR.2; show 8 + (2 + 11) + 24 ≤ _; omega⟩) rfl (cwq_9 G σ1) rfl hl.1 rfl (Nat.le_of_ble_eq_true rfl) dX8_canAllHold_9 ⟨Nat.zero_le _, Nat.zero_le _⟩ (fun H locs w => ?_)
  obtain ⟨c7, hf⟩ := hy_ck_some hf
  exact hret _ _ _ _ _ _ (Option.some.inj hf).symm c7 w dX8_canAllHold_12
set_option maxHeartbeats 4000000 in
set_option maxRecDepth 100000 in
theorem mX8_canAllHold (l : Launch) (G : hy_G) (sz : Nat) (σ : hy_S) (o : hy_S × Int32) (hf : fX8_canAllHold σ = some o) : hy_M l yX8_canAllHold wsX8_canAllHold ({ frames := 2, cells := 0, slots := 0, locals := 45 }) cw G σ sz [.ref (G.2.2.2.1 9)] o := by
  refine Met.ofW (cc := cX8_canAllHold) (maxL := 1) (ret := (some .boolean)) (by decide +kernel) rfl ?_
  intro p e s m args below meth c s₁ B hml hv
  obtain ⟨rfl, hsz, hP, hK, hD0, hN⟩ := hv
  have hx := B.exec
  have hb := B.bytes
  have hr := B.returns
  have hts := atoms_spec (ws := wsX8_canAllHold) B.pre
  have hown : s.vm.findClass RX8 = some m.cls := findClass_of_methodNamed B.named
  have hlocks := B.notSynchronized
  subst hsz
  have hD := hD0.self (sz := s.heap.size)
  have hA : ∀ q : Nat, s.heap.size ≤ q → va_A (cw G σ) s.heap.size q := fun q h => Or.inr h
  have hS : va_S (va_A (cw G σ) s.heap.size) s.heap s.heap [] := va_S.rf
  have hl := lv_entry ([.ref (G.2.2.2.1 9)]) (n := 1) (Nat.le_of_ble_eq_true rfl)
  rw [lg_entry_eq]
  generalize (lg_sl ([.ref (G.2.2.2.1 9)]) ++ List.replicate (1 - (lg_sl ([.ref (G.2.2.2.1 9)])).length) Slot.unset).toArray = ls at hl ⊢
  have hl : lv_has ls 1 [(0, .ref (G.2.2.2.1 9))] := hl
  refine bX8_canAllHold_0 (A := va_A (cw G σ) s.heap.size) hA ⟨⟨hx, hb, hml, hown, hts⟩, hK, hN⟩ ⟨Nat.le_of_ble_eq_true rfl, Nat.le_of_ble_eq_true rfl⟩ (o := o) (fun τ v pc H locs ls ho hz w d => ?_) σ _ _ _ hf ⟨hP, hD, hS⟩ hl
  exact W.zret hx hb hr (hy_bool hz) (fun t ht hW => ⟨⟨v, τ, rfl, ⟨by rw [ho], by rw [ho]⟩, by have h9 := w.1; rw [← ht] at h9; exact h9⟩, w.2.2.F ht⟩) w.2.2.2.2 d
theorem in_X8_yearsBetween_X8 : ∀ w ∈ u_ws RX8 TX8 10, w ∈ wsX8_yearsBetween := fun _ h => xt1 (xr (h))
noncomputable def fX8_yearsBetween (σ : hy_S) (x1 : Int32) (x2 : Int32) : Option (hy_S × Int32) := hy_bd (fX8_setAll_a σ (-1000000000)) (fun σ1 v2 => hy_pa σ1 28 13 x1 0 (fun σ4 => hy_bd (fX8_settles σ4) (fun σ7 v8 => hy_ga σ7 28 13 x2 (fun v10 => some (σ7, v10)))))
set_option maxHeartbeats 4000000 in
set_option maxRecDepth 100000 in
theorem bX8_yearsBetween_0 (hA : ∀ q : Nat, s.heap.size ≤ q → A q) (B : hy_B RX8 cX8_yearsBetween 3 wsX8_yearsBetween G A p s m args c) (hR : 2 ≤ R.frames ∧ 45 ≤ R.locals) {o : hy_S × Int32}  (hret : ∀ (σ : hy_S) (v : Int32) (pc : Nat) (H : Heap) (locs : List Loc) (ls : Array Slot), o = (σ, v) → hy_w cw G A s σ H locs → decode cX8_yearsBetween pc = .ok (.ireturn, 1) → W p l e R s m args below meth c H locs 0 0 Q (F0 m pc ls [.int v])) (σ : hy_S) (x1 : Int32) (x2 : Int32) (H : Heap) (locs : List Loc) (ls : Array Slot) (hf : fX8_yearsBetween σ x1 x2 = some o) (w : hy_w cw G A s σ H locs) (hl : lv_has ls 3 [(0, .ref (G.2.2.2.1 9)), (1, .int x1), (2, .int x2)]) : W p l e R s m args below meth c H locs 0 0 Q (F0 m 0 ls []) := by
  unfold fX8_yearsBetween at hf
  refine lv_aload_n B.1.1 B.1.2.1 dX8_yearsBetween_0 rfl (lv_at hl 0 rfl) ?_
  refine hy_get (k := 6) (v := .ref (G.2.2.2.1 38)) B w (cwq_9 G) rfl in_X8_yearsBetween_X8 (by decide) (by decide +kernel) rfl dX8_yearsBetween_1 ?_
  refine lv_ldc (v := (-1000000000)) B.1.1 B.1.2.1 B.1.2.2.2.1 (B.1.2.2.2.2 (.constant RX8 51 (-1000000000)) (by decide +kernel)) dX8_yearsBetween_4 ?_
  obtain ⟨σ1, v2, h3, hf⟩ := hy_bd_some hf
  refine hy_csv (As := [.ref (G.2.2.2.1 38), .int (-1000000000)]) (rest := []) (o := (σ1, v2)) cw_fix hA B w (fun sz => mX8_setAll_a l G sz σ (-1000000000) _ h3) (cwS 2 B.1.2.2.2.2 gX8_yearsBetween_X8_setAll rfl rfl rfl (by decide +kernel) ⟨by have := hR.1; show 0 + 1 ≤ _; omega, by have := hR.2; show 8 + (3 + 11) + 0 ≤ _; omega⟩) rfl hl.1 rfl (Nat.le_of_ble_eq_true rfl) dX8_yearsBetween_6 ⟨Nat.zero_le _, Nat.zero_le _⟩ (fun H locs w => ?_)
  refine lv_aload_n B.1.1 B.1.2.1 dX8_yearsBetween_9 rfl (lv_at hl 0 rfl) ?_
  refine hy_get (k := 6) (v := .ref (G.2.2.2.1 38)) B w (cwq_9 G) rfl in_X8_yearsBetween_X8 (by decide) (by decide +kernel) rfl dX8_yearsBetween_10 ?_
  refine lv_iload_n B.1.1 B.1.2.1 dX8_yearsBetween_13 rfl (lv_at hl 1 rfl) ?_
  refine lv_iconst (v := 0) B.1.1 B.1.2.1 dX8_yearsBetween_14 (by decide) ?_
  obtain ⟨h6, σ4, e5, hf⟩ := hy_pa_some hf
  refine hy_iast B w (cwq_38 G) (cws_38 G) h6 e5 dX8_yearsBetween_15 (fun H locs w => ?_)
  refine lv_aload_n B.1.1 B.1.2.1 dX8_yearsBetween_16 rfl (lv_at hl 0 rfl) ?_
  obtain ⟨σ7, v8, h9, hf⟩ := hy_bd_some hf
  refine hy_cv (As := []) (rest := []) (o := (σ7, v8)) cw_fix hA B w (fun sz => mX8_settles l G sz σ4  _ h9) (cwV 0 B.1.2.2.2.2 gX8_yearsBetween_X8_settles rfl rfl rfl (by decide +kernel) ⟨by have := hR.1; show 1 + 1 ≤ _; omega, by have := hR.2; show 8 + (2 + 11) + 24 ≤ _; omega⟩) rfl (cwq_9 G σ4) rfl hl.1 rfl (Nat.le_of_ble_eq_true rfl) dX8_yearsBetween_17 ⟨Nat.zero_le _, Nat.zero_le _⟩ (fun H locs w => ?_)
  refine lv_pop B.1.1 B.1.2.1 dX8_yearsBetween_20 rfl ?_
  refine lv_aload_n B.1.1 B.1.2.1 dX8_yearsBetween_21 rfl (lv_at hl 0 rfl) ?_
  refine hy_get (k := 6) (v := .ref (G.2.2.2.1 38)) B w (cwq_9 G) rfl in_X8_yearsBetween_X8 (by decide) (by decide +kernel) rfl dX8_yearsBetween_22 ?_
  refine lv_iload_n B.1.1 B.1.2.1 dX8_yearsBetween_25 rfl (lv_at hl 2 rfl) ?_
  obtain ⟨h12, v10, e11, hf⟩ := hy_ga_some hf
  refine hy_iald B w (cwq_38 G) h12 e11 dX8_yearsBetween_26 ?_
  exact hret _ _ _ _ _ _ (Option.some.inj hf).symm w dX8_yearsBetween_27
set_option maxHeartbeats 4000000 in
set_option maxRecDepth 100000 in
theorem mX8_yearsBetween (l : Launch) (G : hy_G) (sz : Nat) (σ : hy_S) (x1 : Int32) (x2 : Int32) (o : hy_S × Int32) (hf : fX8_yearsBetween σ x1 x2 = some o) : hy_M l yX8_yearsBetween wsX8_yearsBetween ({ frames := 2, cells := 0, slots := 0, locals := 45 }) cw G σ sz [.ref (G.2.2.2.1 9), .int x1, .int x2] o := by
  refine Met.ofW (cc := cX8_yearsBetween) (maxL := 3) (ret := (some .int)) (by decide +kernel) rfl ?_
  intro p e s m args below meth c s₁ B hml hv
  obtain ⟨rfl, hsz, hP, hK, hD0, hN⟩ := hv
  have hx := B.exec
  have hb := B.bytes
  have hr := B.returns
  have hts := atoms_spec (ws := wsX8_yearsBetween) B.pre
  have hown : s.vm.findClass RX8 = some m.cls := findClass_of_methodNamed B.named
  have hlocks := B.notSynchronized
  subst hsz
  have hD := hD0.self (sz := s.heap.size)
  have hA : ∀ q : Nat, s.heap.size ≤ q → va_A (cw G σ) s.heap.size q := fun q h => Or.inr h
  have hS : va_S (va_A (cw G σ) s.heap.size) s.heap s.heap [] := va_S.rf
  have hl := lv_entry ([.ref (G.2.2.2.1 9), .int x1, .int x2]) (n := 3) (Nat.le_of_ble_eq_true rfl)
  rw [lg_entry_eq]
  generalize (lg_sl ([.ref (G.2.2.2.1 9), .int x1, .int x2]) ++ List.replicate (3 - (lg_sl ([.ref (G.2.2.2.1 9), .int x1, .int x2])).length) Slot.unset).toArray = ls at hl ⊢
  have hl : lv_has ls 3 [(0, .ref (G.2.2.2.1 9)), (1, .int x1), (2, .int x2)] := hl
  refine bX8_yearsBetween_0 (A := va_A (cw G σ) s.heap.size) hA ⟨⟨hx, hb, hml, hown, hts⟩, hK, hN⟩ ⟨Nat.le_of_ble_eq_true rfl, Nat.le_of_ble_eq_true rfl⟩ (o := o) (fun τ v pc H locs ls ho w d => ?_) σ x1 x2 _ _ _ hf ⟨hP, hD, hS⟩ hl
  exact W.iret hx hb hr (fun t ht hW => ⟨⟨v, τ, rfl, ⟨by rw [ho], by rw [ho]⟩, by have h9 := w.1; rw [← ht] at h9; exact h9⟩, w.2.2.F ht⟩) w.2.2.2.2 d
theorem in_X8_stepOn_X8 : ∀ w ∈ u_ws RX8 TX8 10, w ∈ wsX8_stepOn := fun _ h => xt1 (xr (h))
noncomputable def fX8_stepOn_85 (k11 : hy_S → Int32 → Option (hy_S × Int32)) (σ : hy_S) (x1 : Int32) : Option (hy_S × Int32) := k11 σ (x1 + 1)
noncomputable def fX8_stepOn_11 : Nat → hy_S → Int32 → Option (hy_S × Int32)
  | 0, _, _ => none
  | n + 1, σ, x1 => (if (σ.2 9) ≤ x1 then hy_cp σ 29 28 0 0 13 (fun σ2 => some (σ2, 0)) else hy_ga σ 27 60 x1 (fun v4 => hy_ga σ 22 60 v4 (fun v7 => hy_ga σ 28 13 v7 (fun v10 => (if v10 = (-1000000000) then fX8_stepOn_85 (fX8_stepOn_11 n) σ x1 else hy_ga σ 24 60 v4 (fun v14 => hy_ga σ 23 60 v4 (fun v17 => hy_ga σ 29 13 v17 (fun v20 => (if (v10 + v14) ≤ v20 then fX8_stepOn_85 (fX8_stepOn_11 n) σ x1 else hy_ga σ 23 60 v4 (fun v24 => hy_ga σ 24 60 v4 (fun v27 => hy_pa σ 29 13 v24 (v10 + v27) (fun σ30 => fX8_stepOn_85 (fX8_stepOn_11 n) σ30 x1))))))))))))
noncomputable def fX8_stepOn (σ : hy_S) : Option (hy_S × Int32) := hy_bd (fX8_setAll_n σ (-1000000000)) (fun σ1 v2 => fX8_stepOn_11 hy_fu σ1 0)
set_option maxHeartbeats 4000000 in
set_option maxRecDepth 100000 in
theorem bX8_stepOn_85 (hA : ∀ q : Nat, s.heap.size ≤ q → A q) (B : hy_B RX8 cX8_stepOn 4 wsX8_stepOn G A p s m args c) (hR : 1 ≤ R.frames ∧ 60 ≤ R.locals) {o : hy_S × Int32}  {k11 : hy_S → Int32 → Option (hy_S × Int32)} (hk11 : ∀ (σ : hy_S) (x1 : Int32) (H : Heap) (locs : List Loc) (ls : Array Slot), k11 σ x1 = some o → hy_w cw G A s σ H locs → lv_has ls 4 [(0, .ref (G.2.2.2.1 9)), (1, .int x1)] → W p l e R s m args below meth c H locs 0 0 Q (F0 m 11 ls [])) (hret : ∀ (σ : hy_S) (pc : Nat) (H : Heap) (locs : List Loc) (ls : Array Slot), o = (σ, 0) → hy_w cw G A s σ H locs → decode cX8_stepOn pc = .ok (.return_, 1) → W p l e R s m args below meth c H locs 0 0 Q (F0 m pc ls [])) (σ : hy_S) (x1 : Int32) (H : Heap) (locs : List Loc) (ls : Array Slot) (hf : fX8_stepOn_85 k11 σ x1 = some o) (w : hy_w cw G A s σ H locs) (hl : lv_has ls 4 [(0, .ref (G.2.2.2.1 9)), (1, .int x1)]) : W p l e R s m args below meth c H locs 0 0 Q (F0 m 85 ls []) := by
  unfold fX8_stepOn_85 at hf
  refine lv_iinc (v := (x1 + 1)) (lv' := [(1, .int (x1 + 1)), (0, .ref (G.2.2.2.1 9))]) B.1.1 B.1.2.1 dX8_stepOn_85 hl (k := 1) rfl rfl (by decide) rfl (fun ls hl => ?_)
  refine lv_goto (tgt := 11) B.1.1 B.1.2.1 dX8_stepOn_88 (by decide) ?_
  exact hk11 _ _ _ _ _ hf w (lv_sub hl [1, 0] rfl)
set_option maxHeartbeats 4000000 in
set_option maxRecDepth 100000 in
theorem bX8_stepOn_11 (hA : ∀ q : Nat, s.heap.size ≤ q → A q) (B : hy_B RX8 cX8_stepOn 4 wsX8_stepOn G A p s m args c) (hR : 1 ≤ R.frames ∧ 60 ≤ R.locals) {o : hy_S × Int32}  (hret : ∀ (σ : hy_S) (pc : Nat) (H : Heap) (locs : List Loc) (ls : Array Slot), o = (σ, 0) → hy_w cw G A s σ H locs → decode cX8_stepOn pc = .ok (.return_, 1) → W p l e R s m args below meth c H locs 0 0 Q (F0 m pc ls [])) : ∀ (n : Nat) (σ : hy_S) (x1 : Int32) (H : Heap) (locs : List Loc) (ls : Array Slot), fX8_stepOn_11 n σ x1 = some o → hy_w cw G A s σ H locs → lv_has ls 4 [(0, .ref (G.2.2.2.1 9)), (1, .int x1)] → W p l e R s m args below meth c H locs 0 0 Q (F0 m 11 ls []) := by
  intro n
  induction n with
  | zero => intro σ x1 H locs ls hf; cases hf
  | succ n hk11 =>
    intro σ x1 H locs ls hf w hl
    unfold fX8_stepOn_11 at hf
    refine lv_iload_n B.1.1 B.1.2.1 dX8_stepOn_11 rfl (lv_at hl 1 rfl) ?_
    refine lv_aload_n B.1.1 B.1.2.1 dX8_stepOn_12 rfl (lv_at hl 0 rfl) ?_
    refine hy_get (k := 9) (v := .int (σ.2 9)) B w (cwq_9 G) rfl in_X8_stepOn_X8 (by decide) (by decide +kernel) rfl dX8_stepOn_13 ?_
    refine lv_icmp_ge (tgt := 91) B.1.1 B.1.2.1 dX8_stepOn_16 (by decide) (fun c1 => ?_) (fun c1 => ?_)
    · rw [if_pos c1] at hf
      refine lv_aload_n B.1.1 B.1.2.1 dX8_stepOn_91 rfl (lv_at hl 0 rfl) ?_
      refine hy_get (k := 7) (v := .ref (G.2.2.2.1 39)) B w (cwq_9 G) rfl in_X8_stepOn_X8 (by decide) (by decide +kernel) rfl dX8_stepOn_92 ?_
      refine lv_iconst (v := 0) B.1.1 B.1.2.1 dX8_stepOn_95 (by decide) ?_
      refine lv_aload_n B.1.1 B.1.2.1 dX8_stepOn_96 rfl (lv_at hl 0 rfl) ?_
      refine hy_get (k := 6) (v := .ref (G.2.2.2.1 38)) B w (cwq_9 G) rfl in_X8_stepOn_X8 (by decide) (by decide +kernel) rfl dX8_stepOn_97 ?_
      refine lv_iconst (v := 0) B.1.1 B.1.2.1 dX8_stepOn_100 (by decide) ?_
      refine lv_bipush (v := 13) B.1.1 B.1.2.1 dX8_stepOn_101 (by decide) ?_
      obtain ⟨σ2, e3, hf⟩ := hy_cp_some hf
      refine hy_copy B w (cwq_39 G) (cwq_38 G) (cws_38 G) e3 hl.1 (by decide +kernel) (by decide +kernel) (by decide +kernel) (by decide +kernel) (by decide) (by decide) (by decide) (by decide) (by decide) (by have := hR.1; omega) (by have := hR.2; refine Nat.le_trans ?_ this; exact Nat.le_of_ble_eq_true rfl) dX8_stepOn_103 (fun H locs w => ?_)
      exact hret _ _ _ _ _ (Option.some.inj hf).symm w dX8_stepOn_106
    · rw [if_neg c1] at hf
      refine lv_aload_n B.1.1 B.1.2.1 dX8_stepOn_19 rfl (lv_at hl 0 rfl) ?_
      refine hy_get (k := 5) (v := .ref (G.2.2.2.1 37)) B w (cwq_9 G) rfl in_X8_stepOn_X8 (by decide) (by decide +kernel) rfl dX8_stepOn_20 ?_
      refine lv_iload_n B.1.1 B.1.2.1 dX8_stepOn_23 rfl (lv_at hl 1 rfl) ?_
      obtain ⟨h6, v4, e5, hf⟩ := hy_ga_some hf
      refine hy_iald B w (cwq_37 G) h6 e5 dX8_stepOn_24 ?_
      refine lv_istore_n (lv' := [(2, .int v4), (0, .ref (G.2.2.2.1 9)), (1, .int x1)]) B.1.1 B.1.2.1 dX8_stepOn_25 rfl hl (by decide) rfl (fun ls hl => ?_)
      refine lv_aload_n B.1.1 B.1.2.1 dX8_stepOn_26 rfl (lv_at hl 1 rfl) ?_
      refine hy_get (k := 6) (v := .ref (G.2.2.2.1 38)) B w (cwq_9 G) rfl in_X8_stepOn_X8 (by decide) (by decide +kernel) rfl dX8_stepOn_27 ?_
      refine lv_aload_n B.1.1 B.1.2.1 dX8_stepOn_30 rfl (lv_at hl 1 rfl) ?_
      refine hy_get (k := 0) (v := .ref (G.2.2.2.1 32)) B w (cwq_9 G) rfl in_X8_stepOn_X8 (by decide) (by decide +kernel) rfl dX8_stepOn_31 ?_
      refine lv_iload_n B.1.1 B.1.2.1 dX8_stepOn_34 rfl (lv_at hl 0 rfl) ?_
      obtain ⟨h9, v7, e8, hf⟩ := hy_ga_some hf
      refine hy_iald B w (cwq_32 G) h9 e8 dX8_stepOn_35 ?_
      obtain ⟨h12, v10, e11, hf⟩ := hy_ga_some hf
      refine hy_iald B w (cwq_38 G) h12 e11 dX8_stepOn_36 ?_
      refine lv_istore_n (lv' := [(3, .int v10), (2, .int v4), (0, .ref (G.2.2.2.1 9)), (1, .int x1)]) B.1.1 B.1.2.1 dX8_stepOn_37 rfl hl (by decide) rfl (fun ls hl => ?_)
      refine lv_iload_n B.1.1 B.1.2.1 dX8_stepOn_38 rfl (lv_at hl 0 rfl) ?_
      refine lv_ldc (v := (-1000000000)) B.1.1 B.1.2.1 B.1.2.2.2.1 (B.1.2.2.2.2 (.constant RX8 51 (-1000000000)) (by decide +kernel)) dX8_stepOn_39 ?_
      refine lv_icmp_eq (tgt := 85) B.1.1 B.1.2.1 dX8_stepOn_41 (by decide) (fun c13 => ?_) (fun c13 => ?_)
      · rw [if_pos c13] at hf
        exact bX8_stepOn_85 hA B hR hk11 hret _ _ _ _ _ hf w (lv_sub hl [2, 3] rfl)
      · rw [if_neg c13] at hf
        refine lv_iload_n B.1.1 B.1.2.1 dX8_stepOn_44 rfl (lv_at hl 0 rfl) ?_
        refine lv_aload_n B.1.1 B.1.2.1 dX8_stepOn_45 rfl (lv_at hl 2 rfl) ?_
        refine hy_get (k := 2) (v := .ref (G.2.2.2.1 34)) B w (cwq_9 G) rfl in_X8_stepOn_X8 (by decide) (by decide +kernel) rfl dX8_stepOn_46 ?_
        refine lv_iload_n B.1.1 B.1.2.1 dX8_stepOn_49 rfl (lv_at hl 1 rfl) ?_
        obtain ⟨h16, v14, e15, hf⟩ := hy_ga_some hf
        refine hy_iald B w (cwq_34 G) h16 e15 dX8_stepOn_50 ?_
        refine lv_iadd B.1.1 B.1.2.1 dX8_stepOn_51 ?_
        refine lv_aload_n B.1.1 B.1.2.1 dX8_stepOn_52 rfl (lv_at hl 2 rfl) ?_
        refine hy_get (k := 7) (v := .ref (G.2.2.2.1 39)) B w (cwq_9 G) rfl in_X8_stepOn_X8 (by decide) (by decide +kernel) rfl dX8_stepOn_53 ?_
        refine lv_aload_n B.1.1 B.1.2.1 dX8_stepOn_56 rfl (lv_at hl 2 rfl) ?_
        refine hy_get (k := 1) (v := .ref (G.2.2.2.1 33)) B w (cwq_9 G) rfl in_X8_stepOn_X8 (by decide) (by decide +kernel) rfl dX8_stepOn_57 ?_
        refine lv_iload_n B.1.1 B.1.2.1 dX8_stepOn_60 rfl (lv_at hl 1 rfl) ?_
        obtain ⟨h19, v17, e18, hf⟩ := hy_ga_some hf
        refine hy_iald B w (cwq_33 G) h19 e18 dX8_stepOn_61 ?_
        obtain ⟨h22, v20, e21, hf⟩ := hy_ga_some hf
        refine hy_iald B w (cwq_39 G) h22 e21 dX8_stepOn_62 ?_
        refine lv_icmp_le (tgt := 85) B.1.1 B.1.2.1 dX8_stepOn_63 (by decide) (fun c23 => ?_) (fun c23 => ?_)
        · rw [if_pos c23] at hf
          exact bX8_stepOn_85 hA B hR hk11 hret _ _ _ _ _ hf w (lv_sub hl [2, 3] rfl)
        · rw [if_neg c23] at hf
          refine lv_aload_n B.1.1 B.1.2.1 dX8_stepOn_66 rfl (lv_at hl 2 rfl) ?_
          refine hy_get (k := 7) (v := .ref (G.2.2.2.1 39)) B w (cwq_9 G) rfl in_X8_stepOn_X8 (by decide) (by decide +kernel) rfl dX8_stepOn_67 ?_
          refine lv_aload_n B.1.1 B.1.2.1 dX8_stepOn_70 rfl (lv_at hl 2 rfl) ?_
          refine hy_get (k := 1) (v := .ref (G.2.2.2.1 33)) B w (cwq_9 G) rfl in_X8_stepOn_X8 (by decide) (by decide +kernel) rfl dX8_stepOn_71 ?_
          refine lv_iload_n B.1.1 B.1.2.1 dX8_stepOn_74 rfl (lv_at hl 1 rfl) ?_
          obtain ⟨h26, v24, e25, hf⟩ := hy_ga_some hf
          refine hy_iald B w (cwq_33 G) h26 e25 dX8_stepOn_75 ?_
          refine lv_iload_n B.1.1 B.1.2.1 dX8_stepOn_76 rfl (lv_at hl 0 rfl) ?_
          refine lv_aload_n B.1.1 B.1.2.1 dX8_stepOn_77 rfl (lv_at hl 2 rfl) ?_
          refine hy_get (k := 2) (v := .ref (G.2.2.2.1 34)) B w (cwq_9 G) rfl in_X8_stepOn_X8 (by decide) (by decide +kernel) rfl dX8_stepOn_78 ?_
          refine lv_iload_n B.1.1 B.1.2.1 dX8_stepOn_81 rfl (lv_at hl 1 rfl) ?_
          obtain ⟨h29, v27, e28, hf⟩ := hy_ga_some hf
          refine hy_iald B w (cwq_34 G) h29 e28 dX8_stepOn_82 ?_
          refine lv_iadd B.1.1 B.1.2.1 dX8_stepOn_83 ?_
          obtain ⟨h32, σ30, e31, hf⟩ := hy_pa_some hf
          refine hy_iast B w (cwq_39 G) (cws_39 G) h32 e31 dX8_stepOn_84 (fun H locs w => ?_)
          exact bX8_stepOn_85 hA B hR hk11 hret _ _ _ _ _ hf w (lv_sub hl [2, 3] rfl)
set_option maxHeartbeats 4000000 in
set_option maxRecDepth 100000 in
theorem bX8_stepOn_0 (hA : ∀ q : Nat, s.heap.size ≤ q → A q) (B : hy_B RX8 cX8_stepOn 4 wsX8_stepOn G A p s m args c) (hR : 1 ≤ R.frames ∧ 60 ≤ R.locals) {o : hy_S × Int32}  (hret : ∀ (σ : hy_S) (pc : Nat) (H : Heap) (locs : List Loc) (ls : Array Slot), o = (σ, 0) → hy_w cw G A s σ H locs → decode cX8_stepOn pc = .ok (.return_, 1) → W p l e R s m args below meth c H locs 0 0 Q (F0 m pc ls [])) (σ : hy_S) (H : Heap) (locs : List Loc) (ls : Array Slot) (hf : fX8_stepOn σ = some o) (w : hy_w cw G A s σ H locs) (hl : lv_has ls 4 [(0, .ref (G.2.2.2.1 9))]) : W p l e R s m args below meth c H locs 0 0 Q (F0 m 0 ls []) := by
  unfold fX8_stepOn at hf
  refine lv_aload_n B.1.1 B.1.2.1 dX8_stepOn_0 rfl (lv_at hl 0 rfl) ?_
  refine hy_get (k := 7) (v := .ref (G.2.2.2.1 39)) B w (cwq_9 G) rfl in_X8_stepOn_X8 (by decide) (by decide +kernel) rfl dX8_stepOn_1 ?_
  refine lv_ldc (v := (-1000000000)) B.1.1 B.1.2.1 B.1.2.2.2.1 (B.1.2.2.2.2 (.constant RX8 51 (-1000000000)) (by decide +kernel)) dX8_stepOn_4 ?_
  obtain ⟨σ1, v2, h3, hf⟩ := hy_bd_some hf
  refine hy_csv (As := [.ref (G.2.2.2.1 39), .int (-1000000000)]) (rest := []) (o := (σ1, v2)) cw_fix hA B w (fun sz => mX8_setAll_n l G sz σ (-1000000000) _ h3) (cwS 2 B.1.2.2.2.2 gX8_stepOn_X8_setAll rfl rfl rfl (by decide +kernel) ⟨by have := hR.1; show 0 + 1 ≤ _; omega, by have := hR.2; show 8 + (3 + 11) + 0 ≤ _; omega⟩) rfl hl.1 rfl (Nat.le_of_ble_eq_true rfl) dX8_stepOn_6 ⟨Nat.zero_le _, Nat.zero_le _⟩ (fun H locs w => ?_)
  refine lv_iconst (v := 0) B.1.1 B.1.2.1 dX8_stepOn_9 (by decide) ?_
  refine lv_istore_n (lv' := [(1, .int 0), (0, .ref (G.2.2.2.1 9))]) B.1.1 B.1.2.1 dX8_stepOn_10 rfl hl (by decide) rfl (fun ls hl => ?_)
  exact bX8_stepOn_11 hA B hR  hret _ _ _ _ _ _ hf w (lv_sub hl [1, 0] rfl)
set_option maxHeartbeats 4000000 in
set_option maxRecDepth 100000 in
theorem mX8_stepOn (l : Launch) (G : hy_G) (sz : Nat) (σ : hy_S) (o : hy_S × Int32) (hf : fX8_stepOn σ = some o) : hy_Mv l yX8_stepOn wsX8_stepOn ({ frames := 1, cells := 0, slots := 0, locals := 60 }) cw G σ sz [.ref (G.2.2.2.1 9)] o := by
  refine Met.ofW (cc := cX8_stepOn) (maxL := 4) (ret := none) (by decide +kernel) rfl ?_
  intro p e s m args below meth c s₁ B hml hv
  obtain ⟨rfl, hsz, hP, hK, hD0, hN⟩ := hv
  have hx := B.exec
  have hb := B.bytes
  have hr := B.returns
  have hts := atoms_spec (ws := wsX8_stepOn) B.pre
  have hown : s.vm.findClass RX8 = some m.cls := findClass_of_methodNamed B.named
  have hlocks := B.notSynchronized
  subst hsz
  have hD := hD0.self (sz := s.heap.size)
  have hA : ∀ q : Nat, s.heap.size ≤ q → va_A (cw G σ) s.heap.size q := fun q h => Or.inr h
  have hS : va_S (va_A (cw G σ) s.heap.size) s.heap s.heap [] := va_S.rf
  have hl := lv_entry ([.ref (G.2.2.2.1 9)]) (n := 4) (Nat.le_of_ble_eq_true rfl)
  rw [lg_entry_eq]
  generalize (lg_sl ([.ref (G.2.2.2.1 9)]) ++ List.replicate (4 - (lg_sl ([.ref (G.2.2.2.1 9)])).length) Slot.unset).toArray = ls at hl ⊢
  have hl : lv_has ls 4 [(0, .ref (G.2.2.2.1 9))] := hl
  refine bX8_stepOn_0 (A := va_A (cw G σ) s.heap.size) hA ⟨⟨hx, hb, hml, hown, hts⟩, hK, hN⟩ ⟨Nat.le_of_ble_eq_true rfl, Nat.le_of_ble_eq_true rfl⟩ (o := o) (fun τ pc H locs ls ho w d => ?_) σ _ _ _ hf ⟨hP, hD, hS⟩ hl
  exact W.vret hx hb hr (fun t ht hW => ⟨⟨τ, rfl, by rw [ho], by have h9 := w.1; rw [← ht] at h9; exact h9⟩, w.2.2.F ht⟩) w.2.2.2.2 d
theorem in_X8_ringThrough_X8 : ∀ w ∈ u_ws RX8 TX8 10, w ∈ wsX8_ringThrough := fun _ h => xt1 (xr (h))
noncomputable def fX8_ringThrough_18 : Nat → hy_S → Int32 → Int32 → Int32 → Option (hy_S × Int32)
  | 0, _, _, _, _ => none
  | n + 1, σ, x1, x2, x3 => (if x2 ≤ x3 then some (σ, x2) else hy_bd (fX8_stepOn σ) (fun σ2 v3 => hy_ga σ2 28 13 x1 (fun v5 => (if v5 ≤ 0 then (fX8_ringThrough_18 n) σ2 x1 x2 (x3 + 1) else some (σ2, x3)))))
noncomputable def fX8_ringThrough (σ : hy_S) (x1 : Int32) (x2 : Int32) : Option (hy_S × Int32) := hy_bd (fX8_setAll_a σ (-1000000000)) (fun σ1 v2 => hy_pa σ1 28 13 x1 0 (fun σ4 => fX8_ringThrough_18 hy_fu σ4 x1 x2 1))
set_option maxHeartbeats 4000000 in
set_option maxRecDepth 100000 in
theorem bX8_ringThrough_18 (hA : ∀ q : Nat, s.heap.size ≤ q → A q) (B : hy_B RX8 cX8_ringThrough 4 wsX8_ringThrough G A p s m args c) (hR : 2 ≤ R.frames ∧ 83 ≤ R.locals) {o : hy_S × Int32}  (hret : ∀ (σ : hy_S) (v : Int32) (pc : Nat) (H : Heap) (locs : List Loc) (ls : Array Slot), o = (σ, v) → hy_w cw G A s σ H locs → decode cX8_ringThrough pc = .ok (.ireturn, 1) → W p l e R s m args below meth c H locs 0 0 Q (F0 m pc ls [.int v])) : ∀ (n : Nat) (σ : hy_S) (x1 : Int32) (x2 : Int32) (x3 : Int32) (H : Heap) (locs : List Loc) (ls : Array Slot), fX8_ringThrough_18 n σ x1 x2 x3 = some o → hy_w cw G A s σ H locs → lv_has ls 4 [(0, .ref (G.2.2.2.1 9)), (1, .int x1), (2, .int x2), (3, .int x3)] → W p l e R s m args below meth c H locs 0 0 Q (F0 m 18 ls []) := by
  intro n
  induction n with
  | zero => intro σ x1 x2 x3 H locs ls hf; cases hf
  | succ n hk18 =>
    intro σ x1 x2 x3 H locs ls hf w hl
    unfold fX8_ringThrough_18 at hf
    refine lv_iload_n B.1.1 B.1.2.1 dX8_ringThrough_18 rfl (lv_at hl 3 rfl) ?_
    refine lv_iload_n B.1.1 B.1.2.1 dX8_ringThrough_19 rfl (lv_at hl 2 rfl) ?_
    refine lv_icmp_ge (tgt := 44) B.1.1 B.1.2.1 dX8_ringThrough_20 (by decide) (fun c1 => ?_) (fun c1 => ?_)
    · rw [if_pos c1] at hf
      refine lv_iload_n B.1.1 B.1.2.1 dX8_ringThrough_44 rfl (lv_at hl 2 rfl) ?_
      exact hret _ _ _ _ _ _ (Option.some.inj hf).symm w dX8_ringThrough_45
    · rw [if_neg c1] at hf
      refine lv_aload_n B.1.1 B.1.2.1 dX8_ringThrough_23 rfl (lv_at hl 0 rfl) ?_
      obtain ⟨σ2, v3, h4, hf⟩ := hy_bd_some hf
      refine hy_cvv (As := []) (rest := []) (o := (σ2, v3)) cw_fix hA B w (fun sz => mX8_stepOn l G sz σ  _ h4) (cwV 0 B.1.2.2.2.2 gX8_ringThrough_X8_stepOn rfl rfl rfl (by decide +kernel) ⟨by have := hR.1; show 1 + 1 ≤ _; omega, by have := hR.2; show 8 + (4 + 11) + 60 ≤ _; omega⟩) rfl (cwq_9 G σ) rfl hl.1 rfl (Nat.le_of_ble_eq_true rfl) dX8_ringThrough_24 ⟨Nat.zero_le _, Nat.zero_le _⟩ (fun H locs w => ?_)
      refine lv_aload_n B.1.1 B.1.2.1 dX8_ringThrough_27 rfl (lv_at hl 0 rfl) ?_
      refine hy_get (k := 6) (v := .ref (G.2.2.2.1 38)) B w (cwq_9 G) rfl in_X8_ringThrough_X8 (by decide) (by decide +kernel) rfl dX8_ringThrough_28 ?_
      refine lv_iload_n B.1.1 B.1.2.1 dX8_ringThrough_31 rfl (lv_at hl 1 rfl) ?_
      obtain ⟨h7, v5, e6, hf⟩ := hy_ga_some hf
      refine hy_iald B w (cwq_38 G) h7 e6 dX8_ringThrough_32 ?_
      refine lv_if_le (tgt := 38) B.1.1 B.1.2.1 dX8_ringThrough_33 (by decide) (fun c8 => ?_) (fun c8 => ?_)
      · rw [if_pos c8] at hf
        refine lv_iinc (v := (x3 + 1)) (lv' := [(3, .int (x3 + 1)), (0, .ref (G.2.2.2.1 9)), (1, .int x1), (2, .int x2)]) B.1.1 B.1.2.1 dX8_ringThrough_38 hl (k := 3) rfl rfl (by decide) rfl (fun ls hl => ?_)
        refine lv_goto (tgt := 18) B.1.1 B.1.2.1 dX8_ringThrough_41 (by decide) ?_
        exact hk18 _ _ _ _ _ _ _ hf w (lv_sub hl [1, 2, 3, 0] rfl)
      · rw [if_neg c8] at hf
        refine lv_iload_n B.1.1 B.1.2.1 dX8_ringThrough_36 rfl (lv_at hl 3 rfl) ?_
        exact hret _ _ _ _ _ _ (Option.some.inj hf).symm w dX8_ringThrough_37
set_option maxHeartbeats 4000000 in
set_option maxRecDepth 100000 in
theorem bX8_ringThrough_0 (hA : ∀ q : Nat, s.heap.size ≤ q → A q) (B : hy_B RX8 cX8_ringThrough 4 wsX8_ringThrough G A p s m args c) (hR : 2 ≤ R.frames ∧ 83 ≤ R.locals) {o : hy_S × Int32}  (hret : ∀ (σ : hy_S) (v : Int32) (pc : Nat) (H : Heap) (locs : List Loc) (ls : Array Slot), o = (σ, v) → hy_w cw G A s σ H locs → decode cX8_ringThrough pc = .ok (.ireturn, 1) → W p l e R s m args below meth c H locs 0 0 Q (F0 m pc ls [.int v])) (σ : hy_S) (x1 : Int32) (x2 : Int32) (H : Heap) (locs : List Loc) (ls : Array Slot) (hf : fX8_ringThrough σ x1 x2 = some o) (w : hy_w cw G A s σ H locs) (hl : lv_has ls 4 [(0, .ref (G.2.2.2.1 9)), (1, .int x1), (2, .int x2)]) : W p l e R s m args below meth c H locs 0 0 Q (F0 m 0 ls []) := by
  unfold fX8_ringThrough at hf
  refine lv_aload_n B.1.1 B.1.2.1 dX8_ringThrough_0 rfl (lv_at hl 0 rfl) ?_
  refine hy_get (k := 6) (v := .ref (G.2.2.2.1 38)) B w (cwq_9 G) rfl in_X8_ringThrough_X8 (by decide) (by decide +kernel) rfl dX8_ringThrough_1 ?_
  refine lv_ldc (v := (-1000000000)) B.1.1 B.1.2.1 B.1.2.2.2.1 (B.1.2.2.2.2 (.constant RX8 51 (-1000000000)) (by decide +kernel)) dX8_ringThrough_4 ?_
  obtain ⟨σ1, v2, h3, hf⟩ := hy_bd_some hf
  refine hy_csv (As := [.ref (G.2.2.2.1 38), .int (-1000000000)]) (rest := []) (o := (σ1, v2)) cw_fix hA B w (fun sz => mX8_setAll_a l G sz σ (-1000000000) _ h3) (cwS 2 B.1.2.2.2.2 gX8_ringThrough_X8_setAll rfl rfl rfl (by decide +kernel) ⟨by have := hR.1; show 0 + 1 ≤ _; omega, by have := hR.2; show 8 + (3 + 11) + 0 ≤ _; omega⟩) rfl hl.1 rfl (Nat.le_of_ble_eq_true rfl) dX8_ringThrough_6 ⟨Nat.zero_le _, Nat.zero_le _⟩ (fun H locs w => ?_)
  refine lv_aload_n B.1.1 B.1.2.1 dX8_ringThrough_9 rfl (lv_at hl 0 rfl) ?_
  refine hy_get (k := 6) (v := .ref (G.2.2.2.1 38)) B w (cwq_9 G) rfl in_X8_ringThrough_X8 (by decide) (by decide +kernel) rfl dX8_ringThrough_10 ?_
  refine lv_iload_n B.1.1 B.1.2.1 dX8_ringThrough_13 rfl (lv_at hl 1 rfl) ?_
  refine lv_iconst (v := 0) B.1.1 B.1.2.1 dX8_ringThrough_14 (by decide) ?_
  obtain ⟨h6, σ4, e5, hf⟩ := hy_pa_some hf
  refine hy_iast B w (cwq_38 G) (cws_38 G) h6 e5 dX8_ringThrough_15 (fun H locs w => ?_)
  refine lv_iconst (v := 1) B.1.1 B.1.2.1 dX8_ringThrough_16 (by decide) ?_
  refine lv_istore_n (lv' := [(3, .int 1), (0, .ref (G.2.2.2.1 9)), (1, .int x1), (2, .int x2)]) B.1.1 B.1.2.1 dX8_ringThrough_17 rfl hl (by decide) rfl (fun ls hl => ?_)
  exact bX8_ringThrough_18 hA B hR  hret _ _ _ _ _ _ _ _ hf w (lv_sub hl [1, 2, 3, 0] rfl)
set_option maxHeartbeats 4000000 in
set_option maxRecDepth 100000 in
theorem mX8_ringThrough (l : Launch) (G : hy_G) (sz : Nat) (σ : hy_S) (x1 : Int32) (x2 : Int32) (o : hy_S × Int32) (hf : fX8_ringThrough σ x1 x2 = some o) : hy_M l yX8_ringThrough wsX8_ringThrough ({ frames := 2, cells := 0, slots := 0, locals := 83 }) cw G σ sz [.ref (G.2.2.2.1 9), .int x1, .int x2] o := by
  refine Met.ofW (cc := cX8_ringThrough) (maxL := 4) (ret := (some .int)) (by decide +kernel) rfl ?_
  intro p e s m args below meth c s₁ B hml hv
  obtain ⟨rfl, hsz, hP, hK, hD0, hN⟩ := hv
  have hx := B.exec
  have hb := B.bytes
  have hr := B.returns
  have hts := atoms_spec (ws := wsX8_ringThrough) B.pre
  have hown : s.vm.findClass RX8 = some m.cls := findClass_of_methodNamed B.named
  have hlocks := B.notSynchronized
  subst hsz
  have hD := hD0.self (sz := s.heap.size)
  have hA : ∀ q : Nat, s.heap.size ≤ q → va_A (cw G σ) s.heap.size q := fun q h => Or.inr h
  have hS : va_S (va_A (cw G σ) s.heap.size) s.heap s.heap [] := va_S.rf
  have hl := lv_entry ([.ref (G.2.2.2.1 9), .int x1, .int x2]) (n := 4) (Nat.le_of_ble_eq_true rfl)
  rw [lg_entry_eq]
  generalize (lg_sl ([.ref (G.2.2.2.1 9), .int x1, .int x2]) ++ List.replicate (4 - (lg_sl ([.ref (G.2.2.2.1 9), .int x1, .int x2])).length) Slot.unset).toArray = ls at hl ⊢
  have hl : lv_has ls 4 [(0, .ref (G.2.2.2.1 9)), (1, .int x1), (2, .int x2)] := hl
  refine bX8_ringThrough_0 (A := va_A (cw G σ) s.heap.size) hA ⟨⟨hx, hb, hml, hown, hts⟩, hK, hN⟩ ⟨Nat.le_of_ble_eq_true rfl, Nat.le_of_ble_eq_true rfl⟩ (o := o) (fun τ v pc H locs ls ho w d => ?_) σ x1 x2 _ _ _ hf ⟨hP, hD, hS⟩ hl
  exact W.iret hx hb hr (fun t ht hW => ⟨⟨v, τ, rfl, ⟨by rw [ho], by rw [ho]⟩, by have h9 := w.1; rw [← ht] at h9; exact h9⟩, w.2.2.F ht⟩) w.2.2.2.2 d
noncomputable def fX8_fewestThatQuarrel_5 : Nat → hy_S → Int32 → Int32 → Option (hy_S × Int32)
  | 0, _, _, _ => none
  | n + 1, σ, x1, x2 => (if 13 ≤ x2 then some (σ, x1) else hy_bd (fX8_ringThrough σ x2 x1) (fun σ2 v3 => (fX8_fewestThatQuarrel_5 n) σ2 v3 (x2 + 1)))
noncomputable def fX8_fewestThatQuarrel (σ : hy_S) : Option (hy_S × Int32) := fX8_fewestThatQuarrel_5 hy_fu σ 14 0
set_option maxHeartbeats 4000000 in
set_option maxRecDepth 100000 in
theorem bX8_fewestThatQuarrel_5 (hA : ∀ q : Nat, s.heap.size ≤ q → A q) (B : hy_B RX8 cX8_fewestThatQuarrel 3 wsX8_fewestThatQuarrel G A p s m args c) (hR : 3 ≤ R.frames ∧ 106 ≤ R.locals) {o : hy_S × Int32}  (hret : ∀ (σ : hy_S) (v : Int32) (pc : Nat) (H : Heap) (locs : List Loc) (ls : Array Slot), o = (σ, v) → hy_w cw G A s σ H locs → decode cX8_fewestThatQuarrel pc = .ok (.ireturn, 1) → W p l e R s m args below meth c H locs 0 0 Q (F0 m pc ls [.int v])) : ∀ (n : Nat) (σ : hy_S) (x1 : Int32) (x2 : Int32) (H : Heap) (locs : List Loc) (ls : Array Slot), fX8_fewestThatQuarrel_5 n σ x1 x2 = some o → hy_w cw G A s σ H locs → lv_has ls 3 [(0, .ref (G.2.2.2.1 9)), (1, .int x1), (2, .int x2)] → W p l e R s m args below meth c H locs 0 0 Q (F0 m 5 ls []) := by
  intro n
  induction n with
  | zero => intro σ x1 x2 H locs ls hf; cases hf
  | succ n hk5 =>
    intro σ x1 x2 H locs ls hf w hl
    unfold fX8_fewestThatQuarrel_5 at hf
    refine lv_iload_n B.1.1 B.1.2.1 dX8_fewestThatQuarrel_5 rfl (lv_at hl 2 rfl) ?_
    refine lv_bipush (v := 13) B.1.1 B.1.2.1 dX8_fewestThatQuarrel_6 (by decide) ?_
    refine lv_icmp_ge (tgt := 24) B.1.1 B.1.2.1 dX8_fewestThatQuarrel_8 (by decide) (fun c1 => ?_) (fun c1 => ?_)
    · rw [if_pos c1] at hf
      refine lv_iload_n B.1.1 B.1.2.1 dX8_fewestThatQuarrel_24 rfl (lv_at hl 1 rfl) ?_
      exact hret _ _ _ _ _ _ (Option.some.inj hf).symm w dX8_fewestThatQuarrel_25
    · rw [if_neg c1] at hf
      refine lv_aload_n B.1.1 B.1.2.1 dX8_fewestThatQuarrel_11 rfl (lv_at hl 0 rfl) ?_
      refine lv_iload_n B.1.1 B.1.2.1 dX8_fewestThatQuarrel_12 rfl (lv_at hl 2 rfl) ?_
      refine lv_iload_n B.1.1 B.1.2.1 dX8_fewestThatQuarrel_13 rfl (lv_at hl 1 rfl) ?_
      obtain ⟨σ2, v3, h4, hf⟩ := hy_bd_some hf
      refine hy_cv (As := [.int x2, .int x1]) (rest := []) (o := (σ2, v3)) cw_fix hA B w (fun sz => mX8_ringThrough l G sz σ x2 x1 _ h4) (cwV 2 B.1.2.2.2.2 gX8_fewestThatQuarrel_X8_ringThrough rfl rfl rfl (by decide +kernel) ⟨by have := hR.1; show 2 + 1 ≤ _; omega, by have := hR.2; show 8 + (4 + 11) + 83 ≤ _; omega⟩) rfl (cwq_9 G σ) rfl hl.1 rfl (Nat.le_of_ble_eq_true rfl) dX8_fewestThatQuarrel_14 ⟨Nat.zero_le _, Nat.zero_le _⟩ (fun H locs w => ?_)
      refine lv_istore_n (lv' := [(1, .int v3), (0, .ref (G.2.2.2.1 9)), (2, .int x2)]) B.1.1 B.1.2.1 dX8_fewestThatQuarrel_17 rfl hl (by decide) rfl (fun ls hl => ?_)
      refine lv_iinc (v := (x2 + 1)) (lv' := [(2, .int (x2 + 1)), (1, .int v3), (0, .ref (G.2.2.2.1 9))]) B.1.1 B.1.2.1 dX8_fewestThatQuarrel_18 hl (k := 2) rfl rfl (by decide) rfl (fun ls hl => ?_)
      refine lv_goto (tgt := 5) B.1.1 B.1.2.1 dX8_fewestThatQuarrel_21 (by decide) ?_
      exact hk5 _ _ _ _ _ _ hf w (lv_sub hl [2, 1, 0] rfl)
set_option maxHeartbeats 4000000 in
set_option maxRecDepth 100000 in
theorem bX8_fewestThatQuarrel_0 (hA : ∀ q : Nat, s.heap.size ≤ q → A q) (B : hy_B RX8 cX8_fewestThatQuarrel 3 wsX8_fewestThatQuarrel G A p s m args c) (hR : 3 ≤ R.frames ∧ 106 ≤ R.locals) {o : hy_S × Int32}  (hret : ∀ (σ : hy_S) (v : Int32) (pc : Nat) (H : Heap) (locs : List Loc) (ls : Array Slot), o = (σ, v) → hy_w cw G A s σ H locs → decode cX8_fewestThatQuarrel pc = .ok (.ireturn, 1) → W p l e R s m args below meth c H locs 0 0 Q (F0 m pc ls [.int v])) (σ : hy_S) (H : Heap) (locs : List Loc) (ls : Array Slot) (hf : fX8_fewestThatQuarrel σ = some o) (w : hy_w cw G A s σ H locs) (hl : lv_has ls 3 [(0, .ref (G.2.2.2.1 9))]) : W p l e R s m args below meth c H locs 0 0 Q (F0 m 0 ls []) := by
  unfold fX8_fewestThatQuarrel at hf
  refine lv_bipush (v := 14) B.1.1 B.1.2.1 dX8_fewestThatQuarrel_0 (by decide) ?_
  refine lv_istore_n (lv' := [(1, .int 14), (0, .ref (G.2.2.2.1 9))]) B.1.1 B.1.2.1 dX8_fewestThatQuarrel_2 rfl hl (by decide) rfl (fun ls hl => ?_)
  refine lv_iconst (v := 0) B.1.1 B.1.2.1 dX8_fewestThatQuarrel_3 (by decide) ?_
  refine lv_istore_n (lv' := [(2, .int 0), (1, .int 14), (0, .ref (G.2.2.2.1 9))]) B.1.1 B.1.2.1 dX8_fewestThatQuarrel_4 rfl hl (by decide) rfl (fun ls hl => ?_)
  exact bX8_fewestThatQuarrel_5 hA B hR  hret _ _ _ _ _ _ _ hf w (lv_sub hl [2, 1, 0] rfl)
set_option maxHeartbeats 4000000 in
set_option maxRecDepth 100000 in
theorem mX8_fewestThatQuarrel (l : Launch) (G : hy_G) (sz : Nat) (σ : hy_S) (o : hy_S × Int32) (hf : fX8_fewestThatQuarrel σ = some o) : hy_M l yX8_fewestThatQuarrel wsX8_fewestThatQuarrel ({ frames := 3, cells := 0, slots := 0, locals := 106 }) cw G σ sz [.ref (G.2.2.2.1 9)] o := by
  refine Met.ofW (cc := cX8_fewestThatQuarrel) (maxL := 3) (ret := (some .int)) (by decide +kernel) rfl ?_
  intro p e s m args below meth c s₁ B hml hv
  obtain ⟨rfl, hsz, hP, hK, hD0, hN⟩ := hv
  have hx := B.exec
  have hb := B.bytes
  have hr := B.returns
  have hts := atoms_spec (ws := wsX8_fewestThatQuarrel) B.pre
  have hown : s.vm.findClass RX8 = some m.cls := findClass_of_methodNamed B.named
  have hlocks := B.notSynchronized
  subst hsz
  have hD := hD0.self (sz := s.heap.size)
  have hA : ∀ q : Nat, s.heap.size ≤ q → va_A (cw G σ) s.heap.size q := fun q h => Or.inr h
  have hS : va_S (va_A (cw G σ) s.heap.size) s.heap s.heap [] := va_S.rf
  have hl := lv_entry ([.ref (G.2.2.2.1 9)]) (n := 3) (Nat.le_of_ble_eq_true rfl)
  rw [lg_entry_eq]
  generalize (lg_sl ([.ref (G.2.2.2.1 9)]) ++ List.replicate (3 - (lg_sl ([.ref (G.2.2.2.1 9)])).length) Slot.unset).toArray = ls at hl ⊢
  have hl : lv_has ls 3 [(0, .ref (G.2.2.2.1 9))] := hl
  refine bX8_fewestThatQuarrel_0 (A := va_A (cw G σ) s.heap.size) hA ⟨⟨hx, hb, hml, hown, hts⟩, hK, hN⟩ ⟨Nat.le_of_ble_eq_true rfl, Nat.le_of_ble_eq_true rfl⟩ (o := o) (fun τ v pc H locs ls ho w d => ?_) σ _ _ _ hf ⟨hP, hD, hS⟩ hl
  exact W.iret hx hb hr (fun t ht hW => ⟨⟨v, τ, rfl, ⟨by rw [ho], by rw [ho]⟩, by have h9 := w.1; rw [← ht] at h9; exact h9⟩, w.2.2.F ht⟩) w.2.2.2.2 d
end HK7
