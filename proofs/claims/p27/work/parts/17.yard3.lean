section HY3
variable {p : Program} {l : Launch} {e : Env} {R : Room} {s : State} {m : MethodId} {args : Array Value} {below : List Frame} {meth : Method} {c : Code} {Q : State → Prop} {G : hy_G} {A : Nat → Prop} {Qc : Array Value → State → Outcome → State → Prop}
theorem in_X9_tallest_X9 : ∀ w ∈ u_ws RX9 TX9 11, w ∈ wsX9_tallest := fun _ h => xt1 (xl (xl (xl (xl (xr (h))))))
noncomputable def fX9_tallest (σ : hy_S) (x1 : Int32) : Option (hy_S × Int32 × Nat) := hy_bd (fX6_choose σ x1) (fun σ1 v2 => hy_bt (fX9_needNumber σ1 v2 0 12) some (fun σ4 v5 => hy_bd (fX6_greatest σ4) (fun σ8 v9 => some (σ8, v9, 0))))
set_option maxHeartbeats 4000000 in
set_option maxRecDepth 100000 in
theorem bX9_tallest_0 (hA : ∀ q : Nat, s.heap.size ≤ q → A q) (B : hy_B RX9 cX9_tallest 2 wsX9_tallest G A p s m args c) (hR : 7 ≤ R.frames ∧ 104 ≤ R.locals) {o : hy_S × Int32 × Nat}  (ho : o.2.2 = 0) (hret : ∀ (σ : hy_S) (v : Int32) (pc : Nat) (H : Heap) (locs : List Loc) (ls : Array Slot), o = (σ, v, 0) → hy_w cw G A s σ H locs → decode cX9_tallest pc = .ok (.ireturn, 1) → W p l e R s m args below meth c H locs 0 0 Q (F0 m pc ls [.int v])) (σ : hy_S) (x1 : Int32) (H : Heap) (locs : List Loc) (ls : Array Slot) (hf : fX9_tallest σ x1 = some o) (w : hy_w cw G A s σ H locs) (hl : lv_has ls 2 [(0, .ref (G.2.2.2.1 0)), (1, .int x1)]) : W p l e R s m args below meth c H locs 0 0 Q (F0 m 0 ls []) := by
  unfold fX9_tallest at hf
  refine lv_aload_n B.1.1 B.1.2.1 dX9_tallest_0 rfl (lv_at hl 0 rfl) ?_
  refine hy_get (k := 5) (v := .ref (G.2.2.2.1 6)) B w (cwq_0 G) rfl in_X9_tallest_X9 (by decide) (by decide +kernel) rfl dX9_tallest_1 ?_
  refine lv_iload_n B.1.1 B.1.2.1 dX9_tallest_4 rfl (lv_at hl 1 rfl) ?_
  obtain ⟨σ1, v2, h3, hf⟩ := hy_bd_some hf
  refine hy_cv (As := [.int x1]) (rest := []) (o := (σ1, v2)) cw_fix hA B w (fun sz => mX6_choose l G sz σ x1 _ h3) (cwV 1 B.1.2.2.2.2 gX9_tallest_X6_choose rfl rfl rfl (by decide +kernel) ⟨by have := hR.1; show 3 + 1 ≤ _; omega, by have := hR.2; show 8 + (3 + 11) + 64 ≤ _; omega⟩) rfl (cwq_6 G σ) rfl hl.1 rfl (Nat.le_of_ble_eq_true rfl) dX9_tallest_5 ⟨Nat.zero_le _, Nat.zero_le _⟩ (fun H locs w => ?_)
  refine lv_iconst (v := 0) B.1.1 B.1.2.1 dX9_tallest_8 (by decide) ?_
  refine lv_bipush (v := 12) B.1.1 B.1.2.1 dX9_tallest_9 (by decide) ?_
  rcases hy_bt_some hf with ⟨σ4, v5, h6, hf⟩ | ⟨h6, h7⟩
  · refine hy_csv (As := [.int v2, .int 0, .int 12]) (rest := []) (o := (σ4, v5)) cw_fix hA B w (fun sz => mX9_needNumber l G sz σ1 v2 0 12 _ h6 rfl) (cwS 3 B.1.2.2.2.2 gX9_tallest_X9_needNumber rfl rfl rfl (by decide +kernel) ⟨by have := hR.1; show 6 + 1 ≤ _; omega, by have := hR.2; show 8 + (3 + 11) + 82 ≤ _; omega⟩) rfl hl.1 rfl (Nat.le_of_ble_eq_true rfl) dX9_tallest_11 ⟨Nat.zero_le _, Nat.zero_le _⟩ (fun H locs w => ?_)
    refine lv_aload_n B.1.1 B.1.2.1 dX9_tallest_14 rfl (lv_at hl 0 rfl) ?_
    refine hy_get (k := 5) (v := .ref (G.2.2.2.1 6)) B w (cwq_0 G) rfl in_X9_tallest_X9 (by decide) (by decide +kernel) rfl dX9_tallest_15 ?_
    obtain ⟨σ8, v9, h10, hf⟩ := hy_bd_some hf
    refine hy_cv (As := []) (rest := []) (o := (σ8, v9)) cw_fix hA B w (fun sz => mX6_greatest l G sz σ4  _ h10) (cwV 0 B.1.2.2.2.2 gX9_tallest_X6_greatest rfl rfl rfl (by decide +kernel) ⟨by have := hR.1; show 1 + 1 ≤ _; omega, by have := hR.2; show 8 + (5 + 11) + 30 ≤ _; omega⟩) rfl (cwq_6 G σ4) rfl hl.1 rfl (Nat.le_of_ble_eq_true rfl) dX9_tallest_18 ⟨Nat.zero_le _, Nat.zero_le _⟩ (fun H locs w => ?_)
    exact hret _ _ _ _ _ _ (Option.some.inj hf).symm w dX9_tallest_21
  · exact absurd ho h7
set_option maxHeartbeats 4000000 in
set_option maxRecDepth 100000 in
theorem mX9_tallest (l : Launch) (G : hy_G) (sz : Nat) (σ : hy_S) (x1 : Int32) (o : hy_S × Int32 × Nat) (hf : fX9_tallest σ x1 = some o) (ho : o.2.2 = 0) : hy_M l yX9_tallest wsX9_tallest ({ frames := 7, cells := 0, slots := 0, locals := 104 }) cw G σ sz [.ref (G.2.2.2.1 0), .int x1] (o.1, o.2.1) := by
  refine Met.ofW (cc := cX9_tallest) (maxL := 2) (ret := (some .int)) (by decide +kernel) rfl ?_
  intro p e s m args below meth c s₁ B hml hv
  obtain ⟨rfl, hsz, hP, hK, hD0, hN⟩ := hv
  have hx := B.exec
  have hb := B.bytes
  have hr := B.returns
  have hts := atoms_spec (ws := wsX9_tallest) B.pre
  have hown : s.vm.findClass RX9 = some m.cls := findClass_of_methodNamed B.named
  have hlocks := B.notSynchronized
  subst hsz
  have hD := hD0.self (sz := s.heap.size)
  have hA : ∀ q : Nat, s.heap.size ≤ q → va_A (cw G σ) s.heap.size q := fun q h => Or.inr h
  have hS : va_S (va_A (cw G σ) s.heap.size) s.heap s.heap [] := va_S.rf
  have hl := lv_entry ([.ref (G.2.2.2.1 0), .int x1]) (n := 2) (Nat.le_of_ble_eq_true rfl)
  rw [lg_entry_eq]
  generalize (lg_sl ([.ref (G.2.2.2.1 0), .int x1]) ++ List.replicate (2 - (lg_sl ([.ref (G.2.2.2.1 0), .int x1])).length) Slot.unset).toArray = ls at hl ⊢
  have hl : lv_has ls 2 [(0, .ref (G.2.2.2.1 0)), (1, .int x1)] := hl
  refine bX9_tallest_0 (A := va_A (cw G σ) s.heap.size) hA ⟨⟨hx, hb, hml, hown, hts⟩, hK, hN⟩ ⟨Nat.le_of_ble_eq_true rfl, Nat.le_of_ble_eq_true rfl⟩ (o := o) ho (fun τ v pc H locs ls ho w d => ?_) σ x1 _ _ _ hf ⟨hP, hD, hS⟩ hl
  exact W.iret hx hb hr (fun t ht hW => ⟨⟨v, τ, rfl, ⟨by rw [ho], by rw [ho]⟩, by have h9 := w.1; rw [← ht] at h9; exact h9⟩, w.2.2.F ht⟩) w.2.2.2.2 d
set_option maxHeartbeats 4000000 in
set_option maxRecDepth 100000 in
theorem tbX9_tallest_0 (hA : ∀ q : Nat, s.heap.size ≤ q → A q) (B : hy_B RX9 cX9_tallest 2 wsX9_tallest G A p s m args c) (hR : 7 ≤ R.frames ∧ 104 ≤ R.locals) {o : hy_S × Int32 × Nat}  (ho : ¬ o.2.2 = 0) (hT : hy_TC l R meth c) (σ : hy_S) (x1 : Int32) (H : Heap) (locs : List Loc) (ls : Array Slot) (hf : fX9_tallest σ x1 = some o) (w : hy_w cw G A s σ H locs) (hl : lv_has ls 2 [(0, .ref (G.2.2.2.1 0)), (1, .int x1)]) : W p l e R s m args below meth c H locs 0 0 (vx_MQ below Qc (hy_X cw G o A) args s 1 6 A) (F0 m 0 ls []) := by
  unfold fX9_tallest at hf
  refine lv_aload_n B.1.1 B.1.2.1 dX9_tallest_0 rfl (lv_at hl 0 rfl) ?_
  refine hy_get (k := 5) (v := .ref (G.2.2.2.1 6)) B w (cwq_0 G) rfl in_X9_tallest_X9 (by decide) (by decide +kernel) rfl dX9_tallest_1 ?_
  refine lv_iload_n B.1.1 B.1.2.1 dX9_tallest_4 rfl (lv_at hl 1 rfl) ?_
  obtain ⟨σ1, v2, h3, hf⟩ := hy_bd_some hf
  refine hy_cv (As := [.int x1]) (rest := []) (o := (σ1, v2)) cw_fix hA B w (fun sz => mX6_choose l G sz σ x1 _ h3) (cwV 1 B.1.2.2.2.2 gX9_tallest_X6_choose rfl rfl rfl (by decide +kernel) ⟨by have := hR.1; show 3 + 1 ≤ _; omega, by have := hR.2; show 8 + (3 + 11) + 64 ≤ _; omega⟩) rfl (cwq_6 G σ) rfl hl.1 rfl (Nat.le_of_ble_eq_true rfl) dX9_tallest_5 ⟨Nat.zero_le _, Nat.zero_le _⟩ (fun H locs w => ?_)
  refine lv_iconst (v := 0) B.1.1 B.1.2.1 dX9_tallest_8 (by decide) ?_
  refine lv_bipush (v := 12) B.1.1 B.1.2.1 dX9_tallest_9 (by decide) ?_
  rcases hy_bt_some hf with ⟨σ4, v5, h6, hf⟩ | ⟨h6, h7⟩
  · refine hy_csv (As := [.int v2, .int 0, .int 12]) (rest := []) (o := (σ4, v5)) cw_fix hA B w (fun sz => mX9_needNumber l G sz σ1 v2 0 12 _ h6 rfl) (cwS 3 B.1.2.2.2.2 gX9_tallest_X9_needNumber rfl rfl rfl (by decide +kernel) ⟨by have := hR.1; show 6 + 1 ≤ _; omega, by have := hR.2; show 8 + (3 + 11) + 82 ≤ _; omega⟩) rfl hl.1 rfl (Nat.le_of_ble_eq_true rfl) dX9_tallest_11 ⟨Nat.zero_le _, Nat.zero_le _⟩ (fun H locs w => ?_)
    refine lv_aload_n B.1.1 B.1.2.1 dX9_tallest_14 rfl (lv_at hl 0 rfl) ?_
    refine hy_get (k := 5) (v := .ref (G.2.2.2.1 6)) B w (cwq_0 G) rfl in_X9_tallest_X9 (by decide) (by decide +kernel) rfl dX9_tallest_15 ?_
    obtain ⟨σ8, v9, h10, hf⟩ := hy_bd_some hf
    refine hy_cv (As := []) (rest := []) (o := (σ8, v9)) cw_fix hA B w (fun sz => mX6_greatest l G sz σ4  _ h10) (cwV 0 B.1.2.2.2.2 gX9_tallest_X6_greatest rfl rfl rfl (by decide +kernel) ⟨by have := hR.1; show 1 + 1 ≤ _; omega, by have := hR.2; show 8 + (5 + 11) + 30 ≤ _; omega⟩) rfl (cwq_6 G σ4) rfl hl.1 rfl (Nat.le_of_ble_eq_true rfl) dX9_tallest_18 ⟨Nat.zero_le _, Nat.zero_le _⟩ (fun H locs w => ?_)
    exact absurd (congrArg (fun z => z.2.2) (Option.some.inj hf)).symm ho
  · exact hy_tsv (As := [.int v2, .int 0, .int 12]) (rest := []) hA B w hT (fun sz => tX9_needNumber l hT.1 G sz σ1 v2 0 12 _ h6 h7) (cwS 3 B.1.2.2.2.2 gX9_tallest_X9_needNumber rfl rfl rfl (by decide +kernel) ⟨by have := hR.1; show 6 + 1 ≤ _; omega, by have := hR.2; show 8 + (3 + 11) + 82 ≤ _; omega⟩) rfl hl.1 rfl (Nat.le_of_ble_eq_true rfl) dX9_tallest_11
set_option maxHeartbeats 4000000 in
set_option maxRecDepth 100000 in
theorem tX9_tallest (l : Launch) (hlt : l.stackTraces = false) (G : hy_G) (sz : Nat) (σ : hy_S) (x1 : Int32) (o : hy_S × Int32 × Nat) (hf : fX9_tallest σ x1 = some o) (ho : ¬ o.2.2 = 0) : hy_MT l yX9_tallest wsX9_tallest ({ frames := 7, cells := 1, slots := 6, locals := 104 }) cw G σ sz [.ref (G.2.2.2.1 0), .int x1] o := by
  refine vx_ofW (cc := cX9_tallest) (maxL := 2) (ret := (some .int)) (by decide +kernel) rfl ?_
  intro p e s m args below meth c s₁ B hml h0 hv
  obtain ⟨rfl, hsz, hP, hK, hD0, hN⟩ := hv
  have hx := B.exec
  have hb := B.bytes
  have hr := B.returns
  have hts := atoms_spec (ws := wsX9_tallest) B.pre
  have hown : s.vm.findClass RX9 = some m.cls := findClass_of_methodNamed B.named
  have hlocks := B.notSynchronized
  subst hsz
  have hD := hD0.self (sz := s.heap.size)
  have hA : ∀ q : Nat, s.heap.size ≤ q → va_A (cw G σ) s.heap.size q := fun q h => Or.inr h
  have hS : va_S (va_A (cw G σ) s.heap.size) s.heap s.heap [] := va_S.rf
  have hl := lv_entry ([.ref (G.2.2.2.1 0), .int x1]) (n := 2) (Nat.le_of_ble_eq_true rfl)
  rw [lg_entry_eq]
  generalize (lg_sl ([.ref (G.2.2.2.1 0), .int x1]) ++ List.replicate (2 - (lg_sl ([.ref (G.2.2.2.1 0), .int x1])).length) Slot.unset).toArray = ls at hl ⊢
  have hl : lv_has ls 2 [(0, .ref (G.2.2.2.1 0)), (1, .int x1)] := hl
  exact tbX9_tallest_0 (A := va_A (cw G σ) s.heap.size) hA ⟨⟨hx, hb, hml, hown, hts⟩, hK, hN⟩ ⟨Nat.le_of_ble_eq_true rfl, Nat.le_of_ble_eq_true rfl⟩ (o := o) ho ⟨hlt, hlocks, h0, Nat.le_refl _, Nat.le_refl _⟩ σ x1 _ _ _ hf ⟨hP, hD, hS⟩ hl
theorem in_X9_rate_X4 : ∀ w ∈ u_ws RX4 TX4 3, w ∈ wsX9_rate := fun _ h => xt1 (xl (xl (xr (h))))
theorem in_X9_rate_X9 : ∀ w ∈ u_ws RX9 TX9 11, w ∈ wsX9_rate := fun _ h => xt1 (xl (xl (xl (xr (h)))))
noncomputable def fX9_rate (σ : hy_S) (x1 : Int32) (x2 : Int32) : Option (hy_S × Int32 × Nat) := hy_bt (fX9_needIndex σ x1 8) some (fun σ1 v2 => hy_bt (fX9_needNumber σ1 x2 0 1000) some (fun σ5 v6 => hy_pa σ5 15 8 x1 x2 (fun σ9 => some (σ9, 0, 0))))
set_option maxHeartbeats 4000000 in
set_option maxRecDepth 100000 in
theorem bX9_rate_0 (hA : ∀ q : Nat, s.heap.size ≤ q → A q) (B : hy_B RX9 cX9_rate 3 wsX9_rate G A p s m args c) (hR : 7 ≤ R.frames ∧ 104 ≤ R.locals) {o : hy_S × Int32 × Nat}  (ho : o.2.2 = 0) (hret : ∀ (σ : hy_S) (pc : Nat) (H : Heap) (locs : List Loc) (ls : Array Slot), o = (σ, 0, 0) → hy_w cw G A s σ H locs → decode cX9_rate pc = .ok (.return_, 1) → W p l e R s m args below meth c H locs 0 0 Q (F0 m pc ls [])) (σ : hy_S) (x1 : Int32) (x2 : Int32) (H : Heap) (locs : List Loc) (ls : Array Slot) (hf : fX9_rate σ x1 x2 = some o) (w : hy_w cw G A s σ H locs) (hl : lv_has ls 3 [(0, .ref (G.2.2.2.1 0)), (1, .int x1), (2, .int x2)]) : W p l e R s m args below meth c H locs 0 0 Q (F0 m 0 ls []) := by
  unfold fX9_rate at hf
  refine lv_iload_n B.1.1 B.1.2.1 dX9_rate_0 rfl (lv_at hl 1 rfl) ?_
  refine lv_bipush (v := 8) B.1.1 B.1.2.1 dX9_rate_1 (by decide) ?_
  rcases hy_bt_some hf with ⟨σ1, v2, h3, hf⟩ | ⟨h3, h4⟩
  · refine hy_csv (As := [.int x1, .int 8]) (rest := []) (o := (σ1, v2)) cw_fix hA B w (fun sz => mX9_needIndex l G sz σ x1 8 _ h3 rfl) (cwS 2 B.1.2.2.2.2 gX9_rate_X9_needIndex rfl rfl rfl (by decide +kernel) ⟨by have := hR.1; show 6 + 1 ≤ _; omega, by have := hR.2; show 8 + (2 + 11) + 82 ≤ _; omega⟩) rfl hl.1 rfl (Nat.le_of_ble_eq_true rfl) dX9_rate_3 ⟨Nat.zero_le _, Nat.zero_le _⟩ (fun H locs w => ?_)
    refine lv_iload_n B.1.1 B.1.2.1 dX9_rate_6 rfl (lv_at hl 2 rfl) ?_
    refine lv_iconst (v := 0) B.1.1 B.1.2.1 dX9_rate_7 (by decide) ?_
    refine lv_sipush (v := 1000) B.1.1 B.1.2.1 dX9_rate_8 (by decide) ?_
    rcases hy_bt_some hf with ⟨σ5, v6, h7, hf⟩ | ⟨h7, h8⟩
    · refine hy_csv (As := [.int x2, .int 0, .int 1000]) (rest := []) (o := (σ5, v6)) cw_fix hA B w (fun sz => mX9_needNumber l G sz σ1 x2 0 1000 _ h7 rfl) (cwS 3 B.1.2.2.2.2 gX9_rate_X9_needNumber rfl rfl rfl (by decide +kernel) ⟨by have := hR.1; show 6 + 1 ≤ _; omega, by have := hR.2; show 8 + (3 + 11) + 82 ≤ _; omega⟩) rfl hl.1 rfl (Nat.le_of_ble_eq_true rfl) dX9_rate_11 ⟨Nat.zero_le _, Nat.zero_le _⟩ (fun H locs w => ?_)
      refine lv_aload_n B.1.1 B.1.2.1 dX9_rate_14 rfl (lv_at hl 0 rfl) ?_
      refine hy_get (k := 6) (v := .ref (G.2.2.2.1 7)) B w (cwq_0 G) rfl in_X9_rate_X9 (by decide) (by decide +kernel) rfl dX9_rate_15 ?_
      refine hy_getN (k := 0) (v := .ref (G.2.2.2.1 25)) B w (cwq_7 G) rfl in_X9_rate_X4 (by decide) (by decide +kernel) rfl dX9_rate_18 ?_
      refine lv_iload_n B.1.1 B.1.2.1 dX9_rate_21 rfl (lv_at hl 1 rfl) ?_
      refine lv_iload_n B.1.1 B.1.2.1 dX9_rate_22 rfl (lv_at hl 2 rfl) ?_
      obtain ⟨h11, σ9, e10, hf⟩ := hy_pa_some hf
      refine hy_iast B w (cwq_25 G) (cws_25 G) h11 e10 dX9_rate_23 (fun H locs w => ?_)
      exact hret _ _ _ _ _ (Option.some.inj hf).symm w dX9_rate_24
    · exact absurd ho h8
  · exact absurd ho h4
set_option maxHeartbeats 4000000 in
set_option maxRecDepth 100000 in
theorem mX9_rate (l : Launch) (G : hy_G) (sz : Nat) (σ : hy_S) (x1 : Int32) (x2 : Int32) (o : hy_S × Int32 × Nat) (hf : fX9_rate σ x1 x2 = some o) (ho : o.2.2 = 0) : hy_Mv l yX9_rate wsX9_rate ({ frames := 7, cells := 0, slots := 0, locals := 104 }) cw G σ sz [.ref (G.2.2.2.1 0), .int x1, .int x2] (o.1, o.2.1) := by
  refine Met.ofW (cc := cX9_rate) (maxL := 3) (ret := none) (by decide +kernel) rfl ?_
  intro p e s m args below meth c s₁ B hml hv
  obtain ⟨rfl, hsz, hP, hK, hD0, hN⟩ := hv
  have hx := B.exec
  have hb := B.bytes
  have hr := B.returns
  have hts := atoms_spec (ws := wsX9_rate) B.pre
  have hown : s.vm.findClass RX9 = some m.cls := findClass_of_methodNamed B.named
  have hlocks := B.notSynchronized
  subst hsz
  have hD := hD0.self (sz := s.heap.size)
  have hA : ∀ q : Nat, s.heap.size ≤ q → va_A (cw G σ) s.heap.size q := fun q h => Or.inr h
  have hS : va_S (va_A (cw G σ) s.heap.size) s.heap s.heap [] := va_S.rf
  have hl := lv_entry ([.ref (G.2.2.2.1 0), .int x1, .int x2]) (n := 3) (Nat.le_of_ble_eq_true rfl)
  rw [lg_entry_eq]
  generalize (lg_sl ([.ref (G.2.2.2.1 0), .int x1, .int x2]) ++ List.replicate (3 - (lg_sl ([.ref (G.2.2.2.1 0), .int x1, .int x2])).length) Slot.unset).toArray = ls at hl ⊢
  have hl : lv_has ls 3 [(0, .ref (G.2.2.2.1 0)), (1, .int x1), (2, .int x2)] := hl
  refine bX9_rate_0 (A := va_A (cw G σ) s.heap.size) hA ⟨⟨hx, hb, hml, hown, hts⟩, hK, hN⟩ ⟨Nat.le_of_ble_eq_true rfl, Nat.le_of_ble_eq_true rfl⟩ (o := o) ho (fun τ pc H locs ls ho w d => ?_) σ x1 x2 _ _ _ hf ⟨hP, hD, hS⟩ hl
  exact W.vret hx hb hr (fun t ht hW => ⟨⟨τ, rfl, by rw [ho], by have h9 := w.1; rw [← ht] at h9; exact h9⟩, w.2.2.F ht⟩) w.2.2.2.2 d
set_option maxHeartbeats 4000000 in
set_option maxRecDepth 100000 in
theorem tbX9_rate_0 (hA : ∀ q : Nat, s.heap.size ≤ q → A q) (B : hy_B RX9 cX9_rate 3 wsX9_rate G A p s m args c) (hR : 7 ≤ R.frames ∧ 104 ≤ R.locals) {o : hy_S × Int32 × Nat}  (ho : ¬ o.2.2 = 0) (hT : hy_TC l R meth c) (σ : hy_S) (x1 : Int32) (x2 : Int32) (H : Heap) (locs : List Loc) (ls : Array Slot) (hf : fX9_rate σ x1 x2 = some o) (w : hy_w cw G A s σ H locs) (hl : lv_has ls 3 [(0, .ref (G.2.2.2.1 0)), (1, .int x1), (2, .int x2)]) : W p l e R s m args below meth c H locs 0 0 (vx_MQ below Qc (hy_X cw G o A) args s 1 6 A) (F0 m 0 ls []) := by
  unfold fX9_rate at hf
  refine lv_iload_n B.1.1 B.1.2.1 dX9_rate_0 rfl (lv_at hl 1 rfl) ?_
  refine lv_bipush (v := 8) B.1.1 B.1.2.1 dX9_rate_1 (by decide) ?_
  rcases hy_bt_some hf with ⟨σ1, v2, h3, hf⟩ | ⟨h3, h4⟩
  · refine hy_csv (As := [.int x1, .int 8]) (rest := []) (o := (σ1, v2)) cw_fix hA B w (fun sz => mX9_needIndex l G sz σ x1 8 _ h3 rfl) (cwS 2 B.1.2.2.2.2 gX9_rate_X9_needIndex rfl rfl rfl (by decide +kernel) ⟨by have := hR.1; show 6 + 1 ≤ _; omega, by have := hR.2; show 8 + (2 + 11) + 82 ≤ _; omega⟩) rfl hl.1 rfl (Nat.le_of_ble_eq_true rfl) dX9_rate_3 ⟨Nat.zero_le _, Nat.zero_le _⟩ (fun H locs w => ?_)
    refine lv_iload_n B.1.1 B.1.2.1 dX9_rate_6 rfl (lv_at hl 2 rfl) ?_
    refine lv_iconst (v := 0) B.1.1 B.1.2.1 dX9_rate_7 (by decide) ?_
    refine lv_sipush (v := 1000) B.1.1 B.1.2.1 dX9_rate_8 (by decide) ?_
    rcases hy_bt_some hf with ⟨σ5, v6, h7, hf⟩ | ⟨h7, h8⟩
    · refine hy_csv (As := [.int x2, .int 0, .int 1000]) (rest := []) (o := (σ5, v6)) cw_fix hA B w (fun sz => mX9_needNumber l G sz σ1 x2 0 1000 _ h7 rfl) (cwS 3 B.1.2.2.2.2 gX9_rate_X9_needNumber rfl rfl rfl (by decide +kernel) ⟨by have := hR.1; show 6 + 1 ≤ _; omega, by have := hR.2; show 8 + (3 + 11) + 82 ≤ _; omega⟩) rfl hl.1 rfl (Nat.le_of_ble_eq_true rfl) dX9_rate_11 ⟨Nat.zero_le _, Nat.zero_le _⟩ (fun H locs w => ?_)
      refine lv_aload_n B.1.1 B.1.2.1 dX9_rate_14 rfl (lv_at hl 0 rfl) ?_
      refine hy_get (k := 6) (v := .ref (G.2.2.2.1 7)) B w (cwq_0 G) rfl in_X9_rate_X9 (by decide) (by decide +kernel) rfl dX9_rate_15 ?_
      refine hy_getN (k := 0) (v := .ref (G.2.2.2.1 25)) B w (cwq_7 G) rfl in_X9_rate_X4 (by decide) (by decide +kernel) rfl dX9_rate_18 ?_
      refine lv_iload_n B.1.1 B.1.2.1 dX9_rate_21 rfl (lv_at hl 1 rfl) ?_
      refine lv_iload_n B.1.1 B.1.2.1 dX9_rate_22 rfl (lv_at hl 2 rfl) ?_
      obtain ⟨h11, σ9, e10, hf⟩ := hy_pa_some hf
      refine hy_iast B w (cwq_25 G) (cws_25 G) h11 e10 dX9_rate_23 (fun H locs w => ?_)
      exact absurd (congrArg (fun z => z.2.2) (Option.some.inj hf)).symm ho
    · exact hy_tsv (As := [.int x2, .int 0, .int 1000]) (rest := []) hA B w hT (fun sz => tX9_needNumber l hT.1 G sz σ1 x2 0 1000 _ h7 h8) (cwS 3 B.1.2.2.2.2 gX9_rate_X9_needNumber rfl rfl rfl (by decide +kernel) ⟨by have := hR.1; show 6 + 1 ≤ _; omega, by have := hR.2; show 8 + (3 + 11) + 82 ≤ _; omega⟩) rfl hl.1 rfl (Nat.le_of_ble_eq_true rfl) dX9_rate_11
  · exact hy_tsv (As := [.int x1, .int 8]) (rest := []) hA B w hT (fun sz => tX9_needIndex l hT.1 G sz σ x1 8 _ h3 h4) (cwS 2 B.1.2.2.2.2 gX9_rate_X9_needIndex rfl rfl rfl (by decide +kernel) ⟨by have := hR.1; show 6 + 1 ≤ _; omega, by have := hR.2; show 8 + (2 + 11) + 82 ≤ _; omega⟩) rfl hl.1 rfl (Nat.le_of_ble_eq_true rfl) dX9_rate_3
set_option maxHeartbeats 4000000 in
set_option maxRecDepth 100000 in
theorem tX9_rate (l : Launch) (hlt : l.stackTraces = false) (G : hy_G) (sz : Nat) (σ : hy_S) (x1 : Int32) (x2 : Int32) (o : hy_S × Int32 × Nat) (hf : fX9_rate σ x1 x2 = some o) (ho : ¬ o.2.2 = 0) : hy_MTv l yX9_rate wsX9_rate ({ frames := 7, cells := 1, slots := 6, locals := 104 }) cw G σ sz [.ref (G.2.2.2.1 0), .int x1, .int x2] o := by
  refine vx_ofW (cc := cX9_rate) (maxL := 3) (ret := none) (by decide +kernel) rfl ?_
  intro p e s m args below meth c s₁ B hml h0 hv
  obtain ⟨rfl, hsz, hP, hK, hD0, hN⟩ := hv
  have hx := B.exec
  have hb := B.bytes
  have hr := B.returns
  have hts := atoms_spec (ws := wsX9_rate) B.pre
  have hown : s.vm.findClass RX9 = some m.cls := findClass_of_methodNamed B.named
  have hlocks := B.notSynchronized
  subst hsz
  have hD := hD0.self (sz := s.heap.size)
  have hA : ∀ q : Nat, s.heap.size ≤ q → va_A (cw G σ) s.heap.size q := fun q h => Or.inr h
  have hS : va_S (va_A (cw G σ) s.heap.size) s.heap s.heap [] := va_S.rf
  have hl := lv_entry ([.ref (G.2.2.2.1 0), .int x1, .int x2]) (n := 3) (Nat.le_of_ble_eq_true rfl)
  rw [lg_entry_eq]
  generalize (lg_sl ([.ref (G.2.2.2.1 0), .int x1, .int x2]) ++ List.replicate (3 - (lg_sl ([.ref (G.2.2.2.1 0), .int x1, .int x2])).length) Slot.unset).toArray = ls at hl ⊢
  have hl : lv_has ls 3 [(0, .ref (G.2.2.2.1 0)), (1, .int x1), (2, .int x2)] := hl
  exact tbX9_rate_0 (A := va_A (cw G σ) s.heap.size) hA ⟨⟨hx, hb, hml, hown, hts⟩, hK, hN⟩ ⟨Nat.le_of_ble_eq_true rfl, Nat.le_of_ble_eq_true rfl⟩ (o := o) ho ⟨hlt, hlocks, h0, Nat.le_refl _, Nat.le_refl _⟩ σ x1 x2 _ _ _ hf ⟨hP, hD, hS⟩ hl
theorem in_X9_notes_X4 : ∀ w ∈ u_ws RX4 TX4 3, w ∈ wsX9_notes := fun _ h => xt1 (xl (xr (h)))
theorem in_X9_notes_X9 : ∀ w ∈ u_ws RX9 TX9 11, w ∈ wsX9_notes := fun _ h => xt1 (xl (xl (xr (h))))
noncomputable def fX9_notes (σ : hy_S) (x1 : Int32) (x2 : Int32) : Option (hy_S × Int32 × Nat) := hy_bt (fX9_needIndex σ x1 8) some (fun σ1 v2 => (if x2 = 0 then hy_ga σ1 16 8 x1 (fun v6 => some (σ1, v6, 0)) else hy_ga σ1 17 8 x1 (fun v9 => some (σ1, v9, 0))))
set_option maxHeartbeats 4000000 in
set_option maxRecDepth 100000 in
theorem bX9_notes_0 (hA : ∀ q : Nat, s.heap.size ≤ q → A q) (B : hy_B RX9 cX9_notes 3 wsX9_notes G A p s m args c) (hR : 7 ≤ R.frames ∧ 103 ≤ R.locals) {o : hy_S × Int32 × Nat}  (ho : o.2.2 = 0) (hret : ∀ (σ : hy_S) (v : Int32) (pc : Nat) (H : Heap) (locs : List Loc) (ls : Array Slot), o = (σ, v, 0) → hy_w cw G A s σ H locs → decode cX9_notes pc = .ok (.ireturn, 1) → W p l e R s m args below meth c H locs 0 0 Q (F0 m pc ls [.int v])) (σ : hy_S) (x1 : Int32) (x2 : Int32) (H : Heap) (locs : List Loc) (ls : Array Slot) (hf : fX9_notes σ x1 x2 = some o) (w : hy_w cw G A s σ H locs) (hl : lv_has ls 3 [(0, .ref (G.2.2.2.1 0)), (1, .int x1), (2, .int x2)]) : W p l e R s m args below meth c H locs 0 0 Q (F0 m 0 ls []) := by
  unfold fX9_notes at hf
  refine lv_iload_n B.1.1 B.1.2.1 dX9_notes_0 rfl (lv_at hl 1 rfl) ?_
  refine lv_bipush (v := 8) B.1.1 B.1.2.1 dX9_notes_1 (by decide) ?_
  rcases hy_bt_some hf with ⟨σ1, v2, h3, hf⟩ | ⟨h3, h4⟩
  · refine hy_csv (As := [.int x1, .int 8]) (rest := []) (o := (σ1, v2)) cw_fix hA B w (fun sz => mX9_needIndex l G sz σ x1 8 _ h3 rfl) (cwS 2 B.1.2.2.2.2 gX9_notes_X9_needIndex rfl rfl rfl (by decide +kernel) ⟨by have := hR.1; show 6 + 1 ≤ _; omega, by have := hR.2; show 8 + (2 + 11) + 82 ≤ _; omega⟩) rfl hl.1 rfl (Nat.le_of_ble_eq_true rfl) dX9_notes_3 ⟨Nat.zero_le _, Nat.zero_le _⟩ (fun H locs w => ?_)
    refine lv_iload_n B.1.1 B.1.2.1 dX9_notes_6 rfl (lv_at hl 2 rfl) ?_
    refine lv_if_eq (tgt := 22) B.1.1 B.1.2.1 dX9_notes_7 (by decide) (fun c5 => ?_) (fun c5 => ?_)
    · rw [if_pos c5] at hf
      refine lv_aload_n B.1.1 B.1.2.1 dX9_notes_22 rfl (lv_at hl 0 rfl) ?_
      refine hy_get (k := 6) (v := .ref (G.2.2.2.1 7)) B w (cwq_0 G) rfl in_X9_notes_X9 (by decide) (by decide +kernel) rfl dX9_notes_23 ?_
      refine hy_getN (k := 1) (v := .ref (G.2.2.2.1 26)) B w (cwq_7 G) rfl in_X9_notes_X4 (by decide) (by decide +kernel) rfl dX9_notes_26 ?_
      refine lv_iload_n B.1.1 B.1.2.1 dX9_notes_29 rfl (lv_at hl 1 rfl) ?_
      obtain ⟨h8, v6, e7, hf⟩ := hy_ga_some hf
      refine hy_iald B w (cwq_26 G) h8 e7 dX9_notes_30 ?_
      exact hret _ _ _ _ _ _ (Option.some.inj hf).symm w dX9_notes_31
    · rw [if_neg c5] at hf
      refine lv_aload_n B.1.1 B.1.2.1 dX9_notes_10 rfl (lv_at hl 0 rfl) ?_
      refine hy_get (k := 6) (v := .ref (G.2.2.2.1 7)) B w (cwq_0 G) rfl in_X9_notes_X9 (by decide) (by decide +kernel) rfl dX9_notes_11 ?_
      refine hy_getN (k := 2) (v := .ref (G.2.2.2.1 27)) B w (cwq_7 G) rfl in_X9_notes_X4 (by decide) (by decide +kernel) rfl dX9_notes_14 ?_
      refine lv_iload_n B.1.1 B.1.2.1 dX9_notes_17 rfl (lv_at hl 1 rfl) ?_
      obtain ⟨h11, v9, e10, hf⟩ := hy_ga_some hf
      refine hy_iald B w (cwq_27 G) h11 e10 dX9_notes_18 ?_
      refine lv_goto (tgt := 31) B.1.1 B.1.2.1 dX9_notes_19 (by decide) ?_
      exact hret _ _ _ _ _ _ (Option.some.inj hf).symm w dX9_notes_31
  · exact absurd ho h4
set_option maxHeartbeats 4000000 in
set_option maxRecDepth 100000 in
theorem mX9_notes (l : Launch) (G : hy_G) (sz : Nat) (σ : hy_S) (x1 : Int32) (x2 : Int32) (o : hy_S × Int32 × Nat) (hf : fX9_notes σ x1 x2 = some o) (ho : o.2.2 = 0) : hy_M l yX9_notes wsX9_notes ({ frames := 7, cells := 0, slots := 0, locals := 103 }) cw G σ sz [.ref (G.2.2.2.1 0), .int x1, .int x2] (o.1, o.2.1) := by
  refine Met.ofW (cc := cX9_notes) (maxL := 3) (ret := (some .int)) (by decide +kernel) rfl ?_
  intro p e s m args below meth c s₁ B hml hv
  obtain ⟨rfl, hsz, hP, hK, hD0, hN⟩ := hv
  have hx := B.exec
  have hb := B.bytes
  have hr := B.returns
  have hts := atoms_spec (ws := wsX9_notes) B.pre
  have hown : s.vm.findClass RX9 = some m.cls := findClass_of_methodNamed B.named
  have hlocks := B.notSynchronized
  subst hsz
  have hD := hD0.self (sz := s.heap.size)
  have hA : ∀ q : Nat, s.heap.size ≤ q → va_A (cw G σ) s.heap.size q := fun q h => Or.inr h
  have hS : va_S (va_A (cw G σ) s.heap.size) s.heap s.heap [] := va_S.rf
  have hl := lv_entry ([.ref (G.2.2.2.1 0), .int x1, .int x2]) (n := 3) (Nat.le_of_ble_eq_true rfl)
  rw [lg_entry_eq]
  generalize (lg_sl ([.ref (G.2.2.2.1 0), .int x1, .int x2]) ++ List.replicate (3 - (lg_sl ([.ref (G.2.2.2.1 0), .int x1, .int x2])).length) Slot.unset).toArray = ls at hl ⊢
  have hl : lv_has ls 3 [(0, .ref (G.2.2.2.1 0)), (1, .int x1), (2, .int x2)] := hl
  refine bX9_notes_0 (A := va_A (cw G σ) s.heap.size) hA ⟨⟨hx, hb, hml, hown, hts⟩, hK, hN⟩ ⟨Nat.le_of_ble_eq_true rfl, Nat.le_of_ble_eq_true rfl⟩ (o := o) ho (fun τ v pc H locs ls ho w d => ?_) σ x1 x2 _ _ _ hf ⟨hP, hD, hS⟩ hl
  exact W.iret hx hb hr (fun t ht hW => ⟨⟨v, τ, rfl, ⟨by rw [ho], by rw [ho]⟩, by have h9 := w.1; rw [← ht] at h9; exact h9⟩, w.2.2.F ht⟩) w.2.2.2.2 d
set_option maxHeartbeats 4000000 in
set_option maxRecDepth 100000 in
theorem tbX9_notes_0 (hA : ∀ q : Nat, s.heap.size ≤ q → A q) (B : hy_B RX9 cX9_notes 3 wsX9_notes G A p s m args c) (hR : 7 ≤ R.frames ∧ 103 ≤ R.locals) {o : hy_S × Int32 × Nat}  (ho : ¬ o.2.2 = 0) (hT : hy_TC l R meth c) (σ : hy_S) (x1 : Int32) (x2 : Int32) (H : Heap) (locs : List Loc) (ls : Array Slot) (hf : fX9_notes σ x1 x2 = some o) (w : hy_w cw G A s σ H locs) (hl : lv_has ls 3 [(0, .ref (G.2.2.2.1 0)), (1, .int x1), (2, .int x2)]) : W p l e R s m args below meth c H locs 0 0 (vx_MQ below Qc (hy_X cw G o A) args s 1 6 A) (F0 m 0 ls []) := by
  unfold fX9_notes at hf
  refine lv_iload_n B.1.1 B.1.2.1 dX9_notes_0 rfl (lv_at hl 1 rfl) ?_
  refine lv_bipush (v := 8) B.1.1 B.1.2.1 dX9_notes_1 (by decide) ?_
  rcases hy_bt_some hf with ⟨σ1, v2, h3, hf⟩ | ⟨h3, h4⟩
  · refine hy_csv (As := [.int x1, .int 8]) (rest := []) (o := (σ1, v2)) cw_fix hA B w (fun sz => mX9_needIndex l G sz σ x1 8 _ h3 rfl) (cwS 2 B.1.2.2.2.2 gX9_notes_X9_needIndex rfl rfl rfl (by decide +kernel) ⟨by have := hR.1; show 6 + 1 ≤ _; omega, by have := hR.2; show 8 + (2 + 11) + 82 ≤ _; omega⟩) rfl hl.1 rfl (Nat.le_of_ble_eq_true rfl) dX9_notes_3 ⟨Nat.zero_le _, Nat.zero_le _⟩ (fun H locs w => ?_)
    refine lv_iload_n B.1.1 B.1.2.1 dX9_notes_6 rfl (lv_at hl 2 rfl) ?_
    refine lv_if_eq (tgt := 22) B.1.1 B.1.2.1 dX9_notes_7 (by decide) (fun c5 => ?_) (fun c5 => ?_)
    · rw [if_pos c5] at hf
      refine lv_aload_n B.1.1 B.1.2.1 dX9_notes_22 rfl (lv_at hl 0 rfl) ?_
      refine hy_get (k := 6) (v := .ref (G.2.2.2.1 7)) B w (cwq_0 G) rfl in_X9_notes_X9 (by decide) (by decide +kernel) rfl dX9_notes_23 ?_
      refine hy_getN (k := 1) (v := .ref (G.2.2.2.1 26)) B w (cwq_7 G) rfl in_X9_notes_X4 (by decide) (by decide +kernel) rfl dX9_notes_26 ?_
      refine lv_iload_n B.1.1 B.1.2.1 dX9_notes_29 rfl (lv_at hl 1 rfl) ?_
      obtain ⟨h8, v6, e7, hf⟩ := hy_ga_some hf
      refine hy_iald B w (cwq_26 G) h8 e7 dX9_notes_30 ?_
      exact absurd (congrArg (fun z => z.2.2) (Option.some.inj hf)).symm ho
    · rw [if_neg c5] at hf
      refine lv_aload_n B.1.1 B.1.2.1 dX9_notes_10 rfl (lv_at hl 0 rfl) ?_
      refine hy_get (k := 6) (v := .ref (G.2.2.2.1 7)) B w (cwq_0 G) rfl in_X9_notes_X9 (by decide) (by decide +kernel) rfl dX9_notes_11 ?_
      refine hy_getN (k := 2) (v := .ref (G.2.2.2.1 27)) B w (cwq_7 G) rfl in_X9_notes_X4 (by decide) (by decide +kernel) rfl dX9_notes_14 ?_
      refine lv_iload_n B.1.1 B.1.2.1 dX9_notes_17 rfl (lv_at hl 1 rfl) ?_
      obtain ⟨h11, v9, e10, hf⟩ := hy_ga_some hf
      refine hy_iald B w (cwq_27 G) h11 e10 dX9_notes_18 ?_
      refine lv_goto (tgt := 31) B.1.1 B.1.2.1 dX9_notes_19 (by decide) ?_
      exact absurd (congrArg (fun z => z.2.2) (Option.some.inj hf)).symm ho
  · exact hy_tsv (As := [.int x1, .int 8]) (rest := []) hA B w hT (fun sz => tX9_needIndex l hT.1 G sz σ x1 8 _ h3 h4) (cwS 2 B.1.2.2.2.2 gX9_notes_X9_needIndex rfl rfl rfl (by decide +kernel) ⟨by have := hR.1; show 6 + 1 ≤ _; omega, by have := hR.2; show 8 + (2 + 11) + 82 ≤ _; omega⟩) rfl hl.1 rfl (Nat.le_of_ble_eq_true rfl) dX9_notes_3
set_option maxHeartbeats 4000000 in
set_option maxRecDepth 100000 in
theorem tX9_notes (l : Launch) (hlt : l.stackTraces = false) (G : hy_G) (sz : Nat) (σ : hy_S) (x1 : Int32) (x2 : Int32) (o : hy_S × Int32 × Nat) (hf : fX9_notes σ x1 x2 = some o) (ho : ¬ o.2.2 = 0) : hy_MT l yX9_notes wsX9_notes ({ frames := 7, cells := 1, slots := 6, locals := 103 }) cw G σ sz [.ref (G.2.2.2.1 0), .int x1, .int x2] o := by
  refine vx_ofW (cc := cX9_notes) (maxL := 3) (ret := (some .int)) (by decide +kernel) rfl ?_
  intro p e s m args below meth c s₁ B hml h0 hv
  obtain ⟨rfl, hsz, hP, hK, hD0, hN⟩ := hv
  have hx := B.exec
  have hb := B.bytes
  have hr := B.returns
  have hts := atoms_spec (ws := wsX9_notes) B.pre
  have hown : s.vm.findClass RX9 = some m.cls := findClass_of_methodNamed B.named
  have hlocks := B.notSynchronized
  subst hsz
  have hD := hD0.self (sz := s.heap.size)
  have hA : ∀ q : Nat, s.heap.size ≤ q → va_A (cw G σ) s.heap.size q := fun q h => Or.inr h
  have hS : va_S (va_A (cw G σ) s.heap.size) s.heap s.heap [] := va_S.rf
  have hl := lv_entry ([.ref (G.2.2.2.1 0), .int x1, .int x2]) (n := 3) (Nat.le_of_ble_eq_true rfl)
  rw [lg_entry_eq]
  generalize (lg_sl ([.ref (G.2.2.2.1 0), .int x1, .int x2]) ++ List.replicate (3 - (lg_sl ([.ref (G.2.2.2.1 0), .int x1, .int x2])).length) Slot.unset).toArray = ls at hl ⊢
  have hl : lv_has ls 3 [(0, .ref (G.2.2.2.1 0)), (1, .int x1), (2, .int x2)] := hl
  exact tbX9_notes_0 (A := va_A (cw G σ) s.heap.size) hA ⟨⟨hx, hb, hml, hown, hts⟩, hK, hN⟩ ⟨Nat.le_of_ble_eq_true rfl, Nat.le_of_ble_eq_true rfl⟩ (o := o) ho ⟨hlt, hlocks, h0, Nat.le_refl _, Nat.le_refl _⟩ σ x1 x2 _ _ _ hf ⟨hP, hD, hS⟩ hl
theorem in_X9_sherd_X5 : ∀ w ∈ u_ws RX5 TX5 5, w ∈ wsX9_sherd := fun _ h => xt1 (xl (xl (xl (xr (h)))))
theorem in_X9_sherd_X9 : ∀ w ∈ u_ws RX9 TX9 11, w ∈ wsX9_sherd := fun _ h => xt1 (xl (xl (xl (xl (xr (h))))))
noncomputable def fX9_sherd (σ : hy_S) (x1 : Int32) (x2 : Int32) : Option (hy_S × Int32 × Nat) := hy_bt (fX9_needNumber σ x1 0 15) some (fun σ1 v2 => hy_bt (fX9_needStampOrNone σ1 x2) some (fun σ5 v6 => hy_bt (fX9_needPlace σ5 (σ5.2 7) 60) some (fun σ9 v10 => hy_bd (fX5_add σ9 x1 x2) (fun σ13 v14 => some (σ13, v14, 0)))))
set_option maxHeartbeats 4000000 in
set_option maxRecDepth 100000 in
theorem bX9_sherd_0 (hA : ∀ q : Nat, s.heap.size ≤ q → A q) (B : hy_B RX9 cX9_sherd 3 wsX9_sherd G A p s m args c) (hR : 8 ≤ R.frames ∧ 123 ≤ R.locals) {o : hy_S × Int32 × Nat}  (ho : o.2.2 = 0) (hret : ∀ (σ : hy_S) (v : Int32) (pc : Nat) (H : Heap) (locs : List Loc) (ls : Array Slot), o = (σ, v, 0) → hy_w cw G A s σ H locs → decode cX9_sherd pc = .ok (.ireturn, 1) → W p l e R s m args below meth c H locs 0 0 Q (F0 m pc ls [.int v])) (σ : hy_S) (x1 : Int32) (x2 : Int32) (H : Heap) (locs : List Loc) (ls : Array Slot) (hf : fX9_sherd σ x1 x2 = some o) (w : hy_w cw G A s σ H locs) (hl : lv_has ls 3 [(0, .ref (G.2.2.2.1 0)), (1, .int x1), (2, .int x2)]) : W p l e R s m args below meth c H locs 0 0 Q (F0 m 0 ls []) := by
  unfold fX9_sherd at hf
  refine lv_iload_n B.1.1 B.1.2.1 dX9_sherd_0 rfl (lv_at hl 1 rfl) ?_
  refine lv_iconst (v := 0) B.1.1 B.1.2.1 dX9_sherd_1 (by decide) ?_
  refine lv_bipush (v := 15) B.1.1 B.1.2.1 dX9_sherd_2 (by decide) ?_
  rcases hy_bt_some hf with ⟨σ1, v2, h3, hf⟩ | ⟨h3, h4⟩
  · refine hy_csv (As := [.int x1, .int 0, .int 15]) (rest := []) (o := (σ1, v2)) cw_fix hA B w (fun sz => mX9_needNumber l G sz σ x1 0 15 _ h3 rfl) (cwS 3 B.1.2.2.2.2 gX9_sherd_X9_needNumber rfl rfl rfl (by decide +kernel) ⟨by have := hR.1; show 6 + 1 ≤ _; omega, by have := hR.2; show 8 + (3 + 11) + 82 ≤ _; omega⟩) rfl hl.1 rfl (Nat.le_of_ble_eq_true rfl) dX9_sherd_4 ⟨Nat.zero_le _, Nat.zero_le _⟩ (fun H locs w => ?_)
    refine lv_iload_n B.1.1 B.1.2.1 dX9_sherd_7 rfl (lv_at hl 2 rfl) ?_
    rcases hy_bt_some hf with ⟨σ5, v6, h7, hf⟩ | ⟨h7, h8⟩
    · refine hy_csv (As := [.int x2]) (rest := []) (o := (σ5, v6)) cw_fix hA B w (fun sz => mX9_needStampOrNone l G sz σ1 x2 _ h7 rfl) (cwS 1 B.1.2.2.2.2 gX9_sherd_X9_needStampOrNone rfl rfl rfl (by decide +kernel) ⟨by have := hR.1; show 7 + 1 ≤ _; omega, by have := hR.2; show 8 + (1 + 11) + 103 ≤ _; omega⟩) rfl hl.1 rfl (Nat.le_of_ble_eq_true rfl) dX9_sherd_8 ⟨Nat.zero_le _, Nat.zero_le _⟩ (fun H locs w => ?_)
      refine lv_aload_n B.1.1 B.1.2.1 dX9_sherd_11 rfl (lv_at hl 0 rfl) ?_
      refine hy_get (k := 7) (v := .ref (G.2.2.2.1 8)) B w (cwq_0 G) rfl in_X9_sherd_X9 (by decide) (by decide +kernel) rfl dX9_sherd_12 ?_
      refine hy_getN (k := 4) (v := .int (σ5.2 7)) B w (cwq_8 G) rfl in_X9_sherd_X5 (by decide) (by decide +kernel) rfl dX9_sherd_15 ?_
      refine lv_bipush (v := 60) B.1.1 B.1.2.1 dX9_sherd_18 (by decide) ?_
      rcases hy_bt_some hf with ⟨σ9, v10, h11, hf⟩ | ⟨h11, h12⟩
      · refine hy_csv (As := [.int (σ5.2 7), .int 60]) (rest := []) (o := (σ9, v10)) cw_fix hA B w (fun sz => mX9_needPlace l G sz σ5 (σ5.2 7) 60 _ h11 rfl) (cwS 2 B.1.2.2.2.2 gX9_sherd_X9_needPlace rfl rfl rfl (by decide +kernel) ⟨by have := hR.1; show 6 + 1 ≤ _; omega, by have := hR.2; show 8 + (2 + 11) + 82 ≤ _; omega⟩) rfl hl.1 rfl (Nat.le_of_ble_eq_true rfl) dX9_sherd_20 ⟨Nat.zero_le _, Nat.zero_le _⟩ (fun H locs w => ?_)
        refine lv_aload_n B.1.1 B.1.2.1 dX9_sherd_23 rfl (lv_at hl 0 rfl) ?_
        refine hy_get (k := 7) (v := .ref (G.2.2.2.1 8)) B w (cwq_0 G) rfl in_X9_sherd_X9 (by decide) (by decide +kernel) rfl dX9_sherd_24 ?_
        refine lv_iload_n B.1.1 B.1.2.1 dX9_sherd_27 rfl (lv_at hl 1 rfl) ?_
        refine lv_iload_n B.1.1 B.1.2.1 dX9_sherd_28 rfl (lv_at hl 2 rfl) ?_
        obtain ⟨σ13, v14, h15, hf⟩ := hy_bd_some hf
        refine hy_cv (As := [.int x1, .int x2]) (rest := []) (o := (σ13, v14)) cw_fix hA B w (fun sz => mX5_add l G sz σ9 x1 x2 _ h15) (cwV 2 B.1.2.2.2.2 gX9_sherd_X5_add rfl rfl rfl (by decide +kernel) ⟨by have := hR.1; show 0 + 1 ≤ _; omega, by have := hR.2; show 8 + (3 + 11) + 0 ≤ _; omega⟩) rfl (cwq_8 G σ9) rfl hl.1 rfl (Nat.le_of_ble_eq_true rfl) dX9_sherd_29 ⟨Nat.zero_le _, Nat.zero_le _⟩ (fun H locs w => ?_)
        exact hret _ _ _ _ _ _ (Option.some.inj hf).symm w dX9_sherd_32
      · exact absurd ho h12
    · exact absurd ho h8
  · exact absurd ho h4
set_option maxHeartbeats 4000000 in
set_option maxRecDepth 100000 in
theorem mX9_sherd (l : Launch) (G : hy_G) (sz : Nat) (σ : hy_S) (x1 : Int32) (x2 : Int32) (o : hy_S × Int32 × Nat) (hf : fX9_sherd σ x1 x2 = some o) (ho : o.2.2 = 0) : hy_M l yX9_sherd wsX9_sherd ({ frames := 8, cells := 0, slots := 0, locals := 123 }) cw G σ sz [.ref (G.2.2.2.1 0), .int x1, .int x2] (o.1, o.2.1) := by
  refine Met.ofW (cc := cX9_sherd) (maxL := 3) (ret := (some .int)) (by decide +kernel) rfl ?_
  intro p e s m args below meth c s₁ B hml hv
  obtain ⟨rfl, hsz, hP, hK, hD0, hN⟩ := hv
  have hx := B.exec
  have hb := B.bytes
  have hr := B.returns
  have hts := atoms_spec (ws := wsX9_sherd) B.pre
  have hown : s.vm.findClass RX9 = some m.cls := findClass_of_methodNamed B.named
  have hlocks := B.notSynchronized
  subst hsz
  have hD := hD0.self (sz := s.heap.size)
  have hA : ∀ q : Nat, s.heap.size ≤ q → va_A (cw G σ) s.heap.size q := fun q h => Or.inr h
  have hS : va_S (va_A (cw G σ) s.heap.size) s.heap s.heap [] := va_S.rf
  have hl := lv_entry ([.ref (G.2.2.2.1 0), .int x1, .int x2]) (n := 3) (Nat.le_of_ble_eq_true rfl)
  rw [lg_entry_eq]
  generalize (lg_sl ([.ref (G.2.2.2.1 0), .int x1, .int x2]) ++ List.replicate (3 - (lg_sl ([.ref (G.2.2.2.1 0), .int x1, .int x2])).length) Slot.unset).toArray = ls at hl ⊢
  have hl : lv_has ls 3 [(0, .ref (G.2.2.2.1 0)), (1, .int x1), (2, .int x2)] := hl
  refine bX9_sherd_0 (A := va_A (cw G σ) s.heap.size) hA ⟨⟨hx, hb, hml, hown, hts⟩, hK, hN⟩ ⟨Nat.le_of_ble_eq_true rfl, Nat.le_of_ble_eq_true rfl⟩ (o := o) ho (fun τ v pc H locs ls ho w d => ?_) σ x1 x2 _ _ _ hf ⟨hP, hD, hS⟩ hl
  exact W.iret hx hb hr (fun t ht hW => ⟨⟨v, τ, rfl, ⟨by rw [ho], by rw [ho]⟩, by have h9 := w.1; rw [← ht] at h9; exact h9⟩, w.2.2.F ht⟩) w.2.2.2.2 d
set_option maxHeartbeats 4000000 in
set_option maxRecDepth 100000 in
theorem tbX9_sherd_0 (hA : ∀ q : Nat, s.heap.size ≤ q → A q) (B : hy_B RX9 cX9_sherd 3 wsX9_sherd G A p s m args c) (hR : 8 ≤ R.frames ∧ 123 ≤ R.locals) {o : hy_S × Int32 × Nat}  (ho : ¬ o.2.2 = 0) (hT : hy_TC l R meth c) (σ : hy_S) (x1 : Int32) (x2 : Int32) (H : Heap) (locs : List Loc) (ls : Array Slot) (hf : fX9_sherd σ x1 x2 = some o) (w : hy_w cw G A s σ H locs) (hl : lv_has ls 3 [(0, .ref (G.2.2.2.1 0)), (1, .int x1), (2, .int x2)]) : W p l e R s m args below meth c H locs 0 0 (vx_MQ below Qc (hy_X cw G o A) args s 1 6 A) (F0 m 0 ls []) := by
  unfold fX9_sherd at hf
  refine lv_iload_n B.1.1 B.1.2.1 dX9_sherd_0 rfl (lv_at hl 1 rfl) ?_
  refine lv_iconst (v := 0) B.1.1 B.1.2.1 dX9_sherd_1 (by decide) ?_
  refine lv_bipush (v := 15) B.1.1 B.1.2.1 dX9_sherd_2 (by decide) ?_
  rcases hy_bt_some hf with ⟨σ1, v2, h3, hf⟩ | ⟨h3, h4⟩
  · refine hy_csv (As := [.int x1, .int 0, .int 15]) (rest := []) (o := (σ1, v2)) cw_fix hA B w (fun sz => mX9_needNumber l G sz σ x1 0 15 _ h3 rfl) (cwS 3 B.1.2.2.2.2 gX9_sherd_X9_needNumber rfl rfl rfl (by decide +kernel) ⟨by have := hR.1; show 6 + 1 ≤ _; omega, by have := hR.2; show 8 + (3 + 11) + 82 ≤ _; omega⟩) rfl hl.1 rfl (Nat.le_of_ble_eq_true rfl) dX9_sherd_4 ⟨Nat.zero_le _, Nat.zero_le _⟩ (fun H locs w => ?_)
    refine lv_iload_n B.1.1 B.1.2.1 dX9_sherd_7 rfl (lv_at hl 2 rfl) ?_
    rcases hy_bt_some hf with ⟨σ5, v6, h7, hf⟩ | ⟨h7, h8⟩
    · refine hy_csv (As := [.int x2]) (rest := []) (o := (σ5, v6)) cw_fix hA B w (fun sz => mX9_needStampOrNone l G sz σ1 x2 _ h7 rfl) (cwS 1 B.1.2.2.2.2 gX9_sherd_X9_needStampOrNone rfl rfl rfl (by decide +kernel) ⟨by have := hR.1; show 7 + 1 ≤ _; omega, by have := hR.2; show 8 + (1 + 11) + 103 ≤ _; omega⟩) rfl hl.1 rfl (Nat.le_of_ble_eq_true rfl) dX9_sherd_8 ⟨Nat.zero_le _, Nat.zero_le _⟩ (fun H locs w => ?_)
      refine lv_aload_n B.1.1 B.1.2.1 dX9_sherd_11 rfl (lv_at hl 0 rfl) ?_
      refine hy_get (k := 7) (v := .ref (G.2.2.2.1 8)) B w (cwq_0 G) rfl in_X9_sherd_X9 (by decide) (by decide +kernel) rfl dX9_sherd_12 ?_
      refine hy_getN (k := 4) (v := .int (σ5.2 7)) B w (cwq_8 G) rfl in_X9_sherd_X5 (by decide) (by decide +kernel) rfl dX9_sherd_15 ?_
      refine lv_bipush (v := 60) B.1.1 B.1.2.1 dX9_sherd_18 (by decide) ?_
      rcases hy_bt_some hf with ⟨σ9, v10, h11, hf⟩ | ⟨h11, h12⟩
      · refine hy_csv (As := [.int (σ5.2 7), .int 60]) (rest := []) (o := (σ9, v10)) cw_fix hA B w (fun sz => mX9_needPlace l G sz σ5 (σ5.2 7) 60 _ h11 rfl) (cwS 2 B.1.2.2.2.2 gX9_sherd_X9_needPlace rfl rfl rfl (by decide +kernel) ⟨by have := hR.1; show 6 + 1 ≤ _; omega, by have := hR.2; show 8 + (2 + 11) + 82 ≤ _; omega⟩) rfl hl.1 rfl (Nat.le_of_ble_eq_true rfl) dX9_sherd_20 ⟨Nat.zero_le _, Nat.zero_le _⟩ (fun H locs w => ?_)
        refine lv_aload_n B.1.1 B.1.2.1 dX9_sherd_23 rfl (lv_at hl 0 rfl) ?_
        refine hy_get (k := 7) (v := .ref (G.2.2.2.1 8)) B w (cwq_0 G) rfl in_X9_sherd_X9 (by decide) (by decide +kernel) rfl dX9_sherd_24 ?_
        refine lv_iload_n B.1.1 B.1.2.1 dX9_sherd_27 rfl (lv_at hl 1 rfl) ?_
        refine lv_iload_n B.1.1 B.1.2.1 dX9_sherd_28 rfl (lv_at hl 2 rfl) ?_
        obtain ⟨σ13, v14, h15, hf⟩ := hy_bd_some hf
        refine hy_cv (As := [.int x1, .int x2]) (rest := []) (o := (σ13, v14)) cw_fix hA B w (fun sz => mX5_add l G sz σ9 x1 x2 _ h15) (cwV 2 B.1.2.2.2.2 gX9_sherd_X5_add rfl rfl rfl (by decide +kernel) ⟨by have := hR.1; show 0 + 1 ≤ _; omega, by have := hR.2; show 8 + (3 + 11) + 0 ≤ _; omega⟩) rfl (cwq_8 G σ9) rfl hl.1 rfl (Nat.le_of_ble_eq_true rfl) dX9_sherd_29 ⟨Nat.zero_le _, Nat.zero_le _⟩ (fun H locs w => ?_)
        exact absurd (congrArg (fun z => z.2.2) (Option.some.inj hf)).symm ho
      · exact hy_tsv (As := [.int (σ5.2 7), .int 60]) (rest := []) hA B w hT (fun sz => tX9_needPlace l hT.1 G sz σ5 (σ5.2 7) 60 _ h11 h12) (cwS 2 B.1.2.2.2.2 gX9_sherd_X9_needPlace rfl rfl rfl (by decide +kernel) ⟨by have := hR.1; show 6 + 1 ≤ _; omega, by have := hR.2; show 8 + (2 + 11) + 82 ≤ _; omega⟩) rfl hl.1 rfl (Nat.le_of_ble_eq_true rfl) dX9_sherd_20
    · exact hy_tsv (As := [.int x2]) (rest := []) hA B w hT (fun sz => tX9_needStampOrNone l hT.1 G sz σ1 x2 _ h7 h8) (cwS 1 B.1.2.2.2.2 gX9_sherd_X9_needStampOrNone rfl rfl rfl (by decide +kernel) ⟨by have := hR.1; show 7 + 1 ≤ _; omega, by have := hR.2; show 8 + (1 + 11) + 103 ≤ _; omega⟩) rfl hl.1 rfl (Nat.le_of_ble_eq_true rfl) dX9_sherd_8
  · exact hy_tsv (As := [.int x1, .int 0, .int 15]) (rest := []) hA B w hT (fun sz => tX9_needNumber l hT.1 G sz σ x1 0 15 _ h3 h4) (cwS 3 B.1.2.2.2.2 gX9_sherd_X9_needNumber rfl rfl rfl (by decide +kernel) ⟨by have := hR.1; show 6 + 1 ≤ _; omega, by have := hR.2; show 8 + (3 + 11) + 82 ≤ _; omega⟩) rfl hl.1 rfl (Nat.le_of_ble_eq_true rfl) dX9_sherd_4
set_option maxHeartbeats 4000000 in
set_option maxRecDepth 100000 in
theorem tX9_sherd (l : Launch) (hlt : l.stackTraces = false) (G : hy_G) (sz : Nat) (σ : hy_S) (x1 : Int32) (x2 : Int32) (o : hy_S × Int32 × Nat) (hf : fX9_sherd σ x1 x2 = some o) (ho : ¬ o.2.2 = 0) : hy_MT l yX9_sherd wsX9_sherd ({ frames := 8, cells := 1, slots := 6, locals := 123 }) cw G σ sz [.ref (G.2.2.2.1 0), .int x1, .int x2] o := by
  refine vx_ofW (cc := cX9_sherd) (maxL := 3) (ret := (some .int)) (by decide +kernel) rfl ?_
  intro p e s m args below meth c s₁ B hml h0 hv
  obtain ⟨rfl, hsz, hP, hK, hD0, hN⟩ := hv
  have hx := B.exec
  have hb := B.bytes
  have hr := B.returns
  have hts := atoms_spec (ws := wsX9_sherd) B.pre
  have hown : s.vm.findClass RX9 = some m.cls := findClass_of_methodNamed B.named
  have hlocks := B.notSynchronized
  subst hsz
  have hD := hD0.self (sz := s.heap.size)
  have hA : ∀ q : Nat, s.heap.size ≤ q → va_A (cw G σ) s.heap.size q := fun q h => Or.inr h
  have hS : va_S (va_A (cw G σ) s.heap.size) s.heap s.heap [] := va_S.rf
  have hl := lv_entry ([.ref (G.2.2.2.1 0), .int x1, .int x2]) (n := 3) (Nat.le_of_ble_eq_true rfl)
  rw [lg_entry_eq]
  generalize (lg_sl ([.ref (G.2.2.2.1 0), .int x1, .int x2]) ++ List.replicate (3 - (lg_sl ([.ref (G.2.2.2.1 0), .int x1, .int x2])).length) Slot.unset).toArray = ls at hl ⊢
  have hl : lv_has ls 3 [(0, .ref (G.2.2.2.1 0)), (1, .int x1), (2, .int x2)] := hl
  exact tbX9_sherd_0 (A := va_A (cw G σ) s.heap.size) hA ⟨⟨hx, hb, hml, hown, hts⟩, hK, hN⟩ ⟨Nat.le_of_ble_eq_true rfl, Nat.le_of_ble_eq_true rfl⟩ (o := o) ho ⟨hlt, hlocks, h0, Nat.le_refl _, Nat.le_refl _⟩ σ x1 x2 _ _ _ hf ⟨hP, hD, hS⟩ hl
theorem in_X9_join_X5 : ∀ w ∈ u_ws RX5 TX5 5, w ∈ wsX9_join := fun _ h => xt1 (xl (xr (h)))
theorem in_X9_join_X9 : ∀ w ∈ u_ws RX9 TX9 11, w ∈ wsX9_join := fun _ h => xt1 (xl (xl (xr (h))))
noncomputable def fX9_join (σ : hy_S) (x1 : Int32) (x2 : Int32) : Option (hy_S × Int32 × Nat) := hy_bt (fX9_needIndex σ x1 (σ.2 7)) some (fun σ1 v2 => hy_bt (fX9_needIndex σ1 x2 (σ1.2 7)) some (fun σ5 v6 => hy_bd (fX5_unite σ5 x1 x2) (fun σ9 v10 => hy_ck (v10 = 0 ∨ v10 = 1) (some (σ9, v10, 0)))))
set_option maxHeartbeats 4000000 in
set_option maxRecDepth 100000 in
theorem bX9_join_0 (hA : ∀ q : Nat, s.heap.size ≤ q → A q) (B : hy_B RX9 cX9_join 3 wsX9_join G A p s m args c) (hR : 7 ≤ R.frames ∧ 103 ≤ R.locals) {o : hy_S × Int32 × Nat}  (ho : o.2.2 = 0) (hret : ∀ (σ : hy_S) (v : Int32) (pc : Nat) (H : Heap) (locs : List Loc) (ls : Array Slot), o = (σ, v, 0) → (v = 0 ∨ v = 1) → hy_w cw G A s σ H locs → decode cX9_join pc = .ok (.ireturn, 1) → W p l e R s m args below meth c H locs 0 0 Q (F0 m pc ls [.int v])) (σ : hy_S) (x1 : Int32) (x2 : Int32) (H : Heap) (locs : List Loc) (ls : Array Slot) (hf : fX9_join σ x1 x2 = some o) (w : hy_w cw G A s σ H locs) (hl : lv_has ls 3 [(0, .ref (G.2.2.2.1 0)), (1, .int x1), (2, .int x2)]) : W p l e R s m args below meth c H locs 0 0 Q (F0 m 0 ls []) := by
  unfold fX9_join at hf
  refine lv_iload_n B.1.1 B.1.2.1 dX9_join_0 rfl (lv_at hl 1 rfl) ?_
  refine lv_aload_n B.1.1 B.1.2.1 dX9_join_1 rfl (lv_at hl 0 rfl) ?_
  refine hy_get (k := 7) (v := .ref (G.2.2.2.1 8)) B w (cwq_0 G) rfl in_X9_join_X9 (by decide) (by decide +kernel) rfl dX9_join_2 ?_
  refine hy_getN (k := 4) (v := .int (σ.2 7)) B w (cwq_8 G) rfl in_X9_join_X5 (by decide) (by decide +kernel) rfl dX9_join_5 ?_
  rcases hy_bt_some hf with ⟨σ1, v2, h3, hf⟩ | ⟨h3, h4⟩
  · refine hy_csv (As := [.int x1, .int (σ.2 7)]) (rest := []) (o := (σ1, v2)) cw_fix hA B w (fun sz => mX9_needIndex l G sz σ x1 (σ.2 7) _ h3 rfl) (cwS 2 B.1.2.2.2.2 gX9_join_X9_needIndex rfl rfl rfl (by decide +kernel) ⟨by have := hR.1; show 6 + 1 ≤ _; omega, by have := hR.2; show 8 + (2 + 11) + 82 ≤ _; omega⟩) rfl hl.1 rfl (Nat.le_of_ble_eq_true rfl) dX9_join_8 ⟨Nat.zero_le _, Nat.zero_le _⟩ (fun H locs w => ?_)
    refine lv_iload_n B.1.1 B.1.2.1 dX9_join_11 rfl (lv_at hl 2 rfl) ?_
    refine lv_aload_n B.1.1 B.1.2.1 dX9_join_12 rfl (lv_at hl 0 rfl) ?_
    refine hy_get (k := 7) (v := .ref (G.2.2.2.1 8)) B w (cwq_0 G) rfl in_X9_join_X9 (by decide) (by decide +kernel) rfl dX9_join_13 ?_
    refine hy_getN (k := 4) (v := .int (σ1.2 7)) B w (cwq_8 G) rfl in_X9_join_X5 (by decide) (by decide +kernel) rfl dX9_join_16 ?_
    rcases hy_bt_some hf with ⟨σ5, v6, h7, hf⟩ | ⟨h7, h8⟩
    · refine hy_csv (As := [.int x2, .int (σ1.2 7)]) (rest := []) (o := (σ5, v6)) cw_fix hA B w (fun sz => mX9_needIndex l G sz σ1 x2 (σ1.2 7) _ h7 rfl) (cwS 2 B.1.2.2.2.2 gX9_join_X9_needIndex rfl rfl rfl (by decide +kernel) ⟨by have := hR.1; show 6 + 1 ≤ _; omega, by have := hR.2; show 8 + (2 + 11) + 82 ≤ _; omega⟩) rfl hl.1 rfl (Nat.le_of_ble_eq_true rfl) dX9_join_19 ⟨Nat.zero_le _, Nat.zero_le _⟩ (fun H locs w => ?_)
      refine lv_aload_n B.1.1 B.1.2.1 dX9_join_22 rfl (lv_at hl 0 rfl) ?_
      refine hy_get (k := 7) (v := .ref (G.2.2.2.1 8)) B w (cwq_0 G) rfl in_X9_join_X9 (by decide) (by decide +kernel) rfl dX9_join_23 ?_
      refine lv_iload_n B.1.1 B.1.2.1 dX9_join_26 rfl (lv_at hl 1 rfl) ?_
      refine lv_iload_n B.1.1 B.1.2.1 dX9_join_27 rfl (lv_at hl 2 rfl) ?_
      obtain ⟨σ9, v10, h11, hf⟩ := hy_bd_some hf
      refine hy_cv (As := [.int x1, .int x2]) (rest := []) (o := (σ9, v10)) cw_fix hA B w (fun sz => mX5_unite l G sz σ5 x1 x2 _ h11) (cwV 2 B.1.2.2.2.2 gX9_join_X5_unite rfl rfl rfl (by decide +kernel) ⟨by have := hR.1; show 1 + 1 ≤ _; omega, by have := hR.2; show 8 + (6 + 11) + 30 ≤ _; omega⟩) rfl (cwq_8 G σ5) rfl hl.1 rfl (Nat.le_of_ble_eq_true rfl) dX9_join_28 ⟨Nat.zero_le _, Nat.zero_le _⟩ (fun H locs w => ?_)
      obtain ⟨c12, hf⟩ := hy_ck_some hf
      exact hret _ _ _ _ _ _ (Option.some.inj hf).symm c12 w dX9_join_31
    · exact absurd ho h8
  · exact absurd ho h4
set_option maxHeartbeats 4000000 in
set_option maxRecDepth 100000 in
theorem mX9_join (l : Launch) (G : hy_G) (sz : Nat) (σ : hy_S) (x1 : Int32) (x2 : Int32) (o : hy_S × Int32 × Nat) (hf : fX9_join σ x1 x2 = some o) (ho : o.2.2 = 0) : hy_M l yX9_join wsX9_join ({ frames := 7, cells := 0, slots := 0, locals := 103 }) cw G σ sz [.ref (G.2.2.2.1 0), .int x1, .int x2] (o.1, o.2.1) := by
  refine Met.ofW (cc := cX9_join) (maxL := 3) (ret := (some .boolean)) (by decide +kernel) rfl ?_
  intro p e s m args below meth c s₁ B hml hv
  obtain ⟨rfl, hsz, hP, hK, hD0, hN⟩ := hv
  have hx := B.exec
  have hb := B.bytes
  have hr := B.returns
  have hts := atoms_spec (ws := wsX9_join) B.pre
  have hown : s.vm.findClass RX9 = some m.cls := findClass_of_methodNamed B.named
  have hlocks := B.notSynchronized
  subst hsz
  have hD := hD0.self (sz := s.heap.size)
  have hA : ∀ q : Nat, s.heap.size ≤ q → va_A (cw G σ) s.heap.size q := fun q h => Or.inr h
  have hS : va_S (va_A (cw G σ) s.heap.size) s.heap s.heap [] := va_S.rf
  have hl := lv_entry ([.ref (G.2.2.2.1 0), .int x1, .int x2]) (n := 3) (Nat.le_of_ble_eq_true rfl)
  rw [lg_entry_eq]
  generalize (lg_sl ([.ref (G.2.2.2.1 0), .int x1, .int x2]) ++ List.replicate (3 - (lg_sl ([.ref (G.2.2.2.1 0), .int x1, .int x2])).length) Slot.unset).toArray = ls at hl ⊢
  have hl : lv_has ls 3 [(0, .ref (G.2.2.2.1 0)), (1, .int x1), (2, .int x2)] := hl
  refine bX9_join_0 (A := va_A (cw G σ) s.heap.size) hA ⟨⟨hx, hb, hml, hown, hts⟩, hK, hN⟩ ⟨Nat.le_of_ble_eq_true rfl, Nat.le_of_ble_eq_true rfl⟩ (o := o) ho (fun τ v pc H locs ls ho hz w d => ?_) σ x1 x2 _ _ _ hf ⟨hP, hD, hS⟩ hl
  exact W.zret hx hb hr (hy_bool hz) (fun t ht hW => ⟨⟨v, τ, rfl, ⟨by rw [ho], by rw [ho]⟩, by have h9 := w.1; rw [← ht] at h9; exact h9⟩, w.2.2.F ht⟩) w.2.2.2.2 d
set_option maxHeartbeats 4000000 in
set_option maxRecDepth 100000 in
theorem tbX9_join_0 (hA : ∀ q : Nat, s.heap.size ≤ q → A q) (B : hy_B RX9 cX9_join 3 wsX9_join G A p s m args c) (hR : 7 ≤ R.frames ∧ 103 ≤ R.locals) {o : hy_S × Int32 × Nat}  (ho : ¬ o.2.2 = 0) (hT : hy_TC l R meth c) (σ : hy_S) (x1 : Int32) (x2 : Int32) (H : Heap) (locs : List Loc) (ls : Array Slot) (hf : fX9_join σ x1 x2 = some o) (w : hy_w cw G A s σ H locs) (hl : lv_has ls 3 [(0, .ref (G.2.2.2.1 0)), (1, .int x1), (2, .int x2)]) : W p l e R s m args below meth c H locs 0 0 (vx_MQ below Qc (hy_X cw G o A) args s 1 6 A) (F0 m 0 ls []) := by
  unfold fX9_join at hf
  refine lv_iload_n B.1.1 B.1.2.1 dX9_join_0 rfl (lv_at hl 1 rfl) ?_
  refine lv_aload_n B.1.1 B.1.2.1 dX9_join_1 rfl (lv_at hl 0 rfl) ?_
  refine hy_get (k := 7) (v := .ref (G.2.2.2.1 8)) B w (cwq_0 G) rfl in_X9_join_X9 (by decide) (by decide +kernel) rfl dX9_join_2 ?_
  refine hy_getN (k := 4) (v := .int (σ.2 7)) B w (cwq_8 G) rfl in_X9_join_X5 (by decide) (by decide +kernel) rfl dX9_join_5 ?_
  rcases hy_bt_some hf with ⟨σ1, v2, h3, hf⟩ | ⟨h3, h4⟩
  · refine hy_csv (As := [.int x1, .int (σ.2 7)]) (rest := []) (o := (σ1, v2)) cw_fix hA B w (fun sz => mX9_needIndex l G sz σ x1 (σ.2 7) _ h3 rfl) (cwS 2 B.1.2.2.2.2 gX9_join_X9_needIndex rfl rfl rfl (by decide +kernel) ⟨by have := hR.1; show 6 + 1 ≤ _; omega, by have := hR.2; show 8 + (2 + 11) + 82 ≤ _; omega⟩) rfl hl.1 rfl (Nat.le_of_ble_eq_true rfl) dX9_join_8 ⟨Nat.zero_le _, Nat.zero_le _⟩ (fun H locs w => ?_)
    refine lv_iload_n B.1.1 B.1.2.1 dX9_join_11 rfl (lv_at hl 2 rfl) ?_
    refine lv_aload_n B.1.1 B.1.2.1 dX9_join_12 rfl (lv_at hl 0 rfl) ?_
    refine hy_get (k := 7) (v := .ref (G.2.2.2.1 8)) B w (cwq_0 G) rfl in_X9_join_X9 (by decide) (by decide +kernel) rfl dX9_join_13 ?_
    refine hy_getN (k := 4) (v := .int (σ1.2 7)) B w (cwq_8 G) rfl in_X9_join_X5 (by decide) (by decide +kernel) rfl dX9_join_16 ?_
    rcases hy_bt_some hf with ⟨σ5, v6, h7, hf⟩ | ⟨h7, h8⟩
    · refine hy_csv (As := [.int x2, .int (σ1.2 7)]) (rest := []) (o := (σ5, v6)) cw_fix hA B w (fun sz => mX9_needIndex l G sz σ1 x2 (σ1.2 7) _ h7 rfl) (cwS 2 B.1.2.2.2.2 gX9_join_X9_needIndex rfl rfl rfl (by decide +kernel) ⟨by have := hR.1; show 6 + 1 ≤ _; omega, by have := hR.2; show 8 + (2 + 11) + 82 ≤ _; omega⟩) rfl hl.1 rfl (Nat.le_of_ble_eq_true rfl) dX9_join_19 ⟨Nat.zero_le _, Nat.zero_le _⟩ (fun H locs w => ?_)
      refine lv_aload_n B.1.1 B.1.2.1 dX9_join_22 rfl (lv_at hl 0 rfl) ?_
      refine hy_get (k := 7) (v := .ref (G.2.2.2.1 8)) B w (cwq_0 G) rfl in_X9_join_X9 (by decide) (by decide +kernel) rfl dX9_join_23 ?_
      refine lv_iload_n B.1.1 B.1.2.1 dX9_join_26 rfl (lv_at hl 1 rfl) ?_
      refine lv_iload_n B.1.1 B.1.2.1 dX9_join_27 rfl (lv_at hl 2 rfl) ?_
      obtain ⟨σ9, v10, h11, hf⟩ := hy_bd_some hf
      refine hy_cv (As := [.int x1, .int x2]) (rest := []) (o := (σ9, v10)) cw_fix hA B w (fun sz => mX5_unite l G sz σ5 x1 x2 _ h11) (cwV 2 B.1.2.2.2.2 gX9_join_X5_unite rfl rfl rfl (by decide +kernel) ⟨by have := hR.1; show 1 + 1 ≤ _; omega, by have := hR.2; show 8 + (6 + 11) + 30 ≤ _; omega⟩) rfl (cwq_8 G σ5) rfl hl.1 rfl (Nat.le_of_ble_eq_true rfl) dX9_join_28 ⟨Nat.zero_le _, Nat.zero_le _⟩ (fun H locs w => ?_)
      obtain ⟨c12, hf⟩ := hy_ck_some hf
      exact absurd (congrArg (fun z => z.2.2) (Option.some.inj hf)).symm ho
    · exact hy_tsv (As := [.int x2, .int (σ1.2 7)]) (rest := []) hA B w hT (fun sz => tX9_needIndex l hT.1 G sz σ1 x2 (σ1.2 7) _ h7 h8) (cwS 2 B.1.2.2.2.2 gX9_join_X9_needIndex rfl rfl rfl (by decide +kernel) ⟨by have := hR.1; show 6 + 1 ≤ _; omega, by have := hR.2; show 8 + (2 + 11) + 82 ≤ _; omega⟩) rfl hl.1 rfl (Nat.le_of_ble_eq_true rfl) dX9_join_19
  · exact hy_tsv (As := [.int x1, .int (σ.2 7)]) (rest := []) hA B w hT (fun sz => tX9_needIndex l hT.1 G sz σ x1 (σ.2 7) _ h3 h4) (cwS 2 B.1.2.2.2.2 gX9_join_X9_needIndex rfl rfl rfl (by decide +kernel) ⟨by have := hR.1; show 6 + 1 ≤ _; omega, by have := hR.2; show 8 + (2 + 11) + 82 ≤ _; omega⟩) rfl hl.1 rfl (Nat.le_of_ble_eq_true rfl) dX9_join_8
set_option maxHeartbeats 4000000 in
set_option maxRecDepth 100000 in
theorem tX9_join (l : Launch) (hlt : l.stackTraces = false) (G : hy_G) (sz : Nat) (σ : hy_S) (x1 : Int32) (x2 : Int32) (o : hy_S × Int32 × Nat) (hf : fX9_join σ x1 x2 = some o) (ho : ¬ o.2.2 = 0) : hy_MT l yX9_join wsX9_join ({ frames := 7, cells := 1, slots := 6, locals := 103 }) cw G σ sz [.ref (G.2.2.2.1 0), .int x1, .int x2] o := by
  refine vx_ofW (cc := cX9_join) (maxL := 3) (ret := (some .boolean)) (by decide +kernel) rfl ?_
  intro p e s m args below meth c s₁ B hml h0 hv
  obtain ⟨rfl, hsz, hP, hK, hD0, hN⟩ := hv
  have hx := B.exec
  have hb := B.bytes
  have hr := B.returns
  have hts := atoms_spec (ws := wsX9_join) B.pre
  have hown : s.vm.findClass RX9 = some m.cls := findClass_of_methodNamed B.named
  have hlocks := B.notSynchronized
  subst hsz
  have hD := hD0.self (sz := s.heap.size)
  have hA : ∀ q : Nat, s.heap.size ≤ q → va_A (cw G σ) s.heap.size q := fun q h => Or.inr h
  have hS : va_S (va_A (cw G σ) s.heap.size) s.heap s.heap [] := va_S.rf
  have hl := lv_entry ([.ref (G.2.2.2.1 0), .int x1, .int x2]) (n := 3) (Nat.le_of_ble_eq_true rfl)
  rw [lg_entry_eq]
  generalize (lg_sl ([.ref (G.2.2.2.1 0), .int x1, .int x2]) ++ List.replicate (3 - (lg_sl ([.ref (G.2.2.2.1 0), .int x1, .int x2])).length) Slot.unset).toArray = ls at hl ⊢
  have hl : lv_has ls 3 [(0, .ref (G.2.2.2.1 0)), (1, .int x1), (2, .int x2)] := hl
  exact tbX9_join_0 (A := va_A (cw G σ) s.heap.size) hA ⟨⟨hx, hb, hml, hown, hts⟩, hK, hN⟩ ⟨Nat.le_of_ble_eq_true rfl, Nat.le_of_ble_eq_true rfl⟩ (o := o) ho ⟨hlt, hlocks, h0, Nat.le_refl _, Nat.le_refl _⟩ σ x1 x2 _ _ _ hf ⟨hP, hD, hS⟩ hl
theorem in_X9_vessels_X9 : ∀ w ∈ u_ws RX9 TX9 11, w ∈ wsX9_vessels := fun _ h => xt1 (xl (xl (xr (h))))
noncomputable def fX9_vessels (σ : hy_S) (x1 : Int32) : Option (hy_S × Int32 × Nat) := hy_bt (fX9_needStampOrNone σ x1) some (fun σ1 v2 => (if x1 = (-1) then hy_bd (fX5_allVessels σ1) (fun σ9 v10 => some (σ9, v10, 0)) else hy_bd (fX5_vesselsWith σ1 x1) (fun σ6 v7 => some (σ6, v7, 0))))
set_option maxHeartbeats 4000000 in
set_option maxRecDepth 100000 in
theorem bX9_vessels_0 (hA : ∀ q : Nat, s.heap.size ≤ q → A q) (B : hy_B RX9 cX9_vessels 2 wsX9_vessels G A p s m args c) (hR : 8 ≤ R.frames ∧ 123 ≤ R.locals) {o : hy_S × Int32 × Nat}  (ho : o.2.2 = 0) (hret : ∀ (σ : hy_S) (v : Int32) (pc : Nat) (H : Heap) (locs : List Loc) (ls : Array Slot), o = (σ, v, 0) → hy_w cw G A s σ H locs → decode cX9_vessels pc = .ok (.ireturn, 1) → W p l e R s m args below meth c H locs 0 0 Q (F0 m pc ls [.int v])) (σ : hy_S) (x1 : Int32) (H : Heap) (locs : List Loc) (ls : Array Slot) (hf : fX9_vessels σ x1 = some o) (w : hy_w cw G A s σ H locs) (hl : lv_has ls 2 [(0, .ref (G.2.2.2.1 0)), (1, .int x1)]) : W p l e R s m args below meth c H locs 0 0 Q (F0 m 0 ls []) := by
  unfold fX9_vessels at hf
  refine lv_iload_n B.1.1 B.1.2.1 dX9_vessels_0 rfl (lv_at hl 1 rfl) ?_
  rcases hy_bt_some hf with ⟨σ1, v2, h3, hf⟩ | ⟨h3, h4⟩
  · refine hy_csv (As := [.int x1]) (rest := []) (o := (σ1, v2)) cw_fix hA B w (fun sz => mX9_needStampOrNone l G sz σ x1 _ h3 rfl) (cwS 1 B.1.2.2.2.2 gX9_vessels_X9_needStampOrNone rfl rfl rfl (by decide +kernel) ⟨by have := hR.1; show 7 + 1 ≤ _; omega, by have := hR.2; show 8 + (1 + 11) + 103 ≤ _; omega⟩) rfl hl.1 rfl (Nat.le_of_ble_eq_true rfl) dX9_vessels_1 ⟨Nat.zero_le _, Nat.zero_le _⟩ (fun H locs w => ?_)
    refine lv_iload_n B.1.1 B.1.2.1 dX9_vessels_4 rfl (lv_at hl 1 rfl) ?_
    refine lv_iconst (v := (-1)) B.1.1 B.1.2.1 dX9_vessels_5 (by decide) ?_
    refine lv_icmp_ne (tgt := 19) B.1.1 B.1.2.1 dX9_vessels_6 (by decide) (fun c5 => ?_) (fun c5 => ?_)
    · rw [if_neg c5] at hf
      refine lv_aload_n B.1.1 B.1.2.1 dX9_vessels_19 rfl (lv_at hl 0 rfl) ?_
      refine hy_get (k := 7) (v := .ref (G.2.2.2.1 8)) B w (cwq_0 G) rfl in_X9_vessels_X9 (by decide) (by decide +kernel) rfl dX9_vessels_20 ?_
      refine lv_iload_n B.1.1 B.1.2.1 dX9_vessels_23 rfl (lv_at hl 1 rfl) ?_
      obtain ⟨σ6, v7, h8, hf⟩ := hy_bd_some hf
      refine hy_cv (As := [.int x1]) (rest := []) (o := (σ6, v7)) cw_fix hA B w (fun sz => mX5_vesselsWith l G sz σ1 x1 _ h8) (cwV 1 B.1.2.2.2.2 gX9_vessels_X5_vesselsWith rfl rfl rfl (by decide +kernel) ⟨by have := hR.1; show 0 + 1 ≤ _; omega, by have := hR.2; show 8 + (4 + 11) + 0 ≤ _; omega⟩) rfl (cwq_8 G σ1) rfl hl.1 rfl (Nat.le_of_ble_eq_true rfl) dX9_vessels_24 ⟨Nat.zero_le _, Nat.zero_le _⟩ (fun H locs w => ?_)
      exact hret _ _ _ _ _ _ (Option.some.inj hf).symm w dX9_vessels_27
    · rw [if_pos c5] at hf
      refine lv_aload_n B.1.1 B.1.2.1 dX9_vessels_9 rfl (lv_at hl 0 rfl) ?_
      refine hy_get (k := 7) (v := .ref (G.2.2.2.1 8)) B w (cwq_0 G) rfl in_X9_vessels_X9 (by decide) (by decide +kernel) rfl dX9_vessels_10 ?_
      obtain ⟨σ9, v10, h11, hf⟩ := hy_bd_some hf
      refine hy_cv (As := []) (rest := []) (o := (σ9, v10)) cw_fix hA B w (fun sz => mX5_allVessels l G sz σ1  _ h11) (cwV 0 B.1.2.2.2.2 gX9_vessels_X5_allVessels rfl rfl rfl (by decide +kernel) ⟨by have := hR.1; show 0 + 1 ≤ _; omega, by have := hR.2; show 8 + (3 + 11) + 0 ≤ _; omega⟩) rfl (cwq_8 G σ1) rfl hl.1 rfl (Nat.le_of_ble_eq_true rfl) dX9_vessels_13 ⟨Nat.zero_le _, Nat.zero_le _⟩ (fun H locs w => ?_)
      refine lv_goto (tgt := 27) B.1.1 B.1.2.1 dX9_vessels_16 (by decide) ?_
      exact hret _ _ _ _ _ _ (Option.some.inj hf).symm w dX9_vessels_27
  · exact absurd ho h4
set_option maxHeartbeats 4000000 in
set_option maxRecDepth 100000 in
theorem mX9_vessels (l : Launch) (G : hy_G) (sz : Nat) (σ : hy_S) (x1 : Int32) (o : hy_S × Int32 × Nat) (hf : fX9_vessels σ x1 = some o) (ho : o.2.2 = 0) : hy_M l yX9_vessels wsX9_vessels ({ frames := 8, cells := 0, slots := 0, locals := 123 }) cw G σ sz [.ref (G.2.2.2.1 0), .int x1] (o.1, o.2.1) := by
  refine Met.ofW (cc := cX9_vessels) (maxL := 2) (ret := (some .int)) (by decide +kernel) rfl ?_
  intro p e s m args below meth c s₁ B hml hv
  obtain ⟨rfl, hsz, hP, hK, hD0, hN⟩ := hv
  have hx := B.exec
  have hb := B.bytes
  have hr := B.returns
  have hts := atoms_spec (ws := wsX9_vessels) B.pre
  have hown : s.vm.findClass RX9 = some m.cls := findClass_of_methodNamed B.named
  have hlocks := B.notSynchronized
  subst hsz
  have hD := hD0.self (sz := s.heap.size)
  have hA : ∀ q : Nat, s.heap.size ≤ q → va_A (cw G σ) s.heap.size q := fun q h => Or.inr h
  have hS : va_S (va_A (cw G σ) s.heap.size) s.heap s.heap [] := va_S.rf
  have hl := lv_entry ([.ref (G.2.2.2.1 0), .int x1]) (n := 2) (Nat.le_of_ble_eq_true rfl)
  rw [lg_entry_eq]
  generalize (lg_sl ([.ref (G.2.2.2.1 0), .int x1]) ++ List.replicate (2 - (lg_sl ([.ref (G.2.2.2.1 0), .int x1])).length) Slot.unset).toArray = ls at hl ⊢
  have hl : lv_has ls 2 [(0, .ref (G.2.2.2.1 0)), (1, .int x1)] := hl
  refine bX9_vessels_0 (A := va_A (cw G σ) s.heap.size) hA ⟨⟨hx, hb, hml, hown, hts⟩, hK, hN⟩ ⟨Nat.le_of_ble_eq_true rfl, Nat.le_of_ble_eq_true rfl⟩ (o := o) ho (fun τ v pc H locs ls ho w d => ?_) σ x1 _ _ _ hf ⟨hP, hD, hS⟩ hl
  exact W.iret hx hb hr (fun t ht hW => ⟨⟨v, τ, rfl, ⟨by rw [ho], by rw [ho]⟩, by have h9 := w.1; rw [← ht] at h9; exact h9⟩, w.2.2.F ht⟩) w.2.2.2.2 d
set_option maxHeartbeats 4000000 in
set_option maxRecDepth 100000 in
theorem tbX9_vessels_0 (hA : ∀ q : Nat, s.heap.size ≤ q → A q) (B : hy_B RX9 cX9_vessels 2 wsX9_vessels G A p s m args c) (hR : 8 ≤ R.frames ∧ 123 ≤ R.locals) {o : hy_S × Int32 × Nat}  (ho : ¬ o.2.2 = 0) (hT : hy_TC l R meth c) (σ : hy_S) (x1 : Int32) (H : Heap) (locs : List Loc) (ls : Array Slot) (hf : fX9_vessels σ x1 = some o) (w : hy_w cw G A s σ H locs) (hl : lv_has ls 2 [(0, .ref (G.2.2.2.1 0)), (1, .int x1)]) : W p l e R s m args below meth c H locs 0 0 (vx_MQ below Qc (hy_X cw G o A) args s 1 6 A) (F0 m 0 ls []) := by
  unfold fX9_vessels at hf
  refine lv_iload_n B.1.1 B.1.2.1 dX9_vessels_0 rfl (lv_at hl 1 rfl) ?_
  rcases hy_bt_some hf with ⟨σ1, v2, h3, hf⟩ | ⟨h3, h4⟩
  · refine hy_csv (As := [.int x1]) (rest := []) (o := (σ1, v2)) cw_fix hA B w (fun sz => mX9_needStampOrNone l G sz σ x1 _ h3 rfl) (cwS 1 B.1.2.2.2.2 gX9_vessels_X9_needStampOrNone rfl rfl rfl (by decide +kernel) ⟨by have := hR.1; show 7 + 1 ≤ _; omega, by have := hR.2; show 8 + (1 + 11) + 103 ≤ _; omega⟩) rfl hl.1 rfl (Nat.le_of_ble_eq_true rfl) dX9_vessels_1 ⟨Nat.zero_le _, Nat.zero_le _⟩ (fun H locs w => ?_)
    refine lv_iload_n B.1.1 B.1.2.1 dX9_vessels_4 rfl (lv_at hl 1 rfl) ?_
    refine lv_iconst (v := (-1)) B.1.1 B.1.2.1 dX9_vessels_5 (by decide) ?_
    refine lv_icmp_ne (tgt := 19) B.1.1 B.1.2.1 dX9_vessels_6 (by decide) (fun c5 => ?_) (fun c5 => ?_)
    · rw [if_neg c5] at hf
      refine lv_aload_n B.1.1 B.1.2.1 dX9_vessels_19 rfl (lv_at hl 0 rfl) ?_
      refine hy_get (k := 7) (v := .ref (G.2.2.2.1 8)) B w (cwq_0 G) rfl in_X9_vessels_X9 (by decide) (by decide +kernel) rfl dX9_vessels_20 ?_
      refine lv_iload_n B.1.1 B.1.2.1 dX9_vessels_23 rfl (lv_at hl 1 rfl) ?_
      obtain ⟨σ6, v7, h8, hf⟩ := hy_bd_some hf
      refine hy_cv (As := [.int x1]) (rest := []) (o := (σ6, v7)) cw_fix hA B w (fun sz => mX5_vesselsWith l G sz σ1 x1 _ h8) (cwV 1 B.1.2.2.2.2 gX9_vessels_X5_vesselsWith rfl rfl rfl (by decide +kernel) ⟨by have := hR.1; show 0 + 1 ≤ _; omega, by have := hR.2; show 8 + (4 + 11) + 0 ≤ _; omega⟩) rfl (cwq_8 G σ1) rfl hl.1 rfl (Nat.le_of_ble_eq_true rfl) dX9_vessels_24 ⟨Nat.zero_le _, Nat.zero_le _⟩ (fun H locs w => ?_)
      exact absurd (congrArg (fun z => z.2.2) (Option.some.inj hf)).symm ho
    · rw [if_pos c5] at hf
      refine lv_aload_n B.1.1 B.1.2.1 dX9_vessels_9 rfl (lv_at hl 0 rfl) ?_
      refine hy_get (k := 7) (v := .ref (G.2.2.2.1 8)) B w (cwq_0 G) rfl in_X9_vessels_X9 (by decide) (by decide +kernel) rfl dX9_vessels_10 ?_
      obtain ⟨σ9, v10, h11, hf⟩ := hy_bd_some hf
      refine hy_cv (As := []) (rest := []) (o := (σ9, v10)) cw_fix hA B w (fun sz => mX5_allVessels l G sz σ1  _ h11) (cwV 0 B.1.2.2.2.2 gX9_vessels_X5_allVessels rfl rfl rfl (by decide +kernel) ⟨by have := hR.1; show 0 + 1 ≤ _; omega, by have := hR.2; show 8 + (3 + 11) + 0 ≤ _; omega⟩) rfl (cwq_8 G σ1) rfl hl.1 rfl (Nat.le_of_ble_eq_true rfl) dX9_vessels_13 ⟨Nat.zero_le _, Nat.zero_le _⟩ (fun H locs w => ?_)
      refine lv_goto (tgt := 27) B.1.1 B.1.2.1 dX9_vessels_16 (by decide) ?_
      exact absurd (congrArg (fun z => z.2.2) (Option.some.inj hf)).symm ho
  · exact hy_tsv (As := [.int x1]) (rest := []) hA B w hT (fun sz => tX9_needStampOrNone l hT.1 G sz σ x1 _ h3 h4) (cwS 1 B.1.2.2.2.2 gX9_vessels_X9_needStampOrNone rfl rfl rfl (by decide +kernel) ⟨by have := hR.1; show 7 + 1 ≤ _; omega, by have := hR.2; show 8 + (1 + 11) + 103 ≤ _; omega⟩) rfl hl.1 rfl (Nat.le_of_ble_eq_true rfl) dX9_vessels_1
set_option maxHeartbeats 4000000 in
set_option maxRecDepth 100000 in
theorem tX9_vessels (l : Launch) (hlt : l.stackTraces = false) (G : hy_G) (sz : Nat) (σ : hy_S) (x1 : Int32) (o : hy_S × Int32 × Nat) (hf : fX9_vessels σ x1 = some o) (ho : ¬ o.2.2 = 0) : hy_MT l yX9_vessels wsX9_vessels ({ frames := 8, cells := 1, slots := 6, locals := 123 }) cw G σ sz [.ref (G.2.2.2.1 0), .int x1] o := by
  refine vx_ofW (cc := cX9_vessels) (maxL := 2) (ret := (some .int)) (by decide +kernel) rfl ?_
  intro p e s m args below meth c s₁ B hml h0 hv
  obtain ⟨rfl, hsz, hP, hK, hD0, hN⟩ := hv
  have hx := B.exec
  have hb := B.bytes
  have hr := B.returns
  have hts := atoms_spec (ws := wsX9_vessels) B.pre
  have hown : s.vm.findClass RX9 = some m.cls := findClass_of_methodNamed B.named
  have hlocks := B.notSynchronized
  subst hsz
  have hD := hD0.self (sz := s.heap.size)
  have hA : ∀ q : Nat, s.heap.size ≤ q → va_A (cw G σ) s.heap.size q := fun q h => Or.inr h
  have hS : va_S (va_A (cw G σ) s.heap.size) s.heap s.heap [] := va_S.rf
  have hl := lv_entry ([.ref (G.2.2.2.1 0), .int x1]) (n := 2) (Nat.le_of_ble_eq_true rfl)
  rw [lg_entry_eq]
  generalize (lg_sl ([.ref (G.2.2.2.1 0), .int x1]) ++ List.replicate (2 - (lg_sl ([.ref (G.2.2.2.1 0), .int x1])).length) Slot.unset).toArray = ls at hl ⊢
  have hl : lv_has ls 2 [(0, .ref (G.2.2.2.1 0)), (1, .int x1)] := hl
  exact tbX9_vessels_0 (A := va_A (cw G σ) s.heap.size) hA ⟨⟨hx, hb, hml, hown, hts⟩, hK, hN⟩ ⟨Nat.le_of_ble_eq_true rfl, Nat.le_of_ble_eq_true rfl⟩ (o := o) ho ⟨hlt, hlocks, h0, Nat.le_refl _, Nat.le_refl _⟩ σ x1 _ _ _ hf ⟨hP, hD, hS⟩ hl
theorem in_X9_vessel_X5 : ∀ w ∈ u_ws RX5 TX5 5, w ∈ wsX9_vessel := fun _ h => xt1 (xl (xl (xr (h))))
theorem in_X9_vessel_X9 : ∀ w ∈ u_ws RX9 TX9 11, w ∈ wsX9_vessel := fun _ h => xt1 (xl (xl (xl (xr (h)))))
noncomputable def fX9_vessel (σ : hy_S) (x1 : Int32) (x2 : Int32) : Option (hy_S × Int32 × Nat) := hy_bt (fX9_needIndex σ x1 (σ.2 7)) some (fun σ1 v2 => hy_ga σ1 18 60 x1 (fun v5 => (if x2 = 0 then hy_ga σ1 19 60 v5 (fun v9 => some (σ1, v9, 0)) else (if x2 = 1 then hy_ga σ1 21 60 v5 (fun v13 => some (σ1, v13, 0)) else (if x2 = 2 then some (σ1, v5, 0) else some (σ1, 0, 4))))))
set_option maxHeartbeats 4000000 in
set_option maxRecDepth 100000 in
theorem bX9_vessel_0 (hA : ∀ q : Nat, s.heap.size ≤ q → A q) (B : hy_B RX9 cX9_vessel 4 wsX9_vessel G A p s m args c) (hR : 7 ≤ R.frames ∧ 103 ≤ R.locals) {o : hy_S × Int32 × Nat}  (ho : o.2.2 = 0) (hret : ∀ (σ : hy_S) (v : Int32) (pc : Nat) (H : Heap) (locs : List Loc) (ls : Array Slot), o = (σ, v, 0) → hy_w cw G A s σ H locs → decode cX9_vessel pc = .ok (.ireturn, 1) → W p l e R s m args below meth c H locs 0 0 Q (F0 m pc ls [.int v])) (σ : hy_S) (x1 : Int32) (x2 : Int32) (H : Heap) (locs : List Loc) (ls : Array Slot) (hf : fX9_vessel σ x1 x2 = some o) (w : hy_w cw G A s σ H locs) (hl : lv_has ls 4 [(0, .ref (G.2.2.2.1 0)), (1, .int x1), (2, .int x2)]) : W p l e R s m args below meth c H locs 0 0 Q (F0 m 0 ls []) := by
  unfold fX9_vessel at hf
  refine lv_iload_n B.1.1 B.1.2.1 dX9_vessel_0 rfl (lv_at hl 1 rfl) ?_
  refine lv_aload_n B.1.1 B.1.2.1 dX9_vessel_1 rfl (lv_at hl 0 rfl) ?_
  refine hy_get (k := 7) (v := .ref (G.2.2.2.1 8)) B w (cwq_0 G) rfl in_X9_vessel_X9 (by decide) (by decide +kernel) rfl dX9_vessel_2 ?_
  refine hy_getN (k := 4) (v := .int (σ.2 7)) B w (cwq_8 G) rfl in_X9_vessel_X5 (by decide) (by decide +kernel) rfl dX9_vessel_5 ?_
  rcases hy_bt_some hf with ⟨σ1, v2, h3, hf⟩ | ⟨h3, h4⟩
  · refine hy_csv (As := [.int x1, .int (σ.2 7)]) (rest := []) (o := (σ1, v2)) cw_fix hA B w (fun sz => mX9_needIndex l G sz σ x1 (σ.2 7) _ h3 rfl) (cwS 2 B.1.2.2.2.2 gX9_vessel_X9_needIndex rfl rfl rfl (by decide +kernel) ⟨by have := hR.1; show 6 + 1 ≤ _; omega, by have := hR.2; show 8 + (2 + 11) + 82 ≤ _; omega⟩) rfl hl.1 rfl (Nat.le_of_ble_eq_true rfl) dX9_vessel_8 ⟨Nat.zero_le _, Nat.zero_le _⟩ (fun H locs w => ?_)
    refine lv_aload_n B.1.1 B.1.2.1 dX9_vessel_11 rfl (lv_at hl 0 rfl) ?_
    refine hy_get (k := 7) (v := .ref (G.2.2.2.1 8)) B w (cwq_0 G) rfl in_X9_vessel_X9 (by decide) (by decide +kernel) rfl dX9_vessel_12 ?_
    refine hy_getN (k := 0) (v := .ref (G.2.2.2.1 28)) B w (cwq_8 G) rfl in_X9_vessel_X5 (by decide) (by decide +kernel) rfl dX9_vessel_15 ?_
    refine lv_iload_n B.1.1 B.1.2.1 dX9_vessel_18 rfl (lv_at hl 1 rfl) ?_
    obtain ⟨h7, v5, e6, hf⟩ := hy_ga_some hf
    refine hy_iald B w (cwq_28 G) h7 e6 dX9_vessel_19 ?_
    refine lv_istore_n (lv' := [(3, .int v5), (0, .ref (G.2.2.2.1 0)), (1, .int x1), (2, .int x2)]) B.1.1 B.1.2.1 dX9_vessel_20 rfl hl (by decide) rfl (fun ls hl => ?_)
    refine lv_iload_n B.1.1 B.1.2.1 dX9_vessel_21 rfl (lv_at hl 3 rfl) ?_
    by_cases c8 : x2 = 0
    · rw [if_pos c8] at hf
      have c8e : Int32.toInt x2 = 0 := by rw [c8]; rfl
      refine lv_tableIn (tgt := 48) B.1.1 B.1.2.1 dX9_vessel_22 (by rw [c8e]; decide) (by rw [c8e]; decide) (by rw [c8e]; rfl) (by decide) ?_
      refine lv_aload_n B.1.1 B.1.2.1 dX9_vessel_48 rfl (lv_at hl 1 rfl) ?_
      refine hy_get (k := 7) (v := .ref (G.2.2.2.1 8)) B w (cwq_0 G) rfl in_X9_vessel_X9 (by decide) (by decide +kernel) rfl dX9_vessel_49 ?_
      refine hy_getN (k := 1) (v := .ref (G.2.2.2.1 29)) B w (cwq_8 G) rfl in_X9_vessel_X5 (by decide) (by decide +kernel) rfl dX9_vessel_52 ?_
      refine lv_iload_n B.1.1 B.1.2.1 dX9_vessel_55 rfl (lv_at hl 0 rfl) ?_
      obtain ⟨h11, v9, e10, hf⟩ := hy_ga_some hf
      refine hy_iald B w (cwq_29 G) h11 e10 dX9_vessel_56 ?_
      exact hret _ _ _ _ _ _ (Option.some.inj hf).symm w dX9_vessel_57
    · rw [if_neg c8] at hf
      by_cases c12 : x2 = 1
      · rw [if_pos c12] at hf
        have c12e : Int32.toInt x2 = 1 := by rw [c12]; rfl
        refine lv_tableIn (tgt := 58) B.1.1 B.1.2.1 dX9_vessel_22 (by rw [c12e]; decide) (by rw [c12e]; decide) (by rw [c12e]; rfl) (by decide) ?_
        refine lv_aload_n B.1.1 B.1.2.1 dX9_vessel_58 rfl (lv_at hl 1 rfl) ?_
        refine hy_get (k := 7) (v := .ref (G.2.2.2.1 8)) B w (cwq_0 G) rfl in_X9_vessel_X9 (by decide) (by decide +kernel) rfl dX9_vessel_59 ?_
        refine hy_getN (k := 3) (v := .ref (G.2.2.2.1 31)) B w (cwq_8 G) rfl in_X9_vessel_X5 (by decide) (by decide +kernel) rfl dX9_vessel_62 ?_
        refine lv_iload_n B.1.1 B.1.2.1 dX9_vessel_65 rfl (lv_at hl 0 rfl) ?_
        obtain ⟨h15, v13, e14, hf⟩ := hy_ga_some hf
        refine hy_iald B w (cwq_31 G) h15 e14 dX9_vessel_66 ?_
        exact hret _ _ _ _ _ _ (Option.some.inj hf).symm w dX9_vessel_67
      · rw [if_neg c12] at hf
        by_cases c16 : x2 = 2
        · rw [if_pos c16] at hf
          have c16e : Int32.toInt x2 = 2 := by rw [c16]; rfl
          refine lv_tableIn (tgt := 68) B.1.1 B.1.2.1 dX9_vessel_22 (by rw [c16e]; decide) (by rw [c16e]; decide) (by rw [c16e]; rfl) (by decide) ?_
          refine lv_iload_n B.1.1 B.1.2.1 dX9_vessel_68 rfl (lv_at hl 0 rfl) ?_
          exact hret _ _ _ _ _ _ (Option.some.inj hf).symm w dX9_vessel_69
        · rw [if_neg c16] at hf
          have c8t := lv_neT (a := 0) c8 rfl
          have c12t := lv_neT (a := 1) c12 rfl
          have c16t := lv_neT (a := 2) c16 rfl
          refine lv_tableOut (tgt := 70) B.1.1 B.1.2.1 dX9_vessel_22 (by omega) (by decide) ?_
          exact absurd ((congrArg (fun z => z.2.2) (Option.some.inj hf)).trans ho) (Nat.succ_ne_zero _)
  · exact absurd ho h4
set_option maxHeartbeats 4000000 in
set_option maxRecDepth 100000 in
theorem mX9_vessel (l : Launch) (G : hy_G) (sz : Nat) (σ : hy_S) (x1 : Int32) (x2 : Int32) (o : hy_S × Int32 × Nat) (hf : fX9_vessel σ x1 x2 = some o) (ho : o.2.2 = 0) : hy_M l yX9_vessel wsX9_vessel ({ frames := 7, cells := 0, slots := 0, locals := 103 }) cw G σ sz [.ref (G.2.2.2.1 0), .int x1, .int x2] (o.1, o.2.1) := by
  refine Met.ofW (cc := cX9_vessel) (maxL := 4) (ret := (some .int)) (by decide +kernel) rfl ?_
  intro p e s m args below meth c s₁ B hml hv
  obtain ⟨rfl, hsz, hP, hK, hD0, hN⟩ := hv
  have hx := B.exec
  have hb := B.bytes
  have hr := B.returns
  have hts := atoms_spec (ws := wsX9_vessel) B.pre
  have hown : s.vm.findClass RX9 = some m.cls := findClass_of_methodNamed B.named
  have hlocks := B.notSynchronized
  subst hsz
  have hD := hD0.self (sz := s.heap.size)
  have hA : ∀ q : Nat, s.heap.size ≤ q → va_A (cw G σ) s.heap.size q := fun q h => Or.inr h
  have hS : va_S (va_A (cw G σ) s.heap.size) s.heap s.heap [] := va_S.rf
  have hl := lv_entry ([.ref (G.2.2.2.1 0), .int x1, .int x2]) (n := 4) (Nat.le_of_ble_eq_true rfl)
  rw [lg_entry_eq]
  generalize (lg_sl ([.ref (G.2.2.2.1 0), .int x1, .int x2]) ++ List.replicate (4 - (lg_sl ([.ref (G.2.2.2.1 0), .int x1, .int x2])).length) Slot.unset).toArray = ls at hl ⊢
  have hl : lv_has ls 4 [(0, .ref (G.2.2.2.1 0)), (1, .int x1), (2, .int x2)] := hl
  refine bX9_vessel_0 (A := va_A (cw G σ) s.heap.size) hA ⟨⟨hx, hb, hml, hown, hts⟩, hK, hN⟩ ⟨Nat.le_of_ble_eq_true rfl, Nat.le_of_ble_eq_true rfl⟩ (o := o) ho (fun τ v pc H locs ls ho w d => ?_) σ x1 x2 _ _ _ hf ⟨hP, hD, hS⟩ hl
  exact W.iret hx hb hr (fun t ht hW => ⟨⟨v, τ, rfl, ⟨by rw [ho], by rw [ho]⟩, by have h9 := w.1; rw [← ht] at h9; exact h9⟩, w.2.2.F ht⟩) w.2.2.2.2 d
set_option maxHeartbeats 4000000 in
set_option maxRecDepth 100000 in
theorem tbX9_vessel_0 (hA : ∀ q : Nat, s.heap.size ≤ q → A q) (B : hy_B RX9 cX9_vessel 4 wsX9_vessel G A p s m args c) (hR : 7 ≤ R.frames ∧ 103 ≤ R.locals) {o : hy_S × Int32 × Nat}  (ho : ¬ o.2.2 = 0) (hT : hy_TC l R meth c) (σ : hy_S) (x1 : Int32) (x2 : Int32) (H : Heap) (locs : List Loc) (ls : Array Slot) (hf : fX9_vessel σ x1 x2 = some o) (w : hy_w cw G A s σ H locs) (hl : lv_has ls 4 [(0, .ref (G.2.2.2.1 0)), (1, .int x1), (2, .int x2)]) : W p l e R s m args below meth c H locs 0 0 (vx_MQ below Qc (hy_X cw G o A) args s 1 6 A) (F0 m 0 ls []) := by
  unfold fX9_vessel at hf
  refine lv_iload_n B.1.1 B.1.2.1 dX9_vessel_0 rfl (lv_at hl 1 rfl) ?_
  refine lv_aload_n B.1.1 B.1.2.1 dX9_vessel_1 rfl (lv_at hl 0 rfl) ?_
  refine hy_get (k := 7) (v := .ref (G.2.2.2.1 8)) B w (cwq_0 G) rfl in_X9_vessel_X9 (by decide) (by decide +kernel) rfl dX9_vessel_2 ?_
  refine hy_getN (k := 4) (v := .int (σ.2 7)) B w (cwq_8 G) rfl in_X9_vessel_X5 (by decide) (by decide +kernel) rfl dX9_vessel_5 ?_
  rcases hy_bt_some hf with ⟨σ1, v2, h3, hf⟩ | ⟨h3, h4⟩
  · refine hy_csv (As := [.int x1, .int (σ.2 7)]) (rest := []) (o := (σ1, v2)) cw_fix hA B w (fun sz => mX9_needIndex l G sz σ x1 (σ.2 7) _ h3 rfl) (cwS 2 B.1.2.2.2.2 gX9_vessel_X9_needIndex rfl rfl rfl (by decide +kernel) ⟨by have := hR.1; show 6 + 1 ≤ _; omega, by have := hR.2; show 8 + (2 + 11) + 82 ≤ _; omega⟩) rfl hl.1 rfl (Nat.le_of_ble_eq_true rfl) dX9_vessel_8 ⟨Nat.zero_le _, Nat.zero_le _⟩ (fun H locs w => ?_)
    refine lv_aload_n B.1.1 B.1.2.1 dX9_vessel_11 rfl (lv_at hl 0 rfl) ?_
    refine hy_get (k := 7) (v := .ref (G.2.2.2.1 8)) B w (cwq_0 G) rfl in_X9_vessel_X9 (by decide) (by decide +kernel) rfl dX9_vessel_12 ?_
    refine hy_getN (k := 0) (v := .ref (G.2.2.2.1 28)) B w (cwq_8 G) rfl in_X9_vessel_X5 (by decide) (by decide +kernel) rfl dX9_vessel_15 ?_
    refine lv_iload_n B.1.1 B.1.2.1 dX9_vessel_18 rfl (lv_at hl 1 rfl) ?_
    obtain ⟨h7, v5, e6, hf⟩ := hy_ga_some hf
    refine hy_iald B w (cwq_28 G) h7 e6 dX9_vessel_19 ?_
    refine lv_istore_n (lv' := [(3, .int v5), (0, .ref (G.2.2.2.1 0)), (1, .int x1), (2, .int x2)]) B.1.1 B.1.2.1 dX9_vessel_20 rfl hl (by decide) rfl (fun ls hl => ?_)
    refine lv_iload_n B.1.1 B.1.2.1 dX9_vessel_21 rfl (lv_at hl 3 rfl) ?_
    by_cases c8 : x2 = 0
    · rw [if_pos c8] at hf
      have c8e : Int32.toInt x2 = 0 := by rw [c8]; rfl
      refine lv_tableIn (tgt := 48) B.1.1 B.1.2.1 dX9_vessel_22 (by rw [c8e]; decide) (by rw [c8e]; decide) (by rw [c8e]; rfl) (by decide) ?_
      refine lv_aload_n B.1.1 B.1.2.1 dX9_vessel_48 rfl (lv_at hl 1 rfl) ?_
      refine hy_get (k := 7) (v := .ref (G.2.2.2.1 8)) B w (cwq_0 G) rfl in_X9_vessel_X9 (by decide) (by decide +kernel) rfl dX9_vessel_49 ?_
      refine hy_getN (k := 1) (v := .ref (G.2.2.2.1 29)) B w (cwq_8 G) rfl in_X9_vessel_X5 (by decide) (by decide +kernel) rfl dX9_vessel_52 ?_
      refine lv_iload_n B.1.1 B.1.2.1 dX9_vessel_55 rfl (lv_at hl 0 rfl) ?_
      obtain ⟨h11, v9, e10, hf⟩ := hy_ga_some hf
      refine hy_iald B w (cwq_29 G) h11 e10 dX9_vessel_56 ?_
      exact absurd (congrArg (fun z => z.2.2) (Option.some.inj hf)).symm ho
    · rw [if_neg c8] at hf
      by_cases c12 : x2 = 1
      · rw [if_pos c12] at hf
        have c12e : Int32.toInt x2 = 1 := by rw [c12]; rfl
        refine lv_tableIn (tgt := 58) B.1.1 B.1.2.1 dX9_vessel_22 (by rw [c12e]; decide) (by rw [c12e]; decide) (by rw [c12e]; rfl) (by decide) ?_
        refine lv_aload_n B.1.1 B.1.2.1 dX9_vessel_58 rfl (lv_at hl 1 rfl) ?_
        refine hy_get (k := 7) (v := .ref (G.2.2.2.1 8)) B w (cwq_0 G) rfl in_X9_vessel_X9 (by decide) (by decide +kernel) rfl dX9_vessel_59 ?_
        refine hy_getN (k := 3) (v := .ref (G.2.2.2.1 31)) B w (cwq_8 G) rfl in_X9_vessel_X5 (by decide) (by decide +kernel) rfl dX9_vessel_62 ?_
        refine lv_iload_n B.1.1 B.1.2.1 dX9_vessel_65 rfl (lv_at hl 0 rfl) ?_
        obtain ⟨h15, v13, e14, hf⟩ := hy_ga_some hf
        refine hy_iald B w (cwq_31 G) h15 e14 dX9_vessel_66 ?_
        exact absurd (congrArg (fun z => z.2.2) (Option.some.inj hf)).symm ho
      · rw [if_neg c12] at hf
        by_cases c16 : x2 = 2
        · rw [if_pos c16] at hf
          have c16e : Int32.toInt x2 = 2 := by rw [c16]; rfl
          refine lv_tableIn (tgt := 68) B.1.1 B.1.2.1 dX9_vessel_22 (by rw [c16e]; decide) (by rw [c16e]; decide) (by rw [c16e]; rfl) (by decide) ?_
          refine lv_iload_n B.1.1 B.1.2.1 dX9_vessel_68 rfl (lv_at hl 0 rfl) ?_
          exact absurd (congrArg (fun z => z.2.2) (Option.some.inj hf)).symm ho
        · rw [if_neg c16] at hf
          have c8t := lv_neT (a := 0) c8 rfl
          have c12t := lv_neT (a := 1) c12 rfl
          have c16t := lv_neT (a := 2) c16 rfl
          refine lv_tableOut (tgt := 70) B.1.1 B.1.2.1 dX9_vessel_22 (by omega) (by decide) ?_
          have he := Option.some.inj hf
          subst he
          exact hy_throwN (k := 4) (text := "what is 0 to 2") B w hT ⟨by have := hR.1; omega, by have := hR.2; omega⟩ (by decide +kernel) (by decide +kernel) (by decide +kernel) (by decide +kernel) (by decide +kernel) (by decide +kernel) (by decide +kernel) (by decide +kernel) hl.1 dX9_vessel_70 dX9_vessel_73 dX9_vessel_74 dX9_vessel_76 dX9_vessel_79
  · exact hy_tsv (As := [.int x1, .int (σ.2 7)]) (rest := []) hA B w hT (fun sz => tX9_needIndex l hT.1 G sz σ x1 (σ.2 7) _ h3 h4) (cwS 2 B.1.2.2.2.2 gX9_vessel_X9_needIndex rfl rfl rfl (by decide +kernel) ⟨by have := hR.1; show 6 + 1 ≤ _; omega, by have := hR.2; show 8 + (2 + 11) + 82 ≤ _; omega⟩) rfl hl.1 rfl (Nat.le_of_ble_eq_true rfl) dX9_vessel_8
set_option maxHeartbeats 4000000 in
set_option maxRecDepth 100000 in
theorem tX9_vessel (l : Launch) (hlt : l.stackTraces = false) (G : hy_G) (sz : Nat) (σ : hy_S) (x1 : Int32) (x2 : Int32) (o : hy_S × Int32 × Nat) (hf : fX9_vessel σ x1 x2 = some o) (ho : ¬ o.2.2 = 0) : hy_MT l yX9_vessel wsX9_vessel ({ frames := 7, cells := 1, slots := 6, locals := 103 }) cw G σ sz [.ref (G.2.2.2.1 0), .int x1, .int x2] o := by
  refine vx_ofW (cc := cX9_vessel) (maxL := 4) (ret := (some .int)) (by decide +kernel) rfl ?_
  intro p e s m args below meth c s₁ B hml h0 hv
  obtain ⟨rfl, hsz, hP, hK, hD0, hN⟩ := hv
  have hx := B.exec
  have hb := B.bytes
  have hr := B.returns
  have hts := atoms_spec (ws := wsX9_vessel) B.pre
  have hown : s.vm.findClass RX9 = some m.cls := findClass_of_methodNamed B.named
  have hlocks := B.notSynchronized
  subst hsz
  have hD := hD0.self (sz := s.heap.size)
  have hA : ∀ q : Nat, s.heap.size ≤ q → va_A (cw G σ) s.heap.size q := fun q h => Or.inr h
  have hS : va_S (va_A (cw G σ) s.heap.size) s.heap s.heap [] := va_S.rf
  have hl := lv_entry ([.ref (G.2.2.2.1 0), .int x1, .int x2]) (n := 4) (Nat.le_of_ble_eq_true rfl)
  rw [lg_entry_eq]
  generalize (lg_sl ([.ref (G.2.2.2.1 0), .int x1, .int x2]) ++ List.replicate (4 - (lg_sl ([.ref (G.2.2.2.1 0), .int x1, .int x2])).length) Slot.unset).toArray = ls at hl ⊢
  have hl : lv_has ls 4 [(0, .ref (G.2.2.2.1 0)), (1, .int x1), (2, .int x2)] := hl
  exact tbX9_vessel_0 (A := va_A (cw G σ) s.heap.size) hA ⟨⟨hx, hb, hml, hown, hts⟩, hK, hN⟩ ⟨Nat.le_of_ble_eq_true rfl, Nat.le_of_ble_eq_true rfl⟩ (o := o) ho ⟨hlt, hlocks, h0, Nat.le_refl _, Nat.le_refl _⟩ σ x1 x2 _ _ _ hf ⟨hP, hD, hS⟩ hl
theorem in_X9_tell_X8 : ∀ w ∈ u_ws RX8 TX8 10, w ∈ wsX9_tell := fun _ h => xt1 (xl (xl (xl (xr (h)))))
theorem in_X9_tell_X9 : ∀ w ∈ u_ws RX9 TX9 11, w ∈ wsX9_tell := fun _ h => xt1 (xl (xl (xl (xl (xr (h))))))
noncomputable def fX9_tell (σ : hy_S) (x1 : Int32) (x2 : Int32) (x3 : Int32) : Option (hy_S × Int32 × Nat) := hy_bt (fX9_needIndex σ x1 12) some (fun σ1 v2 => hy_bt (fX9_needIndex σ1 x2 12) some (fun σ5 v6 => (if x1 = x2 then some (σ5, 0, 2) else hy_bt (fX9_needNumber σ5 x3 (-500) 500) some (fun σ10 v11 => hy_bt (fX9_needPlace σ10 (σ10.2 8) 60) some (fun σ14 v15 => hy_bd (fX8_add σ14 x1 x2 x3 (σ14.2 1)) (fun σ18 v19 => some (σ18, v19, 0)))))))
set_option maxHeartbeats 4000000 in
set_option maxRecDepth 100000 in
theorem bX9_tell_0 (hA : ∀ q : Nat, s.heap.size ≤ q → A q) (B : hy_B RX9 cX9_tell 4 wsX9_tell G A p s m args c) (hR : 7 ≤ R.frames ∧ 104 ≤ R.locals) {o : hy_S × Int32 × Nat}  (ho : o.2.2 = 0) (hret : ∀ (σ : hy_S) (v : Int32) (pc : Nat) (H : Heap) (locs : List Loc) (ls : Array Slot), o = (σ, v, 0) → hy_w cw G A s σ H locs → decode cX9_tell pc = .ok (.ireturn, 1) → W p l e R s m args below meth c H locs 0 0 Q (F0 m pc ls [.int v])) (σ : hy_S) (x1 : Int32) (x2 : Int32) (x3 : Int32) (H : Heap) (locs : List Loc) (ls : Array Slot) (hf : fX9_tell σ x1 x2 x3 = some o) (w : hy_w cw G A s σ H locs) (hl : lv_has ls 4 [(0, .ref (G.2.2.2.1 0)), (1, .int x1), (2, .int x2), (3, .int x3)]) : W p l e R s m args below meth c H locs 0 0 Q (F0 m 0 ls []) := by
  unfold fX9_tell at hf
  refine lv_iload_n B.1.1 B.1.2.1 dX9_tell_0 rfl (lv_at hl 1 rfl) ?_
  refine lv_bipush (v := 12) B.1.1 B.1.2.1 dX9_tell_1 (by decide) ?_
  rcases hy_bt_some hf with ⟨σ1, v2, h3, hf⟩ | ⟨h3, h4⟩
  · refine hy_csv (As := [.int x1, .int 12]) (rest := []) (o := (σ1, v2)) cw_fix hA B w (fun sz => mX9_needIndex l G sz σ x1 12 _ h3 rfl) (cwS 2 B.1.2.2.2.2 gX9_tell_X9_needIndex rfl rfl rfl (by decide +kernel) ⟨by have := hR.1; show 6 + 1 ≤ _; omega, by have := hR.2; show 8 + (2 + 11) + 82 ≤ _; omega⟩) rfl hl.1 rfl (Nat.le_of_ble_eq_true rfl) dX9_tell_3 ⟨Nat.zero_le _, Nat.zero_le _⟩ (fun H locs w => ?_)
    refine lv_iload_n B.1.1 B.1.2.1 dX9_tell_6 rfl (lv_at hl 2 rfl) ?_
    refine lv_bipush (v := 12) B.1.1 B.1.2.1 dX9_tell_7 (by decide) ?_
    rcases hy_bt_some hf with ⟨σ5, v6, h7, hf⟩ | ⟨h7, h8⟩
    · refine hy_csv (As := [.int x2, .int 12]) (rest := []) (o := (σ5, v6)) cw_fix hA B w (fun sz => mX9_needIndex l G sz σ1 x2 12 _ h7 rfl) (cwS 2 B.1.2.2.2.2 gX9_tell_X9_needIndex rfl rfl rfl (by decide +kernel) ⟨by have := hR.1; show 6 + 1 ≤ _; omega, by have := hR.2; show 8 + (2 + 11) + 82 ≤ _; omega⟩) rfl hl.1 rfl (Nat.le_of_ble_eq_true rfl) dX9_tell_9 ⟨Nat.zero_le _, Nat.zero_le _⟩ (fun H locs w => ?_)
      refine lv_iload_n B.1.1 B.1.2.1 dX9_tell_12 rfl (lv_at hl 1 rfl) ?_
      refine lv_iload_n B.1.1 B.1.2.1 dX9_tell_13 rfl (lv_at hl 2 rfl) ?_
      refine lv_icmp_ne (tgt := 27) B.1.1 B.1.2.1 dX9_tell_14 (by decide) (fun c9 => ?_) (fun c9 => ?_)
      · rw [if_neg c9] at hf
        refine lv_iload_n B.1.1 B.1.2.1 dX9_tell_27 rfl (lv_at hl 3 rfl) ?_
        refine lv_sipush (v := (-500)) B.1.1 B.1.2.1 dX9_tell_28 (by decide) ?_
        refine lv_sipush (v := 500) B.1.1 B.1.2.1 dX9_tell_31 (by decide) ?_
        rcases hy_bt_some hf with ⟨σ10, v11, h12, hf⟩ | ⟨h12, h13⟩
        · refine hy_csv (As := [.int x3, .int (-500), .int 500]) (rest := []) (o := (σ10, v11)) cw_fix hA B w (fun sz => mX9_needNumber l G sz σ5 x3 (-500) 500 _ h12 rfl) (cwS 3 B.1.2.2.2.2 gX9_tell_X9_needNumber rfl rfl rfl (by decide +kernel) ⟨by have := hR.1; show 6 + 1 ≤ _; omega, by have := hR.2; show 8 + (3 + 11) + 82 ≤ _; omega⟩) rfl hl.1 rfl (Nat.le_of_ble_eq_true rfl) dX9_tell_34 ⟨Nat.zero_le _, Nat.zero_le _⟩ (fun H locs w => ?_)
          refine lv_aload_n B.1.1 B.1.2.1 dX9_tell_37 rfl (lv_at hl 0 rfl) ?_
          refine hy_get (k := 8) (v := .ref (G.2.2.2.1 9)) B w (cwq_0 G) rfl in_X9_tell_X9 (by decide) (by decide +kernel) rfl dX9_tell_38 ?_
          refine hy_getN (k := 8) (v := .int (σ10.2 8)) B w (cwq_9 G) rfl in_X9_tell_X8 (by decide) (by decide +kernel) rfl dX9_tell_41 ?_
          refine lv_bipush (v := 60) B.1.1 B.1.2.1 dX9_tell_44 (by decide) ?_
          rcases hy_bt_some hf with ⟨σ14, v15, h16, hf⟩ | ⟨h16, h17⟩
          · refine hy_csv (As := [.int (σ10.2 8), .int 60]) (rest := []) (o := (σ14, v15)) cw_fix hA B w (fun sz => mX9_needPlace l G sz σ10 (σ10.2 8) 60 _ h16 rfl) (cwS 2 B.1.2.2.2.2 gX9_tell_X9_needPlace rfl rfl rfl (by decide +kernel) ⟨by have := hR.1; show 6 + 1 ≤ _; omega, by have := hR.2; show 8 + (2 + 11) + 82 ≤ _; omega⟩) rfl hl.1 rfl (Nat.le_of_ble_eq_true rfl) dX9_tell_46 ⟨Nat.zero_le _, Nat.zero_le _⟩ (fun H locs w => ?_)
            refine lv_aload_n B.1.1 B.1.2.1 dX9_tell_49 rfl (lv_at hl 0 rfl) ?_
            refine hy_get (k := 8) (v := .ref (G.2.2.2.1 9)) B w (cwq_0 G) rfl in_X9_tell_X9 (by decide) (by decide +kernel) rfl dX9_tell_50 ?_
            refine lv_iload_n B.1.1 B.1.2.1 dX9_tell_53 rfl (lv_at hl 1 rfl) ?_
            refine lv_iload_n B.1.1 B.1.2.1 dX9_tell_54 rfl (lv_at hl 2 rfl) ?_
            refine lv_iload_n B.1.1 B.1.2.1 dX9_tell_55 rfl (lv_at hl 3 rfl) ?_
            refine lv_aload_n B.1.1 B.1.2.1 dX9_tell_56 rfl (lv_at hl 0 rfl) ?_
            refine hy_get (k := 10) (v := .int (σ14.2 1)) B w (cwq_0 G) rfl in_X9_tell_X9 (by decide) (by decide +kernel) rfl dX9_tell_57 ?_
            obtain ⟨σ18, v19, h20, hf⟩ := hy_bd_some hf
            refine hy_cv (As := [.int x1, .int x2, .int x3, .int (σ14.2 1)]) (rest := []) (o := (σ18, v19)) cw_fix hA B w (fun sz => mX8_add l G sz σ14 x1 x2 x3 (σ14.2 1) _ h20) (cwV 4 B.1.2.2.2.2 gX9_tell_X8_add rfl rfl rfl (by decide +kernel) ⟨by have := hR.1; show 0 + 1 ≤ _; omega, by have := hR.2; show 8 + (5 + 11) + 0 ≤ _; omega⟩) rfl (cwq_9 G σ14) rfl hl.1 rfl (Nat.le_of_ble_eq_true rfl) dX9_tell_60 ⟨Nat.zero_le _, Nat.zero_le _⟩ (fun H locs w => ?_)
            exact hret _ _ _ _ _ _ (Option.some.inj hf).symm w dX9_tell_63
          · exact absurd ho h17
        · exact absurd ho h13
      · rw [if_pos c9] at hf
        exact absurd ((congrArg (fun z => z.2.2) (Option.some.inj hf)).trans ho) (Nat.succ_ne_zero _)
    · exact absurd ho h8
  · exact absurd ho h4
set_option maxHeartbeats 4000000 in
set_option maxRecDepth 100000 in
theorem mX9_tell (l : Launch) (G : hy_G) (sz : Nat) (σ : hy_S) (x1 : Int32) (x2 : Int32) (x3 : Int32) (o : hy_S × Int32 × Nat) (hf : fX9_tell σ x1 x2 x3 = some o) (ho : o.2.2 = 0) : hy_M l yX9_tell wsX9_tell ({ frames := 7, cells := 0, slots := 0, locals := 104 }) cw G σ sz [.ref (G.2.2.2.1 0), .int x1, .int x2, .int x3] (o.1, o.2.1) := by
  refine Met.ofW (cc := cX9_tell) (maxL := 4) (ret := (some .int)) (by decide +kernel) rfl ?_
  intro p e s m args below meth c s₁ B hml hv
  obtain ⟨rfl, hsz, hP, hK, hD0, hN⟩ := hv
  have hx := B.exec
  have hb := B.bytes
  have hr := B.returns
  have hts := atoms_spec (ws := wsX9_tell) B.pre
  have hown : s.vm.findClass RX9 = some m.cls := findClass_of_methodNamed B.named
  have hlocks := B.notSynchronized
  subst hsz
  have hD := hD0.self (sz := s.heap.size)
  have hA : ∀ q : Nat, s.heap.size ≤ q → va_A (cw G σ) s.heap.size q := fun q h => Or.inr h
  have hS : va_S (va_A (cw G σ) s.heap.size) s.heap s.heap [] := va_S.rf
  have hl := lv_entry ([.ref (G.2.2.2.1 0), .int x1, .int x2, .int x3]) (n := 4) (Nat.le_of_ble_eq_true rfl)
  rw [lg_entry_eq]
  generalize (lg_sl ([.ref (G.2.2.2.1 0), .int x1, .int x2, .int x3]) ++ List.replicate (4 - (lg_sl ([.ref (G.2.2.2.1 0), .int x1, .int x2, .int x3])).length) Slot.unset).toArray = ls at hl ⊢
  have hl : lv_has ls 4 [(0, .ref (G.2.2.2.1 0)), (1, .int x1), (2, .int x2), (3, .int x3)] := hl
  refine bX9_tell_0 (A := va_A (cw G σ) s.heap.size) hA ⟨⟨hx, hb, hml, hown, hts⟩, hK, hN⟩ ⟨Nat.le_of_ble_eq_true rfl, Nat.le_of_ble_eq_true rfl⟩ (o := o) ho (fun τ v pc H locs ls ho w d => ?_) σ x1 x2 x3 _ _ _ hf ⟨hP, hD, hS⟩ hl
  exact W.iret hx hb hr (fun t ht hW => ⟨⟨v, τ, rfl, ⟨by rw [ho], by rw [ho]⟩, by have h9 := w.1; rw [← ht] at h9; exact h9⟩, w.2.2.F ht⟩) w.2.2.2.2 d
set_option maxHeartbeats 4000000 in
set_option maxRecDepth 100000 in
theorem tbX9_tell_0 (hA : ∀ q : Nat, s.heap.size ≤ q → A q) (B : hy_B RX9 cX9_tell 4 wsX9_tell G A p s m args c) (hR : 7 ≤ R.frames ∧ 104 ≤ R.locals) {o : hy_S × Int32 × Nat}  (ho : ¬ o.2.2 = 0) (hT : hy_TC l R meth c) (σ : hy_S) (x1 : Int32) (x2 : Int32) (x3 : Int32) (H : Heap) (locs : List Loc) (ls : Array Slot) (hf : fX9_tell σ x1 x2 x3 = some o) (w : hy_w cw G A s σ H locs) (hl : lv_has ls 4 [(0, .ref (G.2.2.2.1 0)), (1, .int x1), (2, .int x2), (3, .int x3)]) : W p l e R s m args below meth c H locs 0 0 (vx_MQ below Qc (hy_X cw G o A) args s 1 6 A) (F0 m 0 ls []) := by
  unfold fX9_tell at hf
  refine lv_iload_n B.1.1 B.1.2.1 dX9_tell_0 rfl (lv_at hl 1 rfl) ?_
  refine lv_bipush (v := 12) B.1.1 B.1.2.1 dX9_tell_1 (by decide) ?_
  rcases hy_bt_some hf with ⟨σ1, v2, h3, hf⟩ | ⟨h3, h4⟩
  · refine hy_csv (As := [.int x1, .int 12]) (rest := []) (o := (σ1, v2)) cw_fix hA B w (fun sz => mX9_needIndex l G sz σ x1 12 _ h3 rfl) (cwS 2 B.1.2.2.2.2 gX9_tell_X9_needIndex rfl rfl rfl (by decide +kernel) ⟨by have := hR.1; show 6 + 1 ≤ _; omega, by have := hR.2; show 8 + (2 + 11) + 82 ≤ _; omega⟩) rfl hl.1 rfl (Nat.le_of_ble_eq_true rfl) dX9_tell_3 ⟨Nat.zero_le _, Nat.zero_le _⟩ (fun H locs w => ?_)
    refine lv_iload_n B.1.1 B.1.2.1 dX9_tell_6 rfl (lv_at hl 2 rfl) ?_
    refine lv_bipush (v := 12) B.1.1 B.1.2.1 dX9_tell_7 (by decide) ?_
    rcases hy_bt_some hf with ⟨σ5, v6, h7, hf⟩ | ⟨h7, h8⟩
    · refine hy_csv (As := [.int x2, .int 12]) (rest := []) (o := (σ5, v6)) cw_fix hA B w (fun sz => mX9_needIndex l G sz σ1 x2 12 _ h7 rfl) (cwS 2 B.1.2.2.2.2 gX9_tell_X9_needIndex rfl rfl rfl (by decide +kernel) ⟨by have := hR.1; show 6 + 1 ≤ _; omega, by have := hR.2; show 8 + (2 + 11) + 82 ≤ _; omega⟩) rfl hl.1 rfl (Nat.le_of_ble_eq_true rfl) dX9_tell_9 ⟨Nat.zero_le _, Nat.zero_le _⟩ (fun H locs w => ?_)
      refine lv_iload_n B.1.1 B.1.2.1 dX9_tell_12 rfl (lv_at hl 1 rfl) ?_
      refine lv_iload_n B.1.1 B.1.2.1 dX9_tell_13 rfl (lv_at hl 2 rfl) ?_
      refine lv_icmp_ne (tgt := 27) B.1.1 B.1.2.1 dX9_tell_14 (by decide) (fun c9 => ?_) (fun c9 => ?_)
      · rw [if_neg c9] at hf
        refine lv_iload_n B.1.1 B.1.2.1 dX9_tell_27 rfl (lv_at hl 3 rfl) ?_
        refine lv_sipush (v := (-500)) B.1.1 B.1.2.1 dX9_tell_28 (by decide) ?_
        refine lv_sipush (v := 500) B.1.1 B.1.2.1 dX9_tell_31 (by decide) ?_
        rcases hy_bt_some hf with ⟨σ10, v11, h12, hf⟩ | ⟨h12, h13⟩
        · refine hy_csv (As := [.int x3, .int (-500), .int 500]) (rest := []) (o := (σ10, v11)) cw_fix hA B w (fun sz => mX9_needNumber l G sz σ5 x3 (-500) 500 _ h12 rfl) (cwS 3 B.1.2.2.2.2 gX9_tell_X9_needNumber rfl rfl rfl (by decide +kernel) ⟨by have := hR.1; show 6 + 1 ≤ _; omega, by have := hR.2; show 8 + (3 + 11) + 82 ≤ _; omega⟩) rfl hl.1 rfl (Nat.le_of_ble_eq_true rfl) dX9_tell_34 ⟨Nat.zero_le _, Nat.zero_le _⟩ (fun H locs w => ?_)
          refine lv_aload_n B.1.1 B.1.2.1 dX9_tell_37 rfl (lv_at hl 0 rfl) ?_
          refine hy_get (k := 8) (v := .ref (G.2.2.2.1 9)) B w (cwq_0 G) rfl in_X9_tell_X9 (by decide) (by decide +kernel) rfl dX9_tell_38 ?_
          refine hy_getN (k := 8) (v := .int (σ10.2 8)) B w (cwq_9 G) rfl in_X9_tell_X8 (by decide) (by decide +kernel) rfl dX9_tell_41 ?_
          refine lv_bipush (v := 60) B.1.1 B.1.2.1 dX9_tell_44 (by decide) ?_
          rcases hy_bt_some hf with ⟨σ14, v15, h16, hf⟩ | ⟨h16, h17⟩
          · refine hy_csv (As := [.int (σ10.2 8), .int 60]) (rest := []) (o := (σ14, v15)) cw_fix hA B w (fun sz => mX9_needPlace l G sz σ10 (σ10.2 8) 60 _ h16 rfl) (cwS 2 B.1.2.2.2.2 gX9_tell_X9_needPlace rfl rfl rfl (by decide +kernel) ⟨by have := hR.1; show 6 + 1 ≤ _; omega, by have := hR.2; show 8 + (2 + 11) + 82 ≤ _; omega⟩) rfl hl.1 rfl (Nat.le_of_ble_eq_true rfl) dX9_tell_46 ⟨Nat.zero_le _, Nat.zero_le _⟩ (fun H locs w => ?_)
            refine lv_aload_n B.1.1 B.1.2.1 dX9_tell_49 rfl (lv_at hl 0 rfl) ?_
            refine hy_get (k := 8) (v := .ref (G.2.2.2.1 9)) B w (cwq_0 G) rfl in_X9_tell_X9 (by decide) (by decide +kernel) rfl dX9_tell_50 ?_
            refine lv_iload_n B.1.1 B.1.2.1 dX9_tell_53 rfl (lv_at hl 1 rfl) ?_
            refine lv_iload_n B.1.1 B.1.2.1 dX9_tell_54 rfl (lv_at hl 2 rfl) ?_
            refine lv_iload_n B.1.1 B.1.2.1 dX9_tell_55 rfl (lv_at hl 3 rfl) ?_
            refine lv_aload_n B.1.1 B.1.2.1 dX9_tell_56 rfl (lv_at hl 0 rfl) ?_
            refine hy_get (k := 10) (v := .int (σ14.2 1)) B w (cwq_0 G) rfl in_X9_tell_X9 (by decide) (by decide +kernel) rfl dX9_tell_57 ?_
            obtain ⟨σ18, v19, h20, hf⟩ := hy_bd_some hf
            refine hy_cv (As := [.int x1, .int x2, .int x3, .int (σ14.2 1)]) (rest := []) (o := (σ18, v19)) cw_fix hA B w (fun sz => mX8_add l G sz σ14 x1 x2 x3 (σ14.2 1) _ h20) (cwV 4 B.1.2.2.2.2 gX9_tell_X8_add rfl rfl rfl (by decide +kernel) ⟨by have := hR.1; show 0 + 1 ≤ _; omega, by have := hR.2; show 8 + (5 + 11) + 0 ≤ _; omega⟩) rfl (cwq_9 G σ14) rfl hl.1 rfl (Nat.le_of_ble_eq_true rfl) dX9_tell_60 ⟨Nat.zero_le _, Nat.zero_le _⟩ (fun H locs w => ?_)
            exact absurd (congrArg (fun z => z.2.2) (Option.some.inj hf)).symm ho
          · exact hy_tsv (As := [.int (σ10.2 8), .int 60]) (rest := []) hA B w hT (fun sz => tX9_needPlace l hT.1 G sz σ10 (σ10.2 8) 60 _ h16 h17) (cwS 2 B.1.2.2.2.2 gX9_tell_X9_needPlace rfl rfl rfl (by decide +kernel) ⟨by have := hR.1; show 6 + 1 ≤ _; omega, by have := hR.2; show 8 + (2 + 11) + 82 ≤ _; omega⟩) rfl hl.1 rfl (Nat.le_of_ble_eq_true rfl) dX9_tell_46
        · exact hy_tsv (As := [.int x3, .int (-500), .int 500]) (rest := []) hA B w hT (fun sz => tX9_needNumber l hT.1 G sz σ5 x3 (-500) 500 _ h12 h13) (cwS 3 B.1.2.2.2.2 gX9_tell_X9_needNumber rfl rfl rfl (by decide +kernel) ⟨by have := hR.1; show 6 + 1 ≤ _; omega, by have := hR.2; show 8 + (3 + 11) + 82 ≤ _; omega⟩) rfl hl.1 rfl (Nat.le_of_ble_eq_true rfl) dX9_tell_34
      · rw [if_pos c9] at hf
        have he := Option.some.inj hf
        subst he
        exact hy_throwS (k := 2) (text := "the two stamps are one") B w hT ⟨by have := hR.1; omega, by have := hR.2; omega⟩ (by decide +kernel) (by decide +kernel) (by decide +kernel) (by decide +kernel) (by decide +kernel) (by decide +kernel) (by decide +kernel) (by decide +kernel) hl.1 dX9_tell_17 dX9_tell_20 dX9_tell_21 dX9_tell_23 dX9_tell_26
    · exact hy_tsv (As := [.int x2, .int 12]) (rest := []) hA B w hT (fun sz => tX9_needIndex l hT.1 G sz σ1 x2 12 _ h7 h8) (cwS 2 B.1.2.2.2.2 gX9_tell_X9_needIndex rfl rfl rfl (by decide +kernel) ⟨by have := hR.1; show 6 + 1 ≤ _; omega, by have := hR.2; show 8 + (2 + 11) + 82 ≤ _; omega⟩) rfl hl.1 rfl (Nat.le_of_ble_eq_true rfl) dX9_tell_9
  · exact hy_tsv (As := [.int x1, .int 12]) (rest := []) hA B w hT (fun sz => tX9_needIndex l hT.1 G sz σ x1 12 _ h3 h4) (cwS 2 B.1.2.2.2.2 gX9_tell_X9_needIndex rfl rfl rfl (by decide +kernel) ⟨by have := hR.1; show 6 + 1 ≤ _; omega, by have := hR.2; show 8 + (2 + 11) + 82 ≤ _; omega⟩) rfl hl.1 rfl (Nat.le_of_ble_eq_true rfl) dX9_tell_3
set_option maxHeartbeats 4000000 in
set_option maxRecDepth 100000 in
theorem tX9_tell (l : Launch) (hlt : l.stackTraces = false) (G : hy_G) (sz : Nat) (σ : hy_S) (x1 : Int32) (x2 : Int32) (x3 : Int32) (o : hy_S × Int32 × Nat) (hf : fX9_tell σ x1 x2 x3 = some o) (ho : ¬ o.2.2 = 0) : hy_MT l yX9_tell wsX9_tell ({ frames := 7, cells := 1, slots := 6, locals := 104 }) cw G σ sz [.ref (G.2.2.2.1 0), .int x1, .int x2, .int x3] o := by
  refine vx_ofW (cc := cX9_tell) (maxL := 4) (ret := (some .int)) (by decide +kernel) rfl ?_
  intro p e s m args below meth c s₁ B hml h0 hv
  obtain ⟨rfl, hsz, hP, hK, hD0, hN⟩ := hv
  have hx := B.exec
  have hb := B.bytes
  have hr := B.returns
  have hts := atoms_spec (ws := wsX9_tell) B.pre
  have hown : s.vm.findClass RX9 = some m.cls := findClass_of_methodNamed B.named
  have hlocks := B.notSynchronized
  subst hsz
  have hD := hD0.self (sz := s.heap.size)
  have hA : ∀ q : Nat, s.heap.size ≤ q → va_A (cw G σ) s.heap.size q := fun q h => Or.inr h
  have hS : va_S (va_A (cw G σ) s.heap.size) s.heap s.heap [] := va_S.rf
  have hl := lv_entry ([.ref (G.2.2.2.1 0), .int x1, .int x2, .int x3]) (n := 4) (Nat.le_of_ble_eq_true rfl)
  rw [lg_entry_eq]
  generalize (lg_sl ([.ref (G.2.2.2.1 0), .int x1, .int x2, .int x3]) ++ List.replicate (4 - (lg_sl ([.ref (G.2.2.2.1 0), .int x1, .int x2, .int x3])).length) Slot.unset).toArray = ls at hl ⊢
  have hl : lv_has ls 4 [(0, .ref (G.2.2.2.1 0)), (1, .int x1), (2, .int x2), (3, .int x3)] := hl
  exact tbX9_tell_0 (A := va_A (cw G σ) s.heap.size) hA ⟨⟨hx, hb, hml, hown, hts⟩, hK, hN⟩ ⟨Nat.le_of_ble_eq_true rfl, Nat.le_of_ble_eq_true rfl⟩ (o := o) ho ⟨hlt, hlocks, h0, Nat.le_refl _, Nat.le_refl _⟩ σ x1 x2 x3 _ _ _ hf ⟨hP, hD, hS⟩ hl
theorem in_X9_bound_X8 : ∀ w ∈ u_ws RX8 TX8 10, w ∈ wsX9_bound := fun _ h => xt1 (xl (xl (xl (xr (h)))))
theorem in_X9_bound_X9 : ∀ w ∈ u_ws RX9 TX9 11, w ∈ wsX9_bound := fun _ h => xt1 (xl (xl (xl (xl (xr (h))))))
noncomputable def fX9_bound (σ : hy_S) (x1 : Int32) (x2 : Int32) (x3 : Int32) : Option (hy_S × Int32 × Nat) := hy_bt (fX9_needIndex σ x1 12) some (fun σ1 v2 => hy_bt (fX9_needNumber σ1 x2 0 1000) some (fun σ5 v6 => hy_bt (fX9_needPlace σ5 (σ5.2 8) 60) some (fun σ9 v10 => (if x3 = 0 then hy_bd (fX8_add σ9 12 x1 x2 (σ9.2 1)) (fun σ14 v15 => some (σ14, v15, 0)) else hy_bd (fX8_add σ9 x1 12 (-x2) (σ9.2 1)) (fun σ17 v18 => some (σ17, v18, 0))))))
set_option maxHeartbeats 4000000 in
set_option maxRecDepth 100000 in
theorem bX9_bound_0 (hA : ∀ q : Nat, s.heap.size ≤ q → A q) (B : hy_B RX9 cX9_bound 4 wsX9_bound G A p s m args c) (hR : 7 ≤ R.frames ∧ 104 ≤ R.locals) {o : hy_S × Int32 × Nat}  (ho : o.2.2 = 0) (hret : ∀ (σ : hy_S) (v : Int32) (pc : Nat) (H : Heap) (locs : List Loc) (ls : Array Slot), o = (σ, v, 0) → hy_w cw G A s σ H locs → decode cX9_bound pc = .ok (.ireturn, 1) → W p l e R s m args below meth c H locs 0 0 Q (F0 m pc ls [.int v])) (σ : hy_S) (x1 : Int32) (x2 : Int32) (x3 : Int32) (H : Heap) (locs : List Loc) (ls : Array Slot) (hf : fX9_bound σ x1 x2 x3 = some o) (w : hy_w cw G A s σ H locs) (hl : lv_has ls 4 [(0, .ref (G.2.2.2.1 0)), (1, .int x1), (2, .int x2), (3, .int x3)]) : W p l e R s m args below meth c H locs 0 0 Q (F0 m 0 ls []) := by
  unfold fX9_bound at hf
  refine lv_iload_n B.1.1 B.1.2.1 dX9_bound_0 rfl (lv_at hl 1 rfl) ?_
  refine lv_bipush (v := 12) B.1.1 B.1.2.1 dX9_bound_1 (by decide) ?_
  rcases hy_bt_some hf with ⟨σ1, v2, h3, hf⟩ | ⟨h3, h4⟩
  · refine hy_csv (As := [.int x1, .int 12]) (rest := []) (o := (σ1, v2)) cw_fix hA B w (fun sz => mX9_needIndex l G sz σ x1 12 _ h3 rfl) (cwS 2 B.1.2.2.2.2 gX9_bound_X9_needIndex rfl rfl rfl (by decide +kernel) ⟨by have := hR.1; show 6 + 1 ≤ _; omega, by have := hR.2; show 8 + (2 + 11) + 82 ≤ _; omega⟩) rfl hl.1 rfl (Nat.le_of_ble_eq_true rfl) dX9_bound_3 ⟨Nat.zero_le _, Nat.zero_le _⟩ (fun H locs w => ?_)
    refine lv_iload_n B.1.1 B.1.2.1 dX9_bound_6 rfl (lv_at hl 2 rfl) ?_
    refine lv_iconst (v := 0) B.1.1 B.1.2.1 dX9_bound_7 (by decide) ?_
    refine lv_sipush (v := 1000) B.1.1 B.1.2.1 dX9_bound_8 (by decide) ?_
    rcases hy_bt_some hf with ⟨σ5, v6, h7, hf⟩ | ⟨h7, h8⟩
    · refine hy_csv (As := [.int x2, .int 0, .int 1000]) (rest := []) (o := (σ5, v6)) cw_fix hA B w (fun sz => mX9_needNumber l G sz σ1 x2 0 1000 _ h7 rfl) (cwS 3 B.1.2.2.2.2 gX9_bound_X9_needNumber rfl rfl rfl (by decide +kernel) ⟨by have := hR.1; show 6 + 1 ≤ _; omega, by have := hR.2; show 8 + (3 + 11) + 82 ≤ _; omega⟩) rfl hl.1 rfl (Nat.le_of_ble_eq_true rfl) dX9_bound_11 ⟨Nat.zero_le _, Nat.zero_le _⟩ (fun H locs w => ?_)
      refine lv_aload_n B.1.1 B.1.2.1 dX9_bound_14 rfl (lv_at hl 0 rfl) ?_
      refine hy_get (k := 8) (v := .ref (G.2.2.2.1 9)) B w (cwq_0 G) rfl in_X9_bound_X9 (by decide) (by decide +kernel) rfl dX9_bound_15 ?_
      refine hy_getN (k := 8) (v := .int (σ5.2 8)) B w (cwq_9 G) rfl in_X9_bound_X8 (by decide) (by decide +kernel) rfl dX9_bound_18 ?_
      refine lv_bipush (v := 60) B.1.1 B.1.2.1 dX9_bound_21 (by decide) ?_
      rcases hy_bt_some hf with ⟨σ9, v10, h11, hf⟩ | ⟨h11, h12⟩
      · refine hy_csv (As := [.int (σ5.2 8), .int 60]) (rest := []) (o := (σ9, v10)) cw_fix hA B w (fun sz => mX9_needPlace l G sz σ5 (σ5.2 8) 60 _ h11 rfl) (cwS 2 B.1.2.2.2.2 gX9_bound_X9_needPlace rfl rfl rfl (by decide +kernel) ⟨by have := hR.1; show 6 + 1 ≤ _; omega, by have := hR.2; show 8 + (2 + 11) + 82 ≤ _; omega⟩) rfl hl.1 rfl (Nat.le_of_ble_eq_true rfl) dX9_bound_23 ⟨Nat.zero_le _, Nat.zero_le _⟩ (fun H locs w => ?_)
        refine lv_iload_n B.1.1 B.1.2.1 dX9_bound_26 rfl (lv_at hl 3 rfl) ?_
        refine lv_if_eq (tgt := 49) B.1.1 B.1.2.1 dX9_bound_27 (by decide) (fun c13 => ?_) (fun c13 => ?_)
        · rw [if_pos c13] at hf
          refine lv_aload_n B.1.1 B.1.2.1 dX9_bound_49 rfl (lv_at hl 0 rfl) ?_
          refine hy_get (k := 8) (v := .ref (G.2.2.2.1 9)) B w (cwq_0 G) rfl in_X9_bound_X9 (by decide) (by decide +kernel) rfl dX9_bound_50 ?_
          refine lv_bipush (v := 12) B.1.1 B.1.2.1 dX9_bound_53 (by decide) ?_
          refine lv_iload_n B.1.1 B.1.2.1 dX9_bound_55 rfl (lv_at hl 1 rfl) ?_
          refine lv_iload_n B.1.1 B.1.2.1 dX9_bound_56 rfl (lv_at hl 2 rfl) ?_
          refine lv_aload_n B.1.1 B.1.2.1 dX9_bound_57 rfl (lv_at hl 0 rfl) ?_
          refine hy_get (k := 10) (v := .int (σ9.2 1)) B w (cwq_0 G) rfl in_X9_bound_X9 (by decide) (by decide +kernel) rfl dX9_bound_58 ?_
          obtain ⟨σ14, v15, h16, hf⟩ := hy_bd_some hf
          refine hy_cv (As := [.int 12, .int x1, .int x2, .int (σ9.2 1)]) (rest := []) (o := (σ14, v15)) cw_fix hA B w (fun sz => mX8_add l G sz σ9 12 x1 x2 (σ9.2 1) _ h16) (cwV 4 B.1.2.2.2.2 gX9_bound_X8_add rfl rfl rfl (by decide +kernel) ⟨by have := hR.1; show 0 + 1 ≤ _; omega, by have := hR.2; show 8 + (5 + 11) + 0 ≤ _; omega⟩) rfl (cwq_9 G σ9) rfl hl.1 rfl (Nat.le_of_ble_eq_true rfl) dX9_bound_61 ⟨Nat.zero_le _, Nat.zero_le _⟩ (fun H locs w => ?_)
          exact hret _ _ _ _ _ _ (Option.some.inj hf).symm w dX9_bound_64
        · rw [if_neg c13] at hf
          refine lv_aload_n B.1.1 B.1.2.1 dX9_bound_30 rfl (lv_at hl 0 rfl) ?_
          refine hy_get (k := 8) (v := .ref (G.2.2.2.1 9)) B w (cwq_0 G) rfl in_X9_bound_X9 (by decide) (by decide +kernel) rfl dX9_bound_31 ?_
          refine lv_iload_n B.1.1 B.1.2.1 dX9_bound_34 rfl (lv_at hl 1 rfl) ?_
          refine lv_bipush (v := 12) B.1.1 B.1.2.1 dX9_bound_35 (by decide) ?_
          refine lv_iload_n B.1.1 B.1.2.1 dX9_bound_37 rfl (lv_at hl 2 rfl) ?_
          refine lv_ineg B.1.1 B.1.2.1 dX9_bound_38 ?_
          refine lv_aload_n B.1.1 B.1.2.1 dX9_bound_39 rfl (lv_at hl 0 rfl) ?_
          refine hy_get (k := 10) (v := .int (σ9.2 1)) B w (cwq_0 G) rfl in_X9_bound_X9 (by decide) (by decide +kernel) rfl dX9_bound_40 ?_
          obtain ⟨σ17, v18, h19, hf⟩ := hy_bd_some hf
          refine hy_cv (As := [.int x1, .int 12, .int (-x2), .int (σ9.2 1)]) (rest := []) (o := (σ17, v18)) cw_fix hA B w (fun sz => mX8_add l G sz σ9 x1 12 (-x2) (σ9.2 1) _ h19) (cwV 4 B.1.2.2.2.2 gX9_bound_X8_add rfl rfl rfl (by decide +kernel) ⟨by have := hR.1; show 0 + 1 ≤ _; omega, by have := hR.2; show 8 + (5 + 11) + 0 ≤ _; omega⟩) rfl (cwq_9 G σ9) rfl hl.1 rfl (Nat.le_of_ble_eq_true rfl) dX9_bound_43 ⟨Nat.zero_le _, Nat.zero_le _⟩ (fun H locs w => ?_)
          refine lv_goto (tgt := 64) B.1.1 B.1.2.1 dX9_bound_46 (by decide) ?_
          exact hret _ _ _ _ _ _ (Option.some.inj hf).symm w dX9_bound_64
      · exact absurd ho h12
    · exact absurd ho h8
  · exact absurd ho h4
set_option maxHeartbeats 4000000 in
set_option maxRecDepth 100000 in
theorem mX9_bound (l : Launch) (G : hy_G) (sz : Nat) (σ : hy_S) (x1 : Int32) (x2 : Int32) (x3 : Int32) (o : hy_S × Int32 × Nat) (hf : fX9_bound σ x1 x2 x3 = some o) (ho : o.2.2 = 0) : hy_M l yX9_bound wsX9_bound ({ frames := 7, cells := 0, slots := 0, locals := 104 }) cw G σ sz [.ref (G.2.2.2.1 0), .int x1, .int x2, .int x3] (o.1, o.2.1) := by
  refine Met.ofW (cc := cX9_bound) (maxL := 4) (ret := (some .int)) (by decide +kernel) rfl ?_
  intro p e s m args below meth c s₁ B hml hv
  obtain ⟨rfl, hsz, hP, hK, hD0, hN⟩ := hv
  have hx := B.exec
  have hb := B.bytes
  have hr := B.returns
  have hts := atoms_spec (ws := wsX9_bound) B.pre
  have hown : s.vm.findClass RX9 = some m.cls := findClass_of_methodNamed B.named
  have hlocks := B.notSynchronized
  subst hsz
  have hD := hD0.self (sz := s.heap.size)
  have hA : ∀ q : Nat, s.heap.size ≤ q → va_A (cw G σ) s.heap.size q := fun q h => Or.inr h
  have hS : va_S (va_A (cw G σ) s.heap.size) s.heap s.heap [] := va_S.rf
  have hl := lv_entry ([.ref (G.2.2.2.1 0), .int x1, .int x2, .int x3]) (n := 4) (Nat.le_of_ble_eq_true rfl)
  rw [lg_entry_eq]
  generalize (lg_sl ([.ref (G.2.2.2.1 0), .int x1, .int x2, .int x3]) ++ List.replicate (4 - (lg_sl ([.ref (G.2.2.2.1 0), .int x1, .int x2, .int x3])).length) Slot.unset).toArray = ls at hl ⊢
  have hl : lv_has ls 4 [(0, .ref (G.2.2.2.1 0)), (1, .int x1), (2, .int x2), (3, .int x3)] := hl
  refine bX9_bound_0 (A := va_A (cw G σ) s.heap.size) hA ⟨⟨hx, hb, hml, hown, hts⟩, hK, hN⟩ ⟨Nat.le_of_ble_eq_true rfl, Nat.le_of_ble_eq_true rfl⟩ (o := o) ho (fun τ v pc H locs ls ho w d => ?_) σ x1 x2 x3 _ _ _ hf ⟨hP, hD, hS⟩ hl
  exact W.iret hx hb hr (fun t ht hW => ⟨⟨v, τ, rfl, ⟨by rw [ho], by rw [ho]⟩, by have h9 := w.1; rw [← ht] at h9; exact h9⟩, w.2.2.F ht⟩) w.2.2.2.2 d
set_option maxHeartbeats 4000000 in
set_option maxRecDepth 100000 in
theorem tbX9_bound_0 (hA : ∀ q : Nat, s.heap.size ≤ q → A q) (B : hy_B RX9 cX9_bound 4 wsX9_bound G A p s m args c) (hR : 7 ≤ R.frames ∧ 104 ≤ R.locals) {o : hy_S × Int32 × Nat}  (ho : ¬ o.2.2 = 0) (hT : hy_TC l R meth c) (σ : hy_S) (x1 : Int32) (x2 : Int32) (x3 : Int32) (H : Heap) (locs : List Loc) (ls : Array Slot) (hf : fX9_bound σ x1 x2 x3 = some o) (w : hy_w cw G A s σ H locs) (hl : lv_has ls 4 [(0, .ref (G.2.2.2.1 0)), (1, .int x1), (2, .int x2), (3, .int x3)]) : W p l e R s m args below meth c H locs 0 0 (vx_MQ below Qc (hy_X cw G o A) args s 1 6 A) (F0 m 0 ls []) := by
  unfold fX9_bound at hf
  refine lv_iload_n B.1.1 B.1.2.1 dX9_bound_0 rfl (lv_at hl 1 rfl) ?_
  refine lv_bipush (v := 12) B.1.1 B.1.2.1 dX9_bound_1 (by decide) ?_
  rcases hy_bt_some hf with ⟨σ1, v2, h3, hf⟩ | ⟨h3, h4⟩
  · refine hy_csv (As := [.int x1, .int 12]) (rest := []) (o := (σ1, v2)) cw_fix hA B w (fun sz => mX9_needIndex l G sz σ x1 12 _ h3 rfl) (cwS 2 B.1.2.2.2.2 gX9_bound_X9_needIndex rfl rfl rfl (by decide +kernel) ⟨by have := hR.1; show 6 + 1 ≤ _; omega, by have := hR.2; show 8 + (2 + 11) + 82 ≤ _; omega⟩) rfl hl.1 rfl (Nat.le_of_ble_eq_true rfl) dX9_bound_3 ⟨Nat.zero_le _, Nat.zero_le _⟩ (fun H locs w => ?_)
    refine lv_iload_n B.1.1 B.1.2.1 dX9_bound_6 rfl (lv_at hl 2 rfl) ?_
    refine lv_iconst (v := 0) B.1.1 B.1.2.1 dX9_bound_7 (by decide) ?_
    refine lv_sipush (v := 1000) B.1.1 B.1.2.1 dX9_bound_8 (by decide) ?_
    rcases hy_bt_some hf with ⟨σ5, v6, h7, hf⟩ | ⟨h7, h8⟩
    · refine hy_csv (As := [.int x2, .int 0, .int 1000]) (rest := []) (o := (σ5, v6)) cw_fix hA B w (fun sz => mX9_needNumber l G sz σ1 x2 0 1000 _ h7 rfl) (cwS 3 B.1.2.2.2.2 gX9_bound_X9_needNumber rfl rfl rfl (by decide +kernel) ⟨by have := hR.1; show 6 + 1 ≤ _; omega, by have := hR.2; show 8 + (3 + 11) + 82 ≤ _; omega⟩) rfl hl.1 rfl (Nat.le_of_ble_eq_true rfl) dX9_bound_11 ⟨Nat.zero_le _, Nat.zero_le _⟩ (fun H locs w => ?_)
      refine lv_aload_n B.1.1 B.1.2.1 dX9_bound_14 rfl (lv_at hl 0 rfl) ?_
      refine hy_get (k := 8) (v := .ref (G.2.2.2.1 9)) B w (cwq_0 G) rfl in_X9_bound_X9 (by decide) (by decide +kernel) rfl dX9_bound_15 ?_
      refine hy_getN (k := 8) (v := .int (σ5.2 8)) B w (cwq_9 G) rfl in_X9_bound_X8 (by decide) (by decide +kernel) rfl dX9_bound_18 ?_
      refine lv_bipush (v := 60) B.1.1 B.1.2.1 dX9_bound_21 (by decide) ?_
      rcases hy_bt_some hf with ⟨σ9, v10, h11, hf⟩ | ⟨h11, h12⟩
      · refine hy_csv (As := [.int (σ5.2 8), .int 60]) (rest := []) (o := (σ9, v10)) cw_fix hA B w (fun sz => mX9_needPlace l G sz σ5 (σ5.2 8) 60 _ h11 rfl) (cwS 2 B.1.2.2.2.2 gX9_bound_X9_needPlace rfl rfl rfl (by decide +kernel) ⟨by have := hR.1; show 6 + 1 ≤ _; omega, by have := hR.2; show 8 + (2 + 11) + 82 ≤ _; omega⟩) rfl hl.1 rfl (Nat.le_of_ble_eq_true rfl) dX9_bound_23 ⟨Nat.zero_le _, Nat.zero_le _⟩ (fun H locs w => ?_)
        refine lv_iload_n B.1.1 B.1.2.1 dX9_bound_26 rfl (lv_at hl 3 rfl) ?_
        refine lv_if_eq (tgt := 49) B.1.1 B.1.2.1 dX9_bound_27 (by decide) (fun c13 => ?_) (fun c13 => ?_)
        · rw [if_pos c13] at hf
          refine lv_aload_n B.1.1 B.1.2.1 dX9_bound_49 rfl (lv_at hl 0 rfl) ?_
          refine hy_get (k := 8) (v := .ref (G.2.2.2.1 9)) B w (cwq_0 G) rfl in_X9_bound_X9 (by decide) (by decide +kernel) rfl dX9_bound_50 ?_
          refine lv_bipush (v := 12) B.1.1 B.1.2.1 dX9_bound_53 (by decide) ?_
          refine lv_iload_n B.1.1 B.1.2.1 dX9_bound_55 rfl (lv_at hl 1 rfl) ?_
          refine lv_iload_n B.1.1 B.1.2.1 dX9_bound_56 rfl (lv_at hl 2 rfl) ?_
          refine lv_aload_n B.1.1 B.1.2.1 dX9_bound_57 rfl (lv_at hl 0 rfl) ?_
          refine hy_get (k := 10) (v := .int (σ9.2 1)) B w (cwq_0 G) rfl in_X9_bound_X9 (by decide) (by decide +kernel) rfl dX9_bound_58 ?_
          obtain ⟨σ14, v15, h16, hf⟩ := hy_bd_some hf
          refine hy_cv (As := [.int 12, .int x1, .int x2, .int (σ9.2 1)]) (rest := []) (o := (σ14, v15)) cw_fix hA B w (fun sz => mX8_add l G sz σ9 12 x1 x2 (σ9.2 1) _ h16) (cwV 4 B.1.2.2.2.2 gX9_bound_X8_add rfl rfl rfl (by decide +kernel) ⟨by have := hR.1; show 0 + 1 ≤ _; omega, by have := hR.2; show 8 + (5 + 11) + 0 ≤ _; omega⟩) rfl (cwq_9 G σ9) rfl hl.1 rfl (Nat.le_of_ble_eq_true rfl) dX9_bound_61 ⟨Nat.zero_le _, Nat.zero_le _⟩ (fun H locs w => ?_)
          exact absurd (congrArg (fun z => z.2.2) (Option.some.inj hf)).symm ho
        · rw [if_neg c13] at hf
          refine lv_aload_n B.1.1 B.1.2.1 dX9_bound_30 rfl (lv_at hl 0 rfl) ?_
          refine hy_get (k := 8) (v := .ref (G.2.2.2.1 9)) B w (cwq_0 G) rfl in_X9_bound_X9 (by decide) (by decide +kernel) rfl dX9_bound_31 ?_
          refine lv_iload_n B.1.1 B.1.2.1 dX9_bound_34 rfl (lv_at hl 1 rfl) ?_
          refine lv_bipush (v := 12) B.1.1 B.1.2.1 dX9_bound_35 (by decide) ?_
          refine lv_iload_n B.1.1 B.1.2.1 dX9_bound_37 rfl (lv_at hl 2 rfl) ?_
          refine lv_ineg B.1.1 B.1.2.1 dX9_bound_38 ?_
          refine lv_aload_n B.1.1 B.1.2.1 dX9_bound_39 rfl (lv_at hl 0 rfl) ?_
          refine hy_get (k := 10) (v := .int (σ9.2 1)) B w (cwq_0 G) rfl in_X9_bound_X9 (by decide) (by decide +kernel) rfl dX9_bound_40 ?_
          obtain ⟨σ17, v18, h19, hf⟩ := hy_bd_some hf
          refine hy_cv (As := [.int x1, .int 12, .int (-x2), .int (σ9.2 1)]) (rest := []) (o := (σ17, v18)) cw_fix hA B w (fun sz => mX8_add l G sz σ9 x1 12 (-x2) (σ9.2 1) _ h19) (cwV 4 B.1.2.2.2.2 gX9_bound_X8_add rfl rfl rfl (by decide +kernel) ⟨by have := hR.1; show 0 + 1 ≤ _; omega, by have := hR.2; show 8 + (5 + 11) + 0 ≤ _; omega⟩) rfl (cwq_9 G σ9) rfl hl.1 rfl (Nat.le_of_ble_eq_true rfl) dX9_bound_43 ⟨Nat.zero_le _, Nat.zero_le _⟩ (fun H locs w => ?_)
          refine lv_goto (tgt := 64) B.1.1 B.1.2.1 dX9_bound_46 (by decide) ?_
          exact absurd (congrArg (fun z => z.2.2) (Option.some.inj hf)).symm ho
      · exact hy_tsv (As := [.int (σ5.2 8), .int 60]) (rest := []) hA B w hT (fun sz => tX9_needPlace l hT.1 G sz σ5 (σ5.2 8) 60 _ h11 h12) (cwS 2 B.1.2.2.2.2 gX9_bound_X9_needPlace rfl rfl rfl (by decide +kernel) ⟨by have := hR.1; show 6 + 1 ≤ _; omega, by have := hR.2; show 8 + (2 + 11) + 82 ≤ _; omega⟩) rfl hl.1 rfl (Nat.le_of_ble_eq_true rfl) dX9_bound_23
    · exact hy_tsv (As := [.int x2, .int 0, .int 1000]) (rest := []) hA B w hT (fun sz => tX9_needNumber l hT.1 G sz σ1 x2 0 1000 _ h7 h8) (cwS 3 B.1.2.2.2.2 gX9_bound_X9_needNumber rfl rfl rfl (by decide +kernel) ⟨by have := hR.1; show 6 + 1 ≤ _; omega, by have := hR.2; show 8 + (3 + 11) + 82 ≤ _; omega⟩) rfl hl.1 rfl (Nat.le_of_ble_eq_true rfl) dX9_bound_11
  · exact hy_tsv (As := [.int x1, .int 12]) (rest := []) hA B w hT (fun sz => tX9_needIndex l hT.1 G sz σ x1 12 _ h3 h4) (cwS 2 B.1.2.2.2.2 gX9_bound_X9_needIndex rfl rfl rfl (by decide +kernel) ⟨by have := hR.1; show 6 + 1 ≤ _; omega, by have := hR.2; show 8 + (2 + 11) + 82 ≤ _; omega⟩) rfl hl.1 rfl (Nat.le_of_ble_eq_true rfl) dX9_bound_3
set_option maxHeartbeats 4000000 in
set_option maxRecDepth 100000 in
theorem tX9_bound (l : Launch) (hlt : l.stackTraces = false) (G : hy_G) (sz : Nat) (σ : hy_S) (x1 : Int32) (x2 : Int32) (x3 : Int32) (o : hy_S × Int32 × Nat) (hf : fX9_bound σ x1 x2 x3 = some o) (ho : ¬ o.2.2 = 0) : hy_MT l yX9_bound wsX9_bound ({ frames := 7, cells := 1, slots := 6, locals := 104 }) cw G σ sz [.ref (G.2.2.2.1 0), .int x1, .int x2, .int x3] o := by
  refine vx_ofW (cc := cX9_bound) (maxL := 4) (ret := (some .int)) (by decide +kernel) rfl ?_
  intro p e s m args below meth c s₁ B hml h0 hv
  obtain ⟨rfl, hsz, hP, hK, hD0, hN⟩ := hv
  have hx := B.exec
  have hb := B.bytes
  have hr := B.returns
  have hts := atoms_spec (ws := wsX9_bound) B.pre
  have hown : s.vm.findClass RX9 = some m.cls := findClass_of_methodNamed B.named
  have hlocks := B.notSynchronized
  subst hsz
  have hD := hD0.self (sz := s.heap.size)
  have hA : ∀ q : Nat, s.heap.size ≤ q → va_A (cw G σ) s.heap.size q := fun q h => Or.inr h
  have hS : va_S (va_A (cw G σ) s.heap.size) s.heap s.heap [] := va_S.rf
  have hl := lv_entry ([.ref (G.2.2.2.1 0), .int x1, .int x2, .int x3]) (n := 4) (Nat.le_of_ble_eq_true rfl)
  rw [lg_entry_eq]
  generalize (lg_sl ([.ref (G.2.2.2.1 0), .int x1, .int x2, .int x3]) ++ List.replicate (4 - (lg_sl ([.ref (G.2.2.2.1 0), .int x1, .int x2, .int x3])).length) Slot.unset).toArray = ls at hl ⊢
  have hl : lv_has ls 4 [(0, .ref (G.2.2.2.1 0)), (1, .int x1), (2, .int x2), (3, .int x3)] := hl
  exact tbX9_bound_0 (A := va_A (cw G σ) s.heap.size) hA ⟨⟨hx, hb, hml, hown, hts⟩, hK, hN⟩ ⟨Nat.le_of_ble_eq_true rfl, Nat.le_of_ble_eq_true rfl⟩ (o := o) ho ⟨hlt, hlocks, h0, Nat.le_refl _, Nat.le_refl _⟩ σ x1 x2 x3 _ _ _ hf ⟨hP, hD, hS⟩ hl
theorem in_X9_undo_X8 : ∀ w ∈ u_ws RX8 TX8 10, w ∈ wsX9_undo := fun _ h => xt1 (xl (xr (h)))
theorem in_X9_undo_X9 : ∀ w ∈ u_ws RX9 TX9 11, w ∈ wsX9_undo := fun _ h => xt1 (xl (xl (xr (h))))
noncomputable def fX9_undo (σ : hy_S) (x1 : Int32) : Option (hy_S × Int32 × Nat) := hy_bt (fX9_needIndex σ x1 (σ.2 8)) some (fun σ1 v2 => hy_bd (fX8_takeBack σ1 x1 (σ1.2 1)) (fun σ5 v6 => hy_ck (v6 = 0 ∨ v6 = 1) (some (σ5, v6, 0))))
set_option maxHeartbeats 4000000 in
set_option maxRecDepth 100000 in
theorem bX9_undo_0 (hA : ∀ q : Nat, s.heap.size ≤ q → A q) (B : hy_B RX9 cX9_undo 2 wsX9_undo G A p s m args c) (hR : 7 ≤ R.frames ∧ 103 ≤ R.locals) {o : hy_S × Int32 × Nat}  (ho : o.2.2 = 0) (hret : ∀ (σ : hy_S) (v : Int32) (pc : Nat) (H : Heap) (locs : List Loc) (ls : Array Slot), o = (σ, v, 0) → (v = 0 ∨ v = 1) → hy_w cw G A s σ H locs → decode cX9_undo pc = .ok (.ireturn, 1) → W p l e R s m args below meth c H locs 0 0 Q (F0 m pc ls [.int v])) (σ : hy_S) (x1 : Int32) (H : Heap) (locs : List Loc) (ls : Array Slot) (hf : fX9_undo σ x1 = some o) (w : hy_w cw G A s σ H locs) (hl : lv_has ls 2 [(0, .ref (G.2.2.2.1 0)), (1, .int x1)]) : W p l e R s m args below meth c H locs 0 0 Q (F0 m 0 ls []) := by
  unfold fX9_undo at hf
  refine lv_iload_n B.1.1 B.1.2.1 dX9_undo_0 rfl (lv_at hl 1 rfl) ?_
  refine lv_aload_n B.1.1 B.1.2.1 dX9_undo_1 rfl (lv_at hl 0 rfl) ?_
  refine hy_get (k := 8) (v := .ref (G.2.2.2.1 9)) B w (cwq_0 G) rfl in_X9_undo_X9 (by decide) (by decide +kernel) rfl dX9_undo_2 ?_
  refine hy_getN (k := 8) (v := .int (σ.2 8)) B w (cwq_9 G) rfl in_X9_undo_X8 (by decide) (by decide +kernel) rfl dX9_undo_5 ?_
  rcases hy_bt_some hf with ⟨σ1, v2, h3, hf⟩ | ⟨h3, h4⟩
  · refine hy_csv (As := [.int x1, .int (σ.2 8)]) (rest := []) (o := (σ1, v2)) cw_fix hA B w (fun sz => mX9_needIndex l G sz σ x1 (σ.2 8) _ h3 rfl) (cwS 2 B.1.2.2.2.2 gX9_undo_X9_needIndex rfl rfl rfl (by decide +kernel) ⟨by have := hR.1; show 6 + 1 ≤ _; omega, by have := hR.2; show 8 + (2 + 11) + 82 ≤ _; omega⟩) rfl hl.1 rfl (Nat.le_of_ble_eq_true rfl) dX9_undo_8 ⟨Nat.zero_le _, Nat.zero_le _⟩ (fun H locs w => ?_)
    refine lv_aload_n B.1.1 B.1.2.1 dX9_undo_11 rfl (lv_at hl 0 rfl) ?_
    refine hy_get (k := 8) (v := .ref (G.2.2.2.1 9)) B w (cwq_0 G) rfl in_X9_undo_X9 (by decide) (by decide +kernel) rfl dX9_undo_12 ?_
    refine lv_iload_n B.1.1 B.1.2.1 dX9_undo_15 rfl (lv_at hl 1 rfl) ?_
    refine lv_aload_n B.1.1 B.1.2.1 dX9_undo_16 rfl (lv_at hl 0 rfl) ?_
    refine hy_get (k := 10) (v := .int (σ1.2 1)) B w (cwq_0 G) rfl in_X9_undo_X9 (by decide) (by decide +kernel) rfl dX9_undo_17 ?_
    obtain ⟨σ5, v6, h7, hf⟩ := hy_bd_some hf
    refine hy_cv (As := [.int x1, .int (σ1.2 1)]) (rest := []) (o := (σ5, v6)) cw_fix hA B w (fun sz => mX8_takeBack l G sz σ1 x1 (σ1.2 1) _ h7) (cwV 2 B.1.2.2.2.2 gX9_undo_X8_takeBack rfl rfl rfl (by decide +kernel) ⟨by have := hR.1; show 0 + 1 ≤ _; omega, by have := hR.2; show 8 + (3 + 11) + 0 ≤ _; omega⟩) rfl (cwq_9 G σ1) rfl hl.1 rfl (Nat.le_of_ble_eq_true rfl) dX9_undo_20 ⟨Nat.zero_le _, Nat.zero_le _⟩ (fun H locs w => ?_)
    obtain ⟨c8, hf⟩ := hy_ck_some hf
    exact hret _ _ _ _ _ _ (Option.some.inj hf).symm c8 w dX9_undo_23
  · exact absurd ho h4
set_option maxHeartbeats 4000000 in
set_option maxRecDepth 100000 in
theorem mX9_undo (l : Launch) (G : hy_G) (sz : Nat) (σ : hy_S) (x1 : Int32) (o : hy_S × Int32 × Nat) (hf : fX9_undo σ x1 = some o) (ho : o.2.2 = 0) : hy_M l yX9_undo wsX9_undo ({ frames := 7, cells := 0, slots := 0, locals := 103 }) cw G σ sz [.ref (G.2.2.2.1 0), .int x1] (o.1, o.2.1) := by
  refine Met.ofW (cc := cX9_undo) (maxL := 2) (ret := (some .boolean)) (by decide +kernel) rfl ?_
  intro p e s m args below meth c s₁ B hml hv
  obtain ⟨rfl, hsz, hP, hK, hD0, hN⟩ := hv
  have hx := B.exec
  have hb := B.bytes
  have hr := B.returns
  have hts := atoms_spec (ws := wsX9_undo) B.pre
  have hown : s.vm.findClass RX9 = some m.cls := findClass_of_methodNamed B.named
  have hlocks := B.notSynchronized
  subst hsz
  have hD := hD0.self (sz := s.heap.size)
  have hA : ∀ q : Nat, s.heap.size ≤ q → va_A (cw G σ) s.heap.size q := fun q h => Or.inr h
  have hS : va_S (va_A (cw G σ) s.heap.size) s.heap s.heap [] := va_S.rf
  have hl := lv_entry ([.ref (G.2.2.2.1 0), .int x1]) (n := 2) (Nat.le_of_ble_eq_true rfl)
  rw [lg_entry_eq]
  generalize (lg_sl ([.ref (G.2.2.2.1 0), .int x1]) ++ List.replicate (2 - (lg_sl ([.ref (G.2.2.2.1 0), .int x1])).length) Slot.unset).toArray = ls at hl ⊢
  have hl : lv_has ls 2 [(0, .ref (G.2.2.2.1 0)), (1, .int x1)] := hl
  refine bX9_undo_0 (A := va_A (cw G σ) s.heap.size) hA ⟨⟨hx, hb, hml, hown, hts⟩, hK, hN⟩ ⟨Nat.le_of_ble_eq_true rfl, Nat.le_of_ble_eq_true rfl⟩ (o := o) ho (fun τ v pc H locs ls ho hz w d => ?_) σ x1 _ _ _ hf ⟨hP, hD, hS⟩ hl
  exact W.zret hx hb hr (hy_bool hz) (fun t ht hW => ⟨⟨v, τ, rfl, ⟨by rw [ho], by rw [ho]⟩, by have h9 := w.1; rw [← ht] at h9; exact h9⟩, w.2.2.F ht⟩) w.2.2.2.2 d
set_option maxHeartbeats 4000000 in
set_option maxRecDepth 100000 in
theorem tbX9_undo_0 (hA : ∀ q : Nat, s.heap.size ≤ q → A q) (B : hy_B RX9 cX9_undo 2 wsX9_undo G A p s m args c) (hR : 7 ≤ R.frames ∧ 103 ≤ R.locals) {o : hy_S × Int32 × Nat}  (ho : ¬ o.2.2 = 0) (hT : hy_TC l R meth c) (σ : hy_S) (x1 : Int32) (H : Heap) (locs : List Loc) (ls : Array Slot) (hf : fX9_undo σ x1 = some o) (w : hy_w cw G A s σ H locs) (hl : lv_has ls 2 [(0, .ref (G.2.2.2.1 0)), (1, .int x1)]) : W p l e R s m args below meth c H locs 0 0 (vx_MQ below Qc (hy_X cw G o A) args s 1 6 A) (F0 m 0 ls []) := by
  unfold fX9_undo at hf
  refine lv_iload_n B.1.1 B.1.2.1 dX9_undo_0 rfl (lv_at hl 1 rfl) ?_
  refine lv_aload_n B.1.1 B.1.2.1 dX9_undo_1 rfl (lv_at hl 0 rfl) ?_
  refine hy_get (k := 8) (v := .ref (G.2.2.2.1 9)) B w (cwq_0 G) rfl in_X9_undo_X9 (by decide) (by decide +kernel) rfl dX9_undo_2 ?_
  refine hy_getN (k := 8) (v := .int (σ.2 8)) B w (cwq_9 G) rfl in_X9_undo_X8 (by decide) (by decide +kernel) rfl dX9_undo_5 ?_
  rcases hy_bt_some hf with ⟨σ1, v2, h3, hf⟩ | ⟨h3, h4⟩
  · refine hy_csv (As := [.int x1, .int (σ.2 8)]) (rest := []) (o := (σ1, v2)) cw_fix hA B w (fun sz => mX9_needIndex l G sz σ x1 (σ.2 8) _ h3 rfl) (cwS 2 B.1.2.2.2.2 gX9_undo_X9_needIndex rfl rfl rfl (by decide +kernel) ⟨by have := hR.1; show 6 + 1 ≤ _; omega, by have := hR.2; show 8 + (2 + 11) + 82 ≤ _; omega⟩) rfl hl.1 rfl (Nat.le_of_ble_eq_true rfl) dX9_undo_8 ⟨Nat.zero_le _, Nat.zero_le _⟩ (fun H locs w => ?_)
    refine lv_aload_n B.1.1 B.1.2.1 dX9_undo_11 rfl (lv_at hl 0 rfl) ?_
    refine hy_get (k := 8) (v := .ref (G.2.2.2.1 9)) B w (cwq_0 G) rfl in_X9_undo_X9 (by decide) (by decide +kernel) rfl dX9_undo_12 ?_
    refine lv_iload_n B.1.1 B.1.2.1 dX9_undo_15 rfl (lv_at hl 1 rfl) ?_
    refine lv_aload_n B.1.1 B.1.2.1 dX9_undo_16 rfl (lv_at hl 0 rfl) ?_
    refine hy_get (k := 10) (v := .int (σ1.2 1)) B w (cwq_0 G) rfl in_X9_undo_X9 (by decide) (by decide +kernel) rfl dX9_undo_17 ?_
    obtain ⟨σ5, v6, h7, hf⟩ := hy_bd_some hf
    refine hy_cv (As := [.int x1, .int (σ1.2 1)]) (rest := []) (o := (σ5, v6)) cw_fix hA B w (fun sz => mX8_takeBack l G sz σ1 x1 (σ1.2 1) _ h7) (cwV 2 B.1.2.2.2.2 gX9_undo_X8_takeBack rfl rfl rfl (by decide +kernel) ⟨by have := hR.1; show 0 + 1 ≤ _; omega, by have := hR.2; show 8 + (3 + 11) + 0 ≤ _; omega⟩) rfl (cwq_9 G σ1) rfl hl.1 rfl (Nat.le_of_ble_eq_true rfl) dX9_undo_20 ⟨Nat.zero_le _, Nat.zero_le _⟩ (fun H locs w => ?_)
    obtain ⟨c8, hf⟩ := hy_ck_some hf
    exact absurd (congrArg (fun z => z.2.2) (Option.some.inj hf)).symm ho
  · exact hy_tsv (As := [.int x1, .int (σ.2 8)]) (rest := []) hA B w hT (fun sz => tX9_needIndex l hT.1 G sz σ x1 (σ.2 8) _ h3 h4) (cwS 2 B.1.2.2.2.2 gX9_undo_X9_needIndex rfl rfl rfl (by decide +kernel) ⟨by have := hR.1; show 6 + 1 ≤ _; omega, by have := hR.2; show 8 + (2 + 11) + 82 ≤ _; omega⟩) rfl hl.1 rfl (Nat.le_of_ble_eq_true rfl) dX9_undo_8
set_option maxHeartbeats 4000000 in
set_option maxRecDepth 100000 in
theorem tX9_undo (l : Launch) (hlt : l.stackTraces = false) (G : hy_G) (sz : Nat) (σ : hy_S) (x1 : Int32) (o : hy_S × Int32 × Nat) (hf : fX9_undo σ x1 = some o) (ho : ¬ o.2.2 = 0) : hy_MT l yX9_undo wsX9_undo ({ frames := 7, cells := 1, slots := 6, locals := 103 }) cw G σ sz [.ref (G.2.2.2.1 0), .int x1] o := by
  refine vx_ofW (cc := cX9_undo) (maxL := 2) (ret := (some .boolean)) (by decide +kernel) rfl ?_
  intro p e s m args below meth c s₁ B hml h0 hv
  obtain ⟨rfl, hsz, hP, hK, hD0, hN⟩ := hv
  have hx := B.exec
  have hb := B.bytes
  have hr := B.returns
  have hts := atoms_spec (ws := wsX9_undo) B.pre
  have hown : s.vm.findClass RX9 = some m.cls := findClass_of_methodNamed B.named
  have hlocks := B.notSynchronized
  subst hsz
  have hD := hD0.self (sz := s.heap.size)
  have hA : ∀ q : Nat, s.heap.size ≤ q → va_A (cw G σ) s.heap.size q := fun q h => Or.inr h
  have hS : va_S (va_A (cw G σ) s.heap.size) s.heap s.heap [] := va_S.rf
  have hl := lv_entry ([.ref (G.2.2.2.1 0), .int x1]) (n := 2) (Nat.le_of_ble_eq_true rfl)
  rw [lg_entry_eq]
  generalize (lg_sl ([.ref (G.2.2.2.1 0), .int x1]) ++ List.replicate (2 - (lg_sl ([.ref (G.2.2.2.1 0), .int x1])).length) Slot.unset).toArray = ls at hl ⊢
  have hl : lv_has ls 2 [(0, .ref (G.2.2.2.1 0)), (1, .int x1)] := hl
  exact tbX9_undo_0 (A := va_A (cw G σ) s.heap.size) hA ⟨⟨hx, hb, hml, hown, hts⟩, hK, hN⟩ ⟨Nat.le_of_ble_eq_true rfl, Nat.le_of_ble_eq_true rfl⟩ (o := o) ho ⟨hlt, hlocks, h0, Nat.le_refl _, Nat.le_refl _⟩ σ x1 _ _ _ hf ⟨hP, hD, hS⟩ hl
theorem in_X9_days_X9 : ∀ w ∈ u_ws RX9 TX9 11, w ∈ wsX9_days := fun _ h => xt1 (xl (xr (h)))
noncomputable def fX9_days (σ : hy_S) (x1 : Int32) : Option (hy_S × Int32 × Nat) := hy_bt (fX9_needNumber σ x1 0 1000) some (fun σ1 v2 => hy_pf σ1 1 ((σ1.2 1) + x1) (fun σ5 => some (σ5, (σ5.2 1), 0)))
set_option maxHeartbeats 4000000 in
set_option maxRecDepth 100000 in
theorem bX9_days_0 (hA : ∀ q : Nat, s.heap.size ≤ q → A q) (B : hy_B RX9 cX9_days 2 wsX9_days G A p s m args c) (hR : 7 ≤ R.frames ∧ 104 ≤ R.locals) {o : hy_S × Int32 × Nat}  (ho : o.2.2 = 0) (hret : ∀ (σ : hy_S) (v : Int32) (pc : Nat) (H : Heap) (locs : List Loc) (ls : Array Slot), o = (σ, v, 0) → hy_w cw G A s σ H locs → decode cX9_days pc = .ok (.ireturn, 1) → W p l e R s m args below meth c H locs 0 0 Q (F0 m pc ls [.int v])) (σ : hy_S) (x1 : Int32) (H : Heap) (locs : List Loc) (ls : Array Slot) (hf : fX9_days σ x1 = some o) (w : hy_w cw G A s σ H locs) (hl : lv_has ls 2 [(0, .ref (G.2.2.2.1 0)), (1, .int x1)]) : W p l e R s m args below meth c H locs 0 0 Q (F0 m 0 ls []) := by
  unfold fX9_days at hf
  refine lv_iload_n B.1.1 B.1.2.1 dX9_days_0 rfl (lv_at hl 1 rfl) ?_
  refine lv_iconst (v := 0) B.1.1 B.1.2.1 dX9_days_1 (by decide) ?_
  refine lv_sipush (v := 1000) B.1.1 B.1.2.1 dX9_days_2 (by decide) ?_
  rcases hy_bt_some hf with ⟨σ1, v2, h3, hf⟩ | ⟨h3, h4⟩
  · refine hy_csv (As := [.int x1, .int 0, .int 1000]) (rest := []) (o := (σ1, v2)) cw_fix hA B w (fun sz => mX9_needNumber l G sz σ x1 0 1000 _ h3 rfl) (cwS 3 B.1.2.2.2.2 gX9_days_X9_needNumber rfl rfl rfl (by decide +kernel) ⟨by have := hR.1; show 6 + 1 ≤ _; omega, by have := hR.2; show 8 + (3 + 11) + 82 ≤ _; omega⟩) rfl hl.1 rfl (Nat.le_of_ble_eq_true rfl) dX9_days_5 ⟨Nat.zero_le _, Nat.zero_le _⟩ (fun H locs w => ?_)
    refine lv_aload_n B.1.1 B.1.2.1 dX9_days_8 rfl (lv_at hl 0 rfl) ?_
    refine lv_dup B.1.1 B.1.2.1 dX9_days_9 rfl ?_
    refine hy_get (k := 10) (v := .int (σ1.2 1)) B w (cwq_0 G) rfl in_X9_days_X9 (by decide) (by decide +kernel) rfl dX9_days_10 ?_
    refine lv_iload_n B.1.1 B.1.2.1 dX9_days_13 rfl (lv_at hl 1 rfl) ?_
    refine lv_iadd B.1.1 B.1.2.1 dX9_days_14 ?_
    obtain ⟨σ5, e6, hf⟩ := hy_pf_some hf
    refine hy_put (k := 10) B w (cwq_0 G) rfl in_X9_days_X9 tyX9 tyX9_ok nmX9 (by decide) (by decide +kernel) rfl rfl (by show 10 < 11; decide) (cwp_1 G) e6 dX9_days_15 (fun H locs w => ?_)
    refine lv_aload_n B.1.1 B.1.2.1 dX9_days_18 rfl (lv_at hl 0 rfl) ?_
    refine hy_get (k := 10) (v := .int (σ5.2 1)) B w (cwq_0 G) rfl in_X9_days_X9 (by decide) (by decide +kernel) rfl dX9_days_19 ?_
    exact hret _ _ _ _ _ _ (Option.some.inj hf).symm w dX9_days_22
  · exact absurd ho h4
set_option maxHeartbeats 4000000 in
set_option maxRecDepth 100000 in
theorem mX9_days (l : Launch) (G : hy_G) (sz : Nat) (σ : hy_S) (x1 : Int32) (o : hy_S × Int32 × Nat) (hf : fX9_days σ x1 = some o) (ho : o.2.2 = 0) : hy_M l yX9_days wsX9_days ({ frames := 7, cells := 0, slots := 0, locals := 104 }) cw G σ sz [.ref (G.2.2.2.1 0), .int x1] (o.1, o.2.1) := by
  refine Met.ofW (cc := cX9_days) (maxL := 2) (ret := (some .int)) (by decide +kernel) rfl ?_
  intro p e s m args below meth c s₁ B hml hv
  obtain ⟨rfl, hsz, hP, hK, hD0, hN⟩ := hv
  have hx := B.exec
  have hb := B.bytes
  have hr := B.returns
  have hts := atoms_spec (ws := wsX9_days) B.pre
  have hown : s.vm.findClass RX9 = some m.cls := findClass_of_methodNamed B.named
  have hlocks := B.notSynchronized
  subst hsz
  have hD := hD0.self (sz := s.heap.size)
  have hA : ∀ q : Nat, s.heap.size ≤ q → va_A (cw G σ) s.heap.size q := fun q h => Or.inr h
  have hS : va_S (va_A (cw G σ) s.heap.size) s.heap s.heap [] := va_S.rf
  have hl := lv_entry ([.ref (G.2.2.2.1 0), .int x1]) (n := 2) (Nat.le_of_ble_eq_true rfl)
  rw [lg_entry_eq]
  generalize (lg_sl ([.ref (G.2.2.2.1 0), .int x1]) ++ List.replicate (2 - (lg_sl ([.ref (G.2.2.2.1 0), .int x1])).length) Slot.unset).toArray = ls at hl ⊢
  have hl : lv_has ls 2 [(0, .ref (G.2.2.2.1 0)), (1, .int x1)] := hl
  refine bX9_days_0 (A := va_A (cw G σ) s.heap.size) hA ⟨⟨hx, hb, hml, hown, hts⟩, hK, hN⟩ ⟨Nat.le_of_ble_eq_true rfl, Nat.le_of_ble_eq_true rfl⟩ (o := o) ho (fun τ v pc H locs ls ho w d => ?_) σ x1 _ _ _ hf ⟨hP, hD, hS⟩ hl
  exact W.iret hx hb hr (fun t ht hW => ⟨⟨v, τ, rfl, ⟨by rw [ho], by rw [ho]⟩, by have h9 := w.1; rw [← ht] at h9; exact h9⟩, w.2.2.F ht⟩) w.2.2.2.2 d
set_option maxHeartbeats 4000000 in
set_option maxRecDepth 100000 in
theorem tbX9_days_0 (hA : ∀ q : Nat, s.heap.size ≤ q → A q) (B : hy_B RX9 cX9_days 2 wsX9_days G A p s m args c) (hR : 7 ≤ R.frames ∧ 104 ≤ R.locals) {o : hy_S × Int32 × Nat}  (ho : ¬ o.2.2 = 0) (hT : hy_TC l R meth c) (σ : hy_S) (x1 : Int32) (H : Heap) (locs : List Loc) (ls : Array Slot) (hf : fX9_days σ x1 = some o) (w : hy_w cw G A s σ H locs) (hl : lv_has ls 2 [(0, .ref (G.2.2.2.1 0)), (1, .int x1)]) : W p l e R s m args below meth c H locs 0 0 (vx_MQ below Qc (hy_X cw G o A) args s 1 6 A) (F0 m 0 ls []) := by
  unfold fX9_days at hf
  refine lv_iload_n B.1.1 B.1.2.1 dX9_days_0 rfl (lv_at hl 1 rfl) ?_
  refine lv_iconst (v := 0) B.1.1 B.1.2.1 dX9_days_1 (by decide) ?_
  refine lv_sipush (v := 1000) B.1.1 B.1.2.1 dX9_days_2 (by decide) ?_
  rcases hy_bt_some hf with ⟨σ1, v2, h3, hf⟩ | ⟨h3, h4⟩
  · refine hy_csv (As := [.int x1, .int 0, .int 1000]) (rest := []) (o := (σ1, v2)) cw_fix hA B w (fun sz => mX9_needNumber l G sz σ x1 0 1000 _ h3 rfl) (cwS 3 B.1.2.2.2.2 gX9_days_X9_needNumber rfl rfl rfl (by decide +kernel) ⟨by have := hR.1; show 6 + 1 ≤ _; omega, by have := hR.2; show 8 + (3 + 11) + 82 ≤ _; omega⟩) rfl hl.1 rfl (Nat.le_of_ble_eq_true rfl) dX9_days_5 ⟨Nat.zero_le _, Nat.zero_le _⟩ (fun H locs w => ?_)
    refine lv_aload_n B.1.1 B.1.2.1 dX9_days_8 rfl (lv_at hl 0 rfl) ?_
    refine lv_dup B.1.1 B.1.2.1 dX9_days_9 rfl ?_
    refine hy_get (k := 10) (v := .int (σ1.2 1)) B w (cwq_0 G) rfl in_X9_days_X9 (by decide) (by decide +kernel) rfl dX9_days_10 ?_
    refine lv_iload_n B.1.1 B.1.2.1 dX9_days_13 rfl (lv_at hl 1 rfl) ?_
    refine lv_iadd B.1.1 B.1.2.1 dX9_days_14 ?_
    obtain ⟨σ5, e6, hf⟩ := hy_pf_some hf
    refine hy_put (k := 10) B w (cwq_0 G) rfl in_X9_days_X9 tyX9 tyX9_ok nmX9 (by decide) (by decide +kernel) rfl rfl (by show 10 < 11; decide) (cwp_1 G) e6 dX9_days_15 (fun H locs w => ?_)
    refine lv_aload_n B.1.1 B.1.2.1 dX9_days_18 rfl (lv_at hl 0 rfl) ?_
    refine hy_get (k := 10) (v := .int (σ5.2 1)) B w (cwq_0 G) rfl in_X9_days_X9 (by decide) (by decide +kernel) rfl dX9_days_19 ?_
    exact absurd (congrArg (fun z => z.2.2) (Option.some.inj hf)).symm ho
  · exact hy_tsv (As := [.int x1, .int 0, .int 1000]) (rest := []) hA B w hT (fun sz => tX9_needNumber l hT.1 G sz σ x1 0 1000 _ h3 h4) (cwS 3 B.1.2.2.2.2 gX9_days_X9_needNumber rfl rfl rfl (by decide +kernel) ⟨by have := hR.1; show 6 + 1 ≤ _; omega, by have := hR.2; show 8 + (3 + 11) + 82 ≤ _; omega⟩) rfl hl.1 rfl (Nat.le_of_ble_eq_true rfl) dX9_days_5
set_option maxHeartbeats 4000000 in
set_option maxRecDepth 100000 in
theorem tX9_days (l : Launch) (hlt : l.stackTraces = false) (G : hy_G) (sz : Nat) (σ : hy_S) (x1 : Int32) (o : hy_S × Int32 × Nat) (hf : fX9_days σ x1 = some o) (ho : ¬ o.2.2 = 0) : hy_MT l yX9_days wsX9_days ({ frames := 7, cells := 1, slots := 6, locals := 104 }) cw G σ sz [.ref (G.2.2.2.1 0), .int x1] o := by
  refine vx_ofW (cc := cX9_days) (maxL := 2) (ret := (some .int)) (by decide +kernel) rfl ?_
  intro p e s m args below meth c s₁ B hml h0 hv
  obtain ⟨rfl, hsz, hP, hK, hD0, hN⟩ := hv
  have hx := B.exec
  have hb := B.bytes
  have hr := B.returns
  have hts := atoms_spec (ws := wsX9_days) B.pre
  have hown : s.vm.findClass RX9 = some m.cls := findClass_of_methodNamed B.named
  have hlocks := B.notSynchronized
  subst hsz
  have hD := hD0.self (sz := s.heap.size)
  have hA : ∀ q : Nat, s.heap.size ≤ q → va_A (cw G σ) s.heap.size q := fun q h => Or.inr h
  have hS : va_S (va_A (cw G σ) s.heap.size) s.heap s.heap [] := va_S.rf
  have hl := lv_entry ([.ref (G.2.2.2.1 0), .int x1]) (n := 2) (Nat.le_of_ble_eq_true rfl)
  rw [lg_entry_eq]
  generalize (lg_sl ([.ref (G.2.2.2.1 0), .int x1]) ++ List.replicate (2 - (lg_sl ([.ref (G.2.2.2.1 0), .int x1])).length) Slot.unset).toArray = ls at hl ⊢
  have hl : lv_has ls 2 [(0, .ref (G.2.2.2.1 0)), (1, .int x1)] := hl
  exact tbX9_days_0 (A := va_A (cw G σ) s.heap.size) hA ⟨⟨hx, hb, hml, hown, hts⟩, hK, hN⟩ ⟨Nat.le_of_ble_eq_true rfl, Nat.le_of_ble_eq_true rfl⟩ (o := o) ho ⟨hlt, hlocks, h0, Nat.le_refl _, Nat.le_refl _⟩ σ x1 _ _ _ hf ⟨hP, hD, hS⟩ hl
theorem in_X9_span_X9 : ∀ w ∈ u_ws RX9 TX9 11, w ∈ wsX9_span := fun _ h => xt1 (xl (xl (xl (xr (h)))))
noncomputable def fX9_span_61 (σ : hy_S) (s0 : Int32) (x2 : Int32) : Option (hy_S × Int32 × Nat) := (if s0 = (-1000000000) then some (σ, 0, 4) else (if x2 = 0 then some (σ, s0, 0) else some (σ, (-s0), 0)))
noncomputable def fX9_span (σ : hy_S) (x1 : Int32) (x2 : Int32) (x3 : Int32) : Option (hy_S × Int32 × Nat) := hy_bt (fX9_needIndex σ x1 12) some (fun σ1 v2 => hy_bd (fX8_recall σ1 x3) (fun σ5 v6 => hy_bd (fX8_canAllHold σ5) (fun σ8 v9 => (if v9 = 0 then some (σ8, 0, 4) else (if x2 = 0 then hy_bd (fX8_yearsBetween σ8 12 x1) (fun σ13 v14 => fX9_span_61 σ13 v14 x2) else hy_bd (fX8_yearsBetween σ8 x1 12) (fun σ16 v17 => fX9_span_61 σ16 v17 x2))))))
set_option maxHeartbeats 4000000 in
set_option maxRecDepth 100000 in
theorem bX9_span_61 (hA : ∀ q : Nat, s.heap.size ≤ q → A q) (B : hy_B RX9 cX9_span 5 wsX9_span G A p s m args c) (hR : 7 ≤ R.frames ∧ 103 ≤ R.locals) {o : hy_S × Int32 × Nat}  (ho : o.2.2 = 0) (hret : ∀ (σ : hy_S) (v : Int32) (pc : Nat) (H : Heap) (locs : List Loc) (ls : Array Slot), o = (σ, v, 0) → hy_w cw G A s σ H locs → decode cX9_span pc = .ok (.ireturn, 1) → W p l e R s m args below meth c H locs 0 0 Q (F0 m pc ls [.int v])) (σ : hy_S) (s0 : Int32) (x2 : Int32) (H : Heap) (locs : List Loc) (ls : Array Slot) (hf : fX9_span_61 σ s0 x2 = some o) (w : hy_w cw G A s σ H locs) (hl : lv_has ls 5 [(2, .int x2)]) : W p l e R s m args below meth c H locs 0 0 Q (F0 m 61 ls [.int s0]) := by
  unfold fX9_span_61 at hf
  refine lv_istore (lv' := [(4, .int s0), (2, .int x2)]) B.1.1 B.1.2.1 dX9_span_61 hl (by decide) rfl (fun ls hl => ?_)
  refine lv_iload B.1.1 B.1.2.1 dX9_span_63 (lv_at hl 0 rfl) ?_
  refine lv_ldcw (v := (-1000000000)) B.1.1 B.1.2.1 B.1.2.2.2.1 (B.1.2.2.2.2 (.constant RX9 259 (-1000000000)) (by decide +kernel)) dX9_span_65 ?_
  refine lv_icmp_ne (tgt := 82) B.1.1 B.1.2.1 dX9_span_68 (by decide) (fun c1 => ?_) (fun c1 => ?_)
  · rw [if_neg c1] at hf
    refine lv_iload_n B.1.1 B.1.2.1 dX9_span_82 rfl (lv_at hl 1 rfl) ?_
    refine lv_if_eq (tgt := 92) B.1.1 B.1.2.1 dX9_span_83 (by decide) (fun c2 => ?_) (fun c2 => ?_)
    · rw [if_pos c2] at hf
      refine lv_iload B.1.1 B.1.2.1 dX9_span_92 (lv_at hl 0 rfl) ?_
      exact hret _ _ _ _ _ _ (Option.some.inj hf).symm w dX9_span_94
    · rw [if_neg c2] at hf
      refine lv_iload B.1.1 B.1.2.1 dX9_span_86 (lv_at hl 0 rfl) ?_
      refine lv_ineg B.1.1 B.1.2.1 dX9_span_88 ?_
      refine lv_goto (tgt := 94) B.1.1 B.1.2.1 dX9_span_89 (by decide) ?_
      exact hret _ _ _ _ _ _ (Option.some.inj hf).symm w dX9_span_94
  · rw [if_pos c1] at hf
    exact absurd ((congrArg (fun z => z.2.2) (Option.some.inj hf)).trans ho) (Nat.succ_ne_zero _)
set_option maxHeartbeats 4000000 in
set_option maxRecDepth 100000 in
theorem bX9_span_0 (hA : ∀ q : Nat, s.heap.size ≤ q → A q) (B : hy_B RX9 cX9_span 5 wsX9_span G A p s m args c) (hR : 7 ≤ R.frames ∧ 103 ≤ R.locals) {o : hy_S × Int32 × Nat}  (ho : o.2.2 = 0) (hret : ∀ (σ : hy_S) (v : Int32) (pc : Nat) (H : Heap) (locs : List Loc) (ls : Array Slot), o = (σ, v, 0) → hy_w cw G A s σ H locs → decode cX9_span pc = .ok (.ireturn, 1) → W p l e R s m args below meth c H locs 0 0 Q (F0 m pc ls [.int v])) (σ : hy_S) (x1 : Int32) (x2 : Int32) (x3 : Int32) (H : Heap) (locs : List Loc) (ls : Array Slot) (hf : fX9_span σ x1 x2 x3 = some o) (w : hy_w cw G A s σ H locs) (hl : lv_has ls 5 [(0, .ref (G.2.2.2.1 0)), (1, .int x1), (2, .int x2), (3, .int x3)]) : W p l e R s m args below meth c H locs 0 0 Q (F0 m 0 ls []) := by
  unfold fX9_span at hf
  refine lv_iload_n B.1.1 B.1.2.1 dX9_span_0 rfl (lv_at hl 1 rfl) ?_
  refine lv_bipush (v := 12) B.1.1 B.1.2.1 dX9_span_1 (by decide) ?_
  rcases hy_bt_some hf with ⟨σ1, v2, h3, hf⟩ | ⟨h3, h4⟩
  · refine hy_csv (As := [.int x1, .int 12]) (rest := []) (o := (σ1, v2)) cw_fix hA B w (fun sz => mX9_needIndex l G sz σ x1 12 _ h3 rfl) (cwS 2 B.1.2.2.2.2 gX9_span_X9_needIndex rfl rfl rfl (by decide +kernel) ⟨by have := hR.1; show 6 + 1 ≤ _; omega, by have := hR.2; show 8 + (2 + 11) + 82 ≤ _; omega⟩) rfl hl.1 rfl (Nat.le_of_ble_eq_true rfl) dX9_span_3 ⟨Nat.zero_le _, Nat.zero_le _⟩ (fun H locs w => ?_)
    refine lv_aload_n B.1.1 B.1.2.1 dX9_span_6 rfl (lv_at hl 0 rfl) ?_
    refine hy_get (k := 8) (v := .ref (G.2.2.2.1 9)) B w (cwq_0 G) rfl in_X9_span_X9 (by decide) (by decide +kernel) rfl dX9_span_7 ?_
    refine lv_iload_n B.1.1 B.1.2.1 dX9_span_10 rfl (lv_at hl 3 rfl) ?_
    obtain ⟨σ5, v6, h7, hf⟩ := hy_bd_some hf
    refine hy_cvv (As := [.int x3]) (rest := []) (o := (σ5, v6)) cw_fix hA B w (fun sz => mX8_recall l G sz σ1 x3 _ h7) (cwV 1 B.1.2.2.2.2 gX9_span_X8_recall rfl rfl rfl (by decide +kernel) ⟨by have := hR.1; show 0 + 1 ≤ _; omega, by have := hR.2; show 8 + (4 + 11) + 0 ≤ _; omega⟩) rfl (cwq_9 G σ1) rfl hl.1 rfl (Nat.le_of_ble_eq_true rfl) dX9_span_11 ⟨Nat.zero_le _, Nat.zero_le _⟩ (fun H locs w => ?_)
    refine lv_aload_n B.1.1 B.1.2.1 dX9_span_14 rfl (lv_at hl 0 rfl) ?_
    refine hy_get (k := 8) (v := .ref (G.2.2.2.1 9)) B w (cwq_0 G) rfl in_X9_span_X9 (by decide) (by decide +kernel) rfl dX9_span_15 ?_
    obtain ⟨σ8, v9, h10, hf⟩ := hy_bd_some hf
    refine hy_cv (As := []) (rest := []) (o := (σ8, v9)) cw_fix hA B w (fun sz => mX8_canAllHold l G sz σ5  _ h10) (cwV 0 B.1.2.2.2.2 gX9_span_X8_canAllHold rfl rfl rfl (by decide +kernel) ⟨by have := hR.1; show 2 + 1 ≤ _; omega, by have := hR.2; show 8 + (1 + 11) + 45 ≤ _; omega⟩) rfl (cwq_9 G σ5) rfl hl.1 rfl (Nat.le_of_ble_eq_true rfl) dX9_span_18 ⟨Nat.zero_le _, Nat.zero_le _⟩ (fun H locs w => ?_)
    refine lv_if_ne (tgt := 34) B.1.1 B.1.2.1 dX9_span_21 (by decide) (fun c11 => ?_) (fun c11 => ?_)
    · rw [if_neg c11] at hf
      refine lv_iload_n B.1.1 B.1.2.1 dX9_span_34 rfl (lv_at hl 2 rfl) ?_
      refine lv_if_eq (tgt := 51) B.1.1 B.1.2.1 dX9_span_35 (by decide) (fun c12 => ?_) (fun c12 => ?_)
      · rw [if_pos c12] at hf
        refine lv_aload_n B.1.1 B.1.2.1 dX9_span_51 rfl (lv_at hl 0 rfl) ?_
        refine hy_get (k := 8) (v := .ref (G.2.2.2.1 9)) B w (cwq_0 G) rfl in_X9_span_X9 (by decide) (by decide +kernel) rfl dX9_span_52 ?_
        refine lv_bipush (v := 12) B.1.1 B.1.2.1 dX9_span_55 (by decide) ?_
        refine lv_iload_n B.1.1 B.1.2.1 dX9_span_57 rfl (lv_at hl 1 rfl) ?_
        obtain ⟨σ13, v14, h15, hf⟩ := hy_bd_some hf
        refine hy_cv (As := [.int 12, .int x1]) (rest := []) (o := (σ13, v14)) cw_fix hA B w (fun sz => mX8_yearsBetween l G sz σ8 12 x1 _ h15) (cwV 2 B.1.2.2.2.2 gX9_span_X8_yearsBetween rfl rfl rfl (by decide +kernel) ⟨by have := hR.1; show 2 + 1 ≤ _; omega, by have := hR.2; show 8 + (3 + 11) + 45 ≤ _; omega⟩) rfl (cwq_9 G σ8) rfl hl.1 rfl (Nat.le_of_ble_eq_true rfl) dX9_span_58 ⟨Nat.zero_le _, Nat.zero_le _⟩ (fun H locs w => ?_)
        exact bX9_span_61 hA B hR  ho hret _ _ _ _ _ _ hf w (lv_sub hl [2] rfl)
      · rw [if_neg c12] at hf
        refine lv_aload_n B.1.1 B.1.2.1 dX9_span_38 rfl (lv_at hl 0 rfl) ?_
        refine hy_get (k := 8) (v := .ref (G.2.2.2.1 9)) B w (cwq_0 G) rfl in_X9_span_X9 (by decide) (by decide +kernel) rfl dX9_span_39 ?_
        refine lv_iload_n B.1.1 B.1.2.1 dX9_span_42 rfl (lv_at hl 1 rfl) ?_
        refine lv_bipush (v := 12) B.1.1 B.1.2.1 dX9_span_43 (by decide) ?_
        obtain ⟨σ16, v17, h18, hf⟩ := hy_bd_some hf
        refine hy_cv (As := [.int x1, .int 12]) (rest := []) (o := (σ16, v17)) cw_fix hA B w (fun sz => mX8_yearsBetween l G sz σ8 x1 12 _ h18) (cwV 2 B.1.2.2.2.2 gX9_span_X8_yearsBetween rfl rfl rfl (by decide +kernel) ⟨by have := hR.1; show 2 + 1 ≤ _; omega, by have := hR.2; show 8 + (3 + 11) + 45 ≤ _; omega⟩) rfl (cwq_9 G σ8) rfl hl.1 rfl (Nat.le_of_ble_eq_true rfl) dX9_span_45 ⟨Nat.zero_le _, Nat.zero_le _⟩ (fun H locs w => ?_)
        refine lv_goto (tgt := 61) B.1.1 B.1.2.1 dX9_span_48 (by decide) ?_
        exact bX9_span_61 hA B hR  ho hret _ _ _ _ _ _ hf w (lv_sub hl [2] rfl)
    · rw [if_pos c11] at hf
      exact absurd ((congrArg (fun z => z.2.2) (Option.some.inj hf)).trans ho) (Nat.succ_ne_zero _)
  · exact absurd ho h4
set_option maxHeartbeats 4000000 in
set_option maxRecDepth 100000 in
theorem mX9_span (l : Launch) (G : hy_G) (sz : Nat) (σ : hy_S) (x1 : Int32) (x2 : Int32) (x3 : Int32) (o : hy_S × Int32 × Nat) (hf : fX9_span σ x1 x2 x3 = some o) (ho : o.2.2 = 0) : hy_M l yX9_span wsX9_span ({ frames := 7, cells := 0, slots := 0, locals := 103 }) cw G σ sz [.ref (G.2.2.2.1 0), .int x1, .int x2, .int x3] (o.1, o.2.1) := by
  refine Met.ofW (cc := cX9_span) (maxL := 5) (ret := (some .int)) (by decide +kernel) rfl ?_
  intro p e s m args below meth c s₁ B hml hv
  obtain ⟨rfl, hsz, hP, hK, hD0, hN⟩ := hv
  have hx := B.exec
  have hb := B.bytes
  have hr := B.returns
  have hts := atoms_spec (ws := wsX9_span) B.pre
  have hown : s.vm.findClass RX9 = some m.cls := findClass_of_methodNamed B.named
  have hlocks := B.notSynchronized
  subst hsz
  have hD := hD0.self (sz := s.heap.size)
  have hA : ∀ q : Nat, s.heap.size ≤ q → va_A (cw G σ) s.heap.size q := fun q h => Or.inr h
  have hS : va_S (va_A (cw G σ) s.heap.size) s.heap s.heap [] := va_S.rf
  have hl := lv_entry ([.ref (G.2.2.2.1 0), .int x1, .int x2, .int x3]) (n := 5) (Nat.le_of_ble_eq_true rfl)
  rw [lg_entry_eq]
  generalize (lg_sl ([.ref (G.2.2.2.1 0), .int x1, .int x2, .int x3]) ++ List.replicate (5 - (lg_sl ([.ref (G.2.2.2.1 0), .int x1, .int x2, .int x3])).length) Slot.unset).toArray = ls at hl ⊢
  have hl : lv_has ls 5 [(0, .ref (G.2.2.2.1 0)), (1, .int x1), (2, .int x2), (3, .int x3)] := hl
  refine bX9_span_0 (A := va_A (cw G σ) s.heap.size) hA ⟨⟨hx, hb, hml, hown, hts⟩, hK, hN⟩ ⟨Nat.le_of_ble_eq_true rfl, Nat.le_of_ble_eq_true rfl⟩ (o := o) ho (fun τ v pc H locs ls ho w d => ?_) σ x1 x2 x3 _ _ _ hf ⟨hP, hD, hS⟩ hl
  exact W.iret hx hb hr (fun t ht hW => ⟨⟨v, τ, rfl, ⟨by rw [ho], by rw [ho]⟩, by have h9 := w.1; rw [← ht] at h9; exact h9⟩, w.2.2.F ht⟩) w.2.2.2.2 d
set_option maxHeartbeats 4000000 in
set_option maxRecDepth 100000 in
theorem tbX9_span_61 (hA : ∀ q : Nat, s.heap.size ≤ q → A q) (B : hy_B RX9 cX9_span 5 wsX9_span G A p s m args c) (hR : 7 ≤ R.frames ∧ 103 ≤ R.locals) {o : hy_S × Int32 × Nat}  (ho : ¬ o.2.2 = 0) (hT : hy_TC l R meth c) (σ : hy_S) (s0 : Int32) (x2 : Int32) (H : Heap) (locs : List Loc) (ls : Array Slot) (hf : fX9_span_61 σ s0 x2 = some o) (w : hy_w cw G A s σ H locs) (hl : lv_has ls 5 [(2, .int x2)]) : W p l e R s m args below meth c H locs 0 0 (vx_MQ below Qc (hy_X cw G o A) args s 1 6 A) (F0 m 61 ls [.int s0]) := by
  unfold fX9_span_61 at hf
  refine lv_istore (lv' := [(4, .int s0), (2, .int x2)]) B.1.1 B.1.2.1 dX9_span_61 hl (by decide) rfl (fun ls hl => ?_)
  refine lv_iload B.1.1 B.1.2.1 dX9_span_63 (lv_at hl 0 rfl) ?_
  refine lv_ldcw (v := (-1000000000)) B.1.1 B.1.2.1 B.1.2.2.2.1 (B.1.2.2.2.2 (.constant RX9 259 (-1000000000)) (by decide +kernel)) dX9_span_65 ?_
  refine lv_icmp_ne (tgt := 82) B.1.1 B.1.2.1 dX9_span_68 (by decide) (fun c1 => ?_) (fun c1 => ?_)
  · rw [if_neg c1] at hf
    refine lv_iload_n B.1.1 B.1.2.1 dX9_span_82 rfl (lv_at hl 1 rfl) ?_
    refine lv_if_eq (tgt := 92) B.1.1 B.1.2.1 dX9_span_83 (by decide) (fun c2 => ?_) (fun c2 => ?_)
    · rw [if_pos c2] at hf
      refine lv_iload B.1.1 B.1.2.1 dX9_span_92 (lv_at hl 0 rfl) ?_
      exact absurd (congrArg (fun z => z.2.2) (Option.some.inj hf)).symm ho
    · rw [if_neg c2] at hf
      refine lv_iload B.1.1 B.1.2.1 dX9_span_86 (lv_at hl 0 rfl) ?_
      refine lv_ineg B.1.1 B.1.2.1 dX9_span_88 ?_
      refine lv_goto (tgt := 94) B.1.1 B.1.2.1 dX9_span_89 (by decide) ?_
      exact absurd (congrArg (fun z => z.2.2) (Option.some.inj hf)).symm ho
  · rw [if_pos c1] at hf
    have he := Option.some.inj hf
    subst he
    exact hy_throwNW (k := 4) (text := "there is no such bound") B w hT ⟨by have := hR.1; omega, by have := hR.2; omega⟩ (by decide +kernel) (by decide +kernel) (by decide +kernel) (by decide +kernel) (by decide +kernel) (by decide +kernel) (by decide +kernel) (by decide +kernel) hl.1 dX9_span_71 dX9_span_74 dX9_span_75 dX9_span_78 dX9_span_81
set_option maxHeartbeats 4000000 in
set_option maxRecDepth 100000 in
theorem tbX9_span_0 (hA : ∀ q : Nat, s.heap.size ≤ q → A q) (B : hy_B RX9 cX9_span 5 wsX9_span G A p s m args c) (hR : 7 ≤ R.frames ∧ 103 ≤ R.locals) {o : hy_S × Int32 × Nat}  (ho : ¬ o.2.2 = 0) (hT : hy_TC l R meth c) (σ : hy_S) (x1 : Int32) (x2 : Int32) (x3 : Int32) (H : Heap) (locs : List Loc) (ls : Array Slot) (hf : fX9_span σ x1 x2 x3 = some o) (w : hy_w cw G A s σ H locs) (hl : lv_has ls 5 [(0, .ref (G.2.2.2.1 0)), (1, .int x1), (2, .int x2), (3, .int x3)]) : W p l e R s m args below meth c H locs 0 0 (vx_MQ below Qc (hy_X cw G o A) args s 1 6 A) (F0 m 0 ls []) := by
  unfold fX9_span at hf
  refine lv_iload_n B.1.1 B.1.2.1 dX9_span_0 rfl (lv_at hl 1 rfl) ?_
  refine lv_bipush (v := 12) B.1.1 B.1.2.1 dX9_span_1 (by decide) ?_
  rcases hy_bt_some hf with ⟨σ1, v2, h3, hf⟩ | ⟨h3, h4⟩
  · refine hy_csv (As := [.int x1, .int 12]) (rest := []) (o := (σ1, v2)) cw_fix hA B w (fun sz => mX9_needIndex l G sz σ x1 12 _ h3 rfl) (cwS 2 B.1.2.2.2.2 gX9_span_X9_needIndex rfl rfl rfl (by decide +kernel) ⟨by have := hR.1; show 6 + 1 ≤ _; omega, by have := hR.2; show 8 + (2 + 11) + 82 ≤ _; omega⟩) rfl hl.1 rfl (Nat.le_of_ble_eq_true rfl) dX9_span_3 ⟨Nat.zero_le _, Nat.zero_le _⟩ (fun H locs w => ?_)
    refine lv_aload_n B.1.1 B.1.2.1 dX9_span_6 rfl (lv_at hl 0 rfl) ?_
    refine hy_get (k := 8) (v := .ref (G.2.2.2.1 9)) B w (cwq_0 G) rfl in_X9_span_X9 (by decide) (by decide +kernel) rfl dX9_span_7 ?_
    refine lv_iload_n B.1.1 B.1.2.1 dX9_span_10 rfl (lv_at hl 3 rfl) ?_
    obtain ⟨σ5, v6, h7, hf⟩ := hy_bd_some hf
    refine hy_cvv (As := [.int x3]) (rest := []) (o := (σ5, v6)) cw_fix hA B w (fun sz => mX8_recall l G sz σ1 x3 _ h7) (cwV 1 B.1.2.2.2.2 gX9_span_X8_recall rfl rfl rfl (by decide +kernel) ⟨by have := hR.1; show 0 + 1 ≤ _; omega, by have := hR.2; show 8 + (4 + 11) + 0 ≤ _; omega⟩) rfl (cwq_9 G σ1) rfl hl.1 rfl (Nat.le_of_ble_eq_true rfl) dX9_span_11 ⟨Nat.zero_le _, Nat.zero_le _⟩ (fun H locs w => ?_)
    refine lv_aload_n B.1.1 B.1.2.1 dX9_span_14 rfl (lv_at hl 0 rfl) ?_
    refine hy_get (k := 8) (v := .ref (G.2.2.2.1 9)) B w (cwq_0 G) rfl in_X9_span_X9 (by decide) (by decide +kernel) rfl dX9_span_15 ?_
    obtain ⟨σ8, v9, h10, hf⟩ := hy_bd_some hf
    refine hy_cv (As := []) (rest := []) (o := (σ8, v9)) cw_fix hA B w (fun sz => mX8_canAllHold l G sz σ5  _ h10) (cwV 0 B.1.2.2.2.2 gX9_span_X8_canAllHold rfl rfl rfl (by decide +kernel) ⟨by have := hR.1; show 2 + 1 ≤ _; omega, by have := hR.2; show 8 + (1 + 11) + 45 ≤ _; omega⟩) rfl (cwq_9 G σ5) rfl hl.1 rfl (Nat.le_of_ble_eq_true rfl) dX9_span_18 ⟨Nat.zero_le _, Nat.zero_le _⟩ (fun H locs w => ?_)
    refine lv_if_ne (tgt := 34) B.1.1 B.1.2.1 dX9_span_21 (by decide) (fun c11 => ?_) (fun c11 => ?_)
    · rw [if_neg c11] at hf
      refine lv_iload_n B.1.1 B.1.2.1 dX9_span_34 rfl (lv_at hl 2 rfl) ?_
      refine lv_if_eq (tgt := 51) B.1.1 B.1.2.1 dX9_span_35 (by decide) (fun c12 => ?_) (fun c12 => ?_)
      · rw [if_pos c12] at hf
        refine lv_aload_n B.1.1 B.1.2.1 dX9_span_51 rfl (lv_at hl 0 rfl) ?_
        refine hy_get (k := 8) (v := .ref (G.2.2.2.1 9)) B w (cwq_0 G) rfl in_X9_span_X9 (by decide) (by decide +kernel) rfl dX9_span_52 ?_
        refine lv_bipush (v := 12) B.1.1 B.1.2.1 dX9_span_55 (by decide) ?_
        refine lv_iload_n B.1.1 B.1.2.1 dX9_span_57 rfl (lv_at hl 1 rfl) ?_
        obtain ⟨σ13, v14, h15, hf⟩ := hy_bd_some hf
        refine hy_cv (As := [.int 12, .int x1]) (rest := []) (o := (σ13, v14)) cw_fix hA B w (fun sz => mX8_yearsBetween l G sz σ8 12 x1 _ h15) (cwV 2 B.1.2.2.2.2 gX9_span_X8_yearsBetween rfl rfl rfl (by decide +kernel) ⟨by have := hR.1; show 2 + 1 ≤ _; omega, by have := hR.2; show 8 + (3 + 11) + 45 ≤ _; omega⟩) rfl (cwq_9 G σ8) rfl hl.1 rfl (Nat.le_of_ble_eq_true rfl) dX9_span_58 ⟨Nat.zero_le _, Nat.zero_le _⟩ (fun H locs w => ?_)
        exact tbX9_span_61 hA B hR  ho hT _ _ _ _ _ _ hf w (lv_sub hl [2] rfl)
      · rw [if_neg c12] at hf
        refine lv_aload_n B.1.1 B.1.2.1 dX9_span_38 rfl (lv_at hl 0 rfl) ?_
        refine hy_get (k := 8) (v := .ref (G.2.2.2.1 9)) B w (cwq_0 G) rfl in_X9_span_X9 (by decide) (by decide +kernel) rfl dX9_span_39 ?_
        refine lv_iload_n B.1.1 B.1.2.1 dX9_span_42 rfl (lv_at hl 1 rfl) ?_
        refine lv_bipush (v := 12) B.1.1 B.1.2.1 dX9_span_43 (by decide) ?_
        obtain ⟨σ16, v17, h18, hf⟩ := hy_bd_some hf
        refine hy_cv (As := [.int x1, .int 12]) (rest := []) (o := (σ16, v17)) cw_fix hA B w (fun sz => mX8_yearsBetween l G sz σ8 x1 12 _ h18) (cwV 2 B.1.2.2.2.2 gX9_span_X8_yearsBetween rfl rfl rfl (by decide +kernel) ⟨by have := hR.1; show 2 + 1 ≤ _; omega, by have := hR.2; show 8 + (3 + 11) + 45 ≤ _; omega⟩) rfl (cwq_9 G σ8) rfl hl.1 rfl (Nat.le_of_ble_eq_true rfl) dX9_span_45 ⟨Nat.zero_le _, Nat.zero_le _⟩ (fun H locs w => ?_)
        refine lv_goto (tgt := 61) B.1.1 B.1.2.1 dX9_span_48 (by decide) ?_
        exact tbX9_span_61 hA B hR  ho hT _ _ _ _ _ _ hf w (lv_sub hl [2] rfl)
    · rw [if_pos c11] at hf
      have he := Option.some.inj hf
      subst he
      exact hy_throwN (k := 4) (text := "the tellings do not agree") B w hT ⟨by have := hR.1; omega, by have := hR.2; omega⟩ (by decide +kernel) (by decide +kernel) (by decide +kernel) (by decide +kernel) (by decide +kernel) (by decide +kernel) (by decide +kernel) (by decide +kernel) hl.1 dX9_span_24 dX9_span_27 dX9_span_28 dX9_span_30 dX9_span_33
  · exact hy_tsv (As := [.int x1, .int 12]) (rest := []) hA B w hT (fun sz => tX9_needIndex l hT.1 G sz σ x1 12 _ h3 h4) (cwS 2 B.1.2.2.2.2 gX9_span_X9_needIndex rfl rfl rfl (by decide +kernel) ⟨by have := hR.1; show 6 + 1 ≤ _; omega, by have := hR.2; show 8 + (2 + 11) + 82 ≤ _; omega⟩) rfl hl.1 rfl (Nat.le_of_ble_eq_true rfl) dX9_span_3
set_option maxHeartbeats 4000000 in
set_option maxRecDepth 100000 in
theorem tX9_span (l : Launch) (hlt : l.stackTraces = false) (G : hy_G) (sz : Nat) (σ : hy_S) (x1 : Int32) (x2 : Int32) (x3 : Int32) (o : hy_S × Int32 × Nat) (hf : fX9_span σ x1 x2 x3 = some o) (ho : ¬ o.2.2 = 0) : hy_MT l yX9_span wsX9_span ({ frames := 7, cells := 1, slots := 6, locals := 103 }) cw G σ sz [.ref (G.2.2.2.1 0), .int x1, .int x2, .int x3] o := by
  refine vx_ofW (cc := cX9_span) (maxL := 5) (ret := (some .int)) (by decide +kernel) rfl ?_
  intro p e s m args below meth c s₁ B hml h0 hv
  obtain ⟨rfl, hsz, hP, hK, hD0, hN⟩ := hv
  have hx := B.exec
  have hb := B.bytes
  have hr := B.returns
  have hts := atoms_spec (ws := wsX9_span) B.pre
  have hown : s.vm.findClass RX9 = some m.cls := findClass_of_methodNamed B.named
  have hlocks := B.notSynchronized
  subst hsz
  have hD := hD0.self (sz := s.heap.size)
  have hA : ∀ q : Nat, s.heap.size ≤ q → va_A (cw G σ) s.heap.size q := fun q h => Or.inr h
  have hS : va_S (va_A (cw G σ) s.heap.size) s.heap s.heap [] := va_S.rf
  have hl := lv_entry ([.ref (G.2.2.2.1 0), .int x1, .int x2, .int x3]) (n := 5) (Nat.le_of_ble_eq_true rfl)
  rw [lg_entry_eq]
  generalize (lg_sl ([.ref (G.2.2.2.1 0), .int x1, .int x2, .int x3]) ++ List.replicate (5 - (lg_sl ([.ref (G.2.2.2.1 0), .int x1, .int x2, .int x3])).length) Slot.unset).toArray = ls at hl ⊢
  have hl : lv_has ls 5 [(0, .ref (G.2.2.2.1 0)), (1, .int x1), (2, .int x2), (3, .int x3)] := hl
  exact tbX9_span_0 (A := va_A (cw G σ) s.heap.size) hA ⟨⟨hx, hb, hml, hown, hts⟩, hK, hN⟩ ⟨Nat.le_of_ble_eq_true rfl, Nat.le_of_ble_eq_true rfl⟩ (o := o) ho ⟨hlt, hlocks, h0, Nat.le_refl _, Nat.le_refl _⟩ σ x1 x2 x3 _ _ _ hf ⟨hP, hD, hS⟩ hl
end HY3
