section HK5
variable {p : Program} {l : Launch} {e : Env} {R : Room} {s : State} {m : MethodId} {args : Array Value} {below : List Frame} {meth : Method} {c : Code} {Q : State → Prop} {G : hy_G} {A : Nat → Prop} {Qc : Array Value → State → Outcome → State → Prop}
theorem in_X7_put_X7 : ∀ w ∈ u_ws RX7 TX7 2, w ∈ wsX7_put := fun _ h => xt1 (xr (h))
noncomputable def fX7_put_3 : Nat → hy_S → Int32 → Int32 → Option (hy_S × Int32)
  | 0, _, _, _ => none
  | n + 1, σ, x1, x2 => (if x2 < 0 then some (σ, 0) else hy_pa σ 0 400 (σ.2 2) (vp_nar .byte ((Int32.toInt8 ((Int32.toUInt32 x1 >>> (Int32.toUInt32 x2 &&& Int32.toUInt32 31)).toInt32)).toInt32)) (fun σ2 => hy_pf σ2 2 ((σ2.2 2) + 1) (fun σ5 => (fX7_put_3 n) σ5 x1 (x2 + (-8)))))
noncomputable def fX7_put (σ : hy_S) (x1 : Int32) : Option (hy_S × Int32) := fX7_put_3 hy_fu σ x1 24
set_option maxHeartbeats 4000000 in
set_option maxRecDepth 100000 in
theorem bX7_put_3 (hA : ∀ q : Nat, s.heap.size ≤ q → A q) (B : hy_B RX7 cX7_put 3 wsX7_put G A p s m args c) (hR : 0 ≤ R.frames ∧ 0 ≤ R.locals) {o : hy_S × Int32}  (hret : ∀ (σ : hy_S) (pc : Nat) (H : Heap) (locs : List Loc) (ls : Array Slot), o = (σ, 0) → hy_w cw G A s σ H locs → decode cX7_put pc = .ok (.return_, 1) → W p l e R s m args below meth c H locs 0 0 Q (F0 m pc ls [])) : ∀ (n : Nat) (σ : hy_S) (x1 : Int32) (x2 : Int32) (H : Heap) (locs : List Loc) (ls : Array Slot), fX7_put_3 n σ x1 x2 = some o → hy_w cw G A s σ H locs → lv_has ls 3 [(0, .ref (G.2.2.2.1 1)), (1, .int x1), (2, .int x2)] → W p l e R s m args below meth c H locs 0 0 Q (F0 m 3 ls []) := by
  intro n
  induction n with
  | zero => intro σ x1 x2 H locs ls hf; cases hf
  | succ n hk3 =>
    intro σ x1 x2 H locs ls hf w hl
    unfold fX7_put_3 at hf
    refine lv_iload_n B.1.1 B.1.2.1 dX7_put_3 rfl (lv_at hl 2 rfl) ?_
    refine lv_if_lt (tgt := 36) B.1.1 B.1.2.1 dX7_put_4 (by decide) (fun c1 => ?_) (fun c1 => ?_)
    · rw [if_pos c1] at hf
      exact hret _ _ _ _ _ (Option.some.inj hf).symm w dX7_put_36
    · rw [if_neg c1] at hf
      refine lv_aload_n B.1.1 B.1.2.1 dX7_put_7 rfl (lv_at hl 0 rfl) ?_
      refine hy_get (k := 0) (v := .ref (G.2.2.2.1 10)) B w (cwq_1 G) rfl in_X7_put_X7 (by decide) (by decide +kernel) rfl dX7_put_8 ?_
      refine lv_aload_n B.1.1 B.1.2.1 dX7_put_11 rfl (lv_at hl 0 rfl) ?_
      refine hy_get (k := 1) (v := .int (σ.2 2)) B w (cwq_1 G) rfl in_X7_put_X7 (by decide) (by decide +kernel) rfl dX7_put_12 ?_
      refine lv_iload_n B.1.1 B.1.2.1 dX7_put_15 rfl (lv_at hl 1 rfl) ?_
      refine lv_iload_n B.1.1 B.1.2.1 dX7_put_16 rfl (lv_at hl 2 rfl) ?_
      refine lv_iushr (v := (Int32.toUInt32 x1 >>> (Int32.toUInt32 x2 &&& Int32.toUInt32 31)).toInt32) B.1.1 B.1.2.1 dX7_put_17 rfl ?_
      refine lv_i2b (v := (Int32.toInt8 ((Int32.toUInt32 x1 >>> (Int32.toUInt32 x2 &&& Int32.toUInt32 31)).toInt32)).toInt32) B.1.1 B.1.2.1 dX7_put_18 rfl ?_
      obtain ⟨h4, σ2, e3, hf⟩ := hy_pa_some hf
      refine hy_bast B w (cwq_10 G) (cws_10 G) h4 e3 dX7_put_19 (fun H locs w => ?_)
      refine lv_aload_n B.1.1 B.1.2.1 dX7_put_20 rfl (lv_at hl 0 rfl) ?_
      refine lv_dup B.1.1 B.1.2.1 dX7_put_21 rfl ?_
      refine hy_get (k := 1) (v := .int (σ2.2 2)) B w (cwq_1 G) rfl in_X7_put_X7 (by decide) (by decide +kernel) rfl dX7_put_22 ?_
      refine lv_iconst (v := 1) B.1.1 B.1.2.1 dX7_put_25 (by decide) ?_
      refine lv_iadd B.1.1 B.1.2.1 dX7_put_26 ?_
      obtain ⟨σ5, e6, hf⟩ := hy_pf_some hf
      refine hy_put (k := 1) B w (cwq_1 G) rfl in_X7_put_X7 tyX7 tyX7_ok nmX7 (by decide) (by decide +kernel) rfl rfl (by show 1 < 2; decide) (cwp_2 G) e6 dX7_put_27 (fun H locs w => ?_)
      refine lv_iinc (v := (x2 + (-8))) (lv' := [(2, .int (x2 + (-8))), (0, .ref (G.2.2.2.1 1)), (1, .int x1)]) B.1.1 B.1.2.1 dX7_put_30 hl (k := 2) rfl rfl (by decide) rfl (fun ls hl => ?_)
      refine lv_goto (tgt := 3) B.1.1 B.1.2.1 dX7_put_33 (by decide) ?_
      exact hk3 _ _ _ _ _ _ hf w (lv_sub hl [1, 2, 0] rfl)
set_option maxHeartbeats 4000000 in
set_option maxRecDepth 100000 in
theorem bX7_put_0 (hA : ∀ q : Nat, s.heap.size ≤ q → A q) (B : hy_B RX7 cX7_put 3 wsX7_put G A p s m args c) (hR : 0 ≤ R.frames ∧ 0 ≤ R.locals) {o : hy_S × Int32}  (hret : ∀ (σ : hy_S) (pc : Nat) (H : Heap) (locs : List Loc) (ls : Array Slot), o = (σ, 0) → hy_w cw G A s σ H locs → decode cX7_put pc = .ok (.return_, 1) → W p l e R s m args below meth c H locs 0 0 Q (F0 m pc ls [])) (σ : hy_S) (x1 : Int32) (H : Heap) (locs : List Loc) (ls : Array Slot) (hf : fX7_put σ x1 = some o) (w : hy_w cw G A s σ H locs) (hl : lv_has ls 3 [(0, .ref (G.2.2.2.1 1)), (1, .int x1)]) : W p l e R s m args below meth c H locs 0 0 Q (F0 m 0 ls []) := by
  unfold fX7_put at hf
  refine lv_bipush (v := 24) B.1.1 B.1.2.1 dX7_put_0 (by decide) ?_
  refine lv_istore_n (lv' := [(2, .int 24), (0, .ref (G.2.2.2.1 1)), (1, .int x1)]) B.1.1 B.1.2.1 dX7_put_2 rfl hl (by decide) rfl (fun ls hl => ?_)
  exact bX7_put_3 hA B hR  hret _ _ _ _ _ _ _ hf w (lv_sub hl [1, 2, 0] rfl)
set_option maxHeartbeats 4000000 in
set_option maxRecDepth 100000 in
theorem mX7_put (l : Launch) (G : hy_G) (sz : Nat) (σ : hy_S) (x1 : Int32) (o : hy_S × Int32) (hf : fX7_put σ x1 = some o) : hy_Mv l yX7_put wsX7_put ({ frames := 0, cells := 0, slots := 0, locals := 0 }) cw G σ sz [.ref (G.2.2.2.1 1), .int x1] o := by
  refine Met.ofW (cc := cX7_put) (maxL := 3) (ret := none) (by decide +kernel) rfl ?_
  intro p e s m args below meth c s₁ B hml hv
  obtain ⟨rfl, hsz, hP, hK, hD0, hN⟩ := hv
  have hx := B.exec
  have hb := B.bytes
  have hr := B.returns
  have hts := atoms_spec (ws := wsX7_put) B.pre
  have hown : s.vm.findClass RX7 = some m.cls := findClass_of_methodNamed B.named
  have hlocks := B.notSynchronized
  subst hsz
  have hD := hD0.self (sz := s.heap.size)
  have hA : ∀ q : Nat, s.heap.size ≤ q → va_A (cw G σ) s.heap.size q := fun q h => Or.inr h
  have hS : va_S (va_A (cw G σ) s.heap.size) s.heap s.heap [] := va_S.rf
  have hl := lv_entry ([.ref (G.2.2.2.1 1), .int x1]) (n := 3) (Nat.le_of_ble_eq_true rfl)
  rw [lg_entry_eq]
  generalize (lg_sl ([.ref (G.2.2.2.1 1), .int x1]) ++ List.replicate (3 - (lg_sl ([.ref (G.2.2.2.1 1), .int x1])).length) Slot.unset).toArray = ls at hl ⊢
  have hl : lv_has ls 3 [(0, .ref (G.2.2.2.1 1)), (1, .int x1)] := hl
  refine bX7_put_0 (A := va_A (cw G σ) s.heap.size) hA ⟨⟨hx, hb, hml, hown, hts⟩, hK, hN⟩ ⟨Nat.le_of_ble_eq_true rfl, Nat.le_of_ble_eq_true rfl⟩ (o := o) (fun τ pc H locs ls ho w d => ?_) σ x1 _ _ _ hf ⟨hP, hD, hS⟩ hl
  exact W.vret hx hb hr (fun t ht hW => ⟨⟨τ, rfl, by rw [ho], by have h9 := w.1; rw [← ht] at h9; exact h9⟩, w.2.2.F ht⟩) w.2.2.2.2 d
theorem in_X7_append_X7 : ∀ w ∈ u_ws RX7 TX7 2, w ∈ wsX7_append := fun _ h => xt1 (xr (h))
noncomputable def fX7_append (σ : hy_S) (x1 : Int32) (x2 : Int32) (x3 : Int32) (x4 : Int32) (x5 : Int32) : Option (hy_S × Int32) := (if ((σ.2 2) + 20) ≤ 400 then hy_bd (fX7_put σ x1) (fun σ2 v3 => hy_bd (fX7_put σ2 x2) (fun σ5 v6 => hy_bd (fX7_put σ5 x3) (fun σ8 v9 => hy_bd (fX7_put σ8 x4) (fun σ11 v12 => hy_bd (fX7_put σ11 x5) (fun σ14 v15 => some (σ14, (σ14.2 2))))))) else some (σ, (-1)))
set_option maxHeartbeats 4000000 in
set_option maxRecDepth 100000 in
theorem bX7_append_0 (hA : ∀ q : Nat, s.heap.size ≤ q → A q) (B : hy_B RX7 cX7_append 6 wsX7_append G A p s m args c) (hR : 1 ≤ R.frames ∧ 22 ≤ R.locals) {o : hy_S × Int32}  (hret : ∀ (σ : hy_S) (v : Int32) (pc : Nat) (H : Heap) (locs : List Loc) (ls : Array Slot), o = (σ, v) → hy_w cw G A s σ H locs → decode cX7_append pc = .ok (.ireturn, 1) → W p l e R s m args below meth c H locs 0 0 Q (F0 m pc ls [.int v])) (σ : hy_S) (x1 : Int32) (x2 : Int32) (x3 : Int32) (x4 : Int32) (x5 : Int32) (H : Heap) (locs : List Loc) (ls : Array Slot) (hf : fX7_append σ x1 x2 x3 x4 x5 = some o) (w : hy_w cw G A s σ H locs) (hl : lv_has ls 6 [(0, .ref (G.2.2.2.1 1)), (1, .int x1), (2, .int x2), (3, .int x3), (4, .int x4), (5, .int x5)]) : W p l e R s m args below meth c H locs 0 0 Q (F0 m 0 ls []) := by
  unfold fX7_append at hf
  refine lv_aload_n B.1.1 B.1.2.1 dX7_append_0 rfl (lv_at hl 0 rfl) ?_
  refine hy_get (k := 1) (v := .int (σ.2 2)) B w (cwq_1 G) rfl in_X7_append_X7 (by decide) (by decide +kernel) rfl dX7_append_1 ?_
  refine lv_bipush (v := 20) B.1.1 B.1.2.1 dX7_append_4 (by decide) ?_
  refine lv_iadd B.1.1 B.1.2.1 dX7_append_6 ?_
  refine lv_sipush (v := 400) B.1.1 B.1.2.1 dX7_append_7 (by decide) ?_
  refine lv_icmp_le (tgt := 15) B.1.1 B.1.2.1 dX7_append_10 (by decide) (fun c1 => ?_) (fun c1 => ?_)
  · rw [if_pos c1] at hf
    refine lv_aload_n B.1.1 B.1.2.1 dX7_append_15 rfl (lv_at hl 0 rfl) ?_
    refine lv_iload_n B.1.1 B.1.2.1 dX7_append_16 rfl (lv_at hl 1 rfl) ?_
    obtain ⟨σ2, v3, h4, hf⟩ := hy_bd_some hf
    refine hy_cvv (As := [.int x1]) (rest := []) (o := (σ2, v3)) cw_fix hA B w (fun sz => mX7_put l G sz σ x1 _ h4) (cwV 1 B.1.2.2.2.2 gX7_append_X7_put rfl rfl rfl (by decide +kernel) ⟨by have := hR.1; show 0 + 1 ≤ _; omega, by have := hR.2; show 8 + (3 + 11) + 0 ≤ _; omega⟩) rfl (cwq_1 G σ) rfl hl.1 rfl (Nat.le_of_ble_eq_true rfl) dX7_append_17 ⟨Nat.zero_le _, Nat.zero_le _⟩ (fun H locs w => ?_)
    refine lv_aload_n B.1.1 B.1.2.1 dX7_append_20 rfl (lv_at hl 0 rfl) ?_
    refine lv_iload_n B.1.1 B.1.2.1 dX7_append_21 rfl (lv_at hl 2 rfl) ?_
    obtain ⟨σ5, v6, h7, hf⟩ := hy_bd_some hf
    refine hy_cvv (As := [.int x2]) (rest := []) (o := (σ5, v6)) cw_fix hA B w (fun sz => mX7_put l G sz σ2 x2 _ h7) (cwV 1 B.1.2.2.2.2 gX7_append_X7_put rfl rfl rfl (by decide +kernel) ⟨by have := hR.1; show 0 + 1 ≤ _; omega, by have := hR.2; show 8 + (3 + 11) + 0 ≤ _; omega⟩) rfl (cwq_1 G σ2) rfl hl.1 rfl (Nat.le_of_ble_eq_true rfl) dX7_append_22 ⟨Nat.zero_le _, Nat.zero_le _⟩ (fun H locs w => ?_)
    refine lv_aload_n B.1.1 B.1.2.1 dX7_append_25 rfl (lv_at hl 0 rfl) ?_
    refine lv_iload_n B.1.1 B.1.2.1 dX7_append_26 rfl (lv_at hl 3 rfl) ?_
    obtain ⟨σ8, v9, h10, hf⟩ := hy_bd_some hf
    refine hy_cvv (As := [.int x3]) (rest := []) (o := (σ8, v9)) cw_fix hA B w (fun sz => mX7_put l G sz σ5 x3 _ h10) (cwV 1 B.1.2.2.2.2 gX7_append_X7_put rfl rfl rfl (by decide +kernel) ⟨by have := hR.1; show 0 + 1 ≤ _; omega, by have := hR.2; show 8 + (3 + 11) + 0 ≤ _; omega⟩) rfl (cwq_1 G σ5) rfl hl.1 rfl (Nat.le_of_ble_eq_true rfl) dX7_append_27 ⟨Nat.zero_le _, Nat.zero_le _⟩ (fun H locs w => ?_)
    refine lv_aload_n B.1.1 B.1.2.1 dX7_append_30 rfl (lv_at hl 0 rfl) ?_
    refine lv_iload B.1.1 B.1.2.1 dX7_append_31 (lv_at hl 4 rfl) ?_
    obtain ⟨σ11, v12, h13, hf⟩ := hy_bd_some hf
    refine hy_cvv (As := [.int x4]) (rest := []) (o := (σ11, v12)) cw_fix hA B w (fun sz => mX7_put l G sz σ8 x4 _ h13) (cwV 1 B.1.2.2.2.2 gX7_append_X7_put rfl rfl rfl (by decide +kernel) ⟨by have := hR.1; show 0 + 1 ≤ _; omega, by have := hR.2; show 8 + (3 + 11) + 0 ≤ _; omega⟩) rfl (cwq_1 G σ8) rfl hl.1 rfl (Nat.le_of_ble_eq_true rfl) dX7_append_33 ⟨Nat.zero_le _, Nat.zero_le _⟩ (fun H locs w => ?_)
    refine lv_aload_n B.1.1 B.1.2.1 dX7_append_36 rfl (lv_at hl 0 rfl) ?_
    refine lv_iload B.1.1 B.1.2.1 dX7_append_37 (lv_at hl 5 rfl) ?_
    obtain ⟨σ14, v15, h16, hf⟩ := hy_bd_some hf
    refine hy_cvv (As := [.int x5]) (rest := []) (o := (σ14, v15)) cw_fix hA B w (fun sz => mX7_put l G sz σ11 x5 _ h16) (cwV 1 B.1.2.2.2.2 gX7_append_X7_put rfl rfl rfl (by decide +kernel) ⟨by have := hR.1; show 0 + 1 ≤ _; omega, by have := hR.2; show 8 + (3 + 11) + 0 ≤ _; omega⟩) rfl (cwq_1 G σ11) rfl hl.1 rfl (Nat.le_of_ble_eq_true rfl) dX7_append_39 ⟨Nat.zero_le _, Nat.zero_le _⟩ (fun H locs w => ?_)
    refine lv_aload_n B.1.1 B.1.2.1 dX7_append_42 rfl (lv_at hl 0 rfl) ?_
    refine hy_get (k := 1) (v := .int (σ14.2 2)) B w (cwq_1 G) rfl in_X7_append_X7 (by decide) (by decide +kernel) rfl dX7_append_43 ?_
    exact hret _ _ _ _ _ _ (Option.some.inj hf).symm w dX7_append_46
  · rw [if_neg c1] at hf
    refine lv_iconst (v := (-1)) B.1.1 B.1.2.1 dX7_append_13 (by decide) ?_
    exact hret _ _ _ _ _ _ (Option.some.inj hf).symm w dX7_append_14
set_option maxHeartbeats 4000000 in
set_option maxRecDepth 100000 in
theorem mX7_append (l : Launch) (G : hy_G) (sz : Nat) (σ : hy_S) (x1 : Int32) (x2 : Int32) (x3 : Int32) (x4 : Int32) (x5 : Int32) (o : hy_S × Int32) (hf : fX7_append σ x1 x2 x3 x4 x5 = some o) : hy_M l yX7_append wsX7_append ({ frames := 1, cells := 0, slots := 0, locals := 22 }) cw G σ sz [.ref (G.2.2.2.1 1), .int x1, .int x2, .int x3, .int x4, .int x5] o := by
  refine Met.ofW (cc := cX7_append) (maxL := 6) (ret := (some .int)) (by decide +kernel) rfl ?_
  intro p e s m args below meth c s₁ B hml hv
  obtain ⟨rfl, hsz, hP, hK, hD0, hN⟩ := hv
  have hx := B.exec
  have hb := B.bytes
  have hr := B.returns
  have hts := atoms_spec (ws := wsX7_append) B.pre
  have hown : s.vm.findClass RX7 = some m.cls := findClass_of_methodNamed B.named
  have hlocks := B.notSynchronized
  subst hsz
  have hD := hD0.self (sz := s.heap.size)
  have hA : ∀ q : Nat, s.heap.size ≤ q → va_A (cw G σ) s.heap.size q := fun q h => Or.inr h
  have hS : va_S (va_A (cw G σ) s.heap.size) s.heap s.heap [] := va_S.rf
  have hl := lv_entry ([.ref (G.2.2.2.1 1), .int x1, .int x2, .int x3, .int x4, .int x5]) (n := 6) (Nat.le_of_ble_eq_true rfl)
  rw [lg_entry_eq]
  generalize (lg_sl ([.ref (G.2.2.2.1 1), .int x1, .int x2, .int x3, .int x4, .int x5]) ++ List.replicate (6 - (lg_sl ([.ref (G.2.2.2.1 1), .int x1, .int x2, .int x3, .int x4, .int x5])).length) Slot.unset).toArray = ls at hl ⊢
  have hl : lv_has ls 6 [(0, .ref (G.2.2.2.1 1)), (1, .int x1), (2, .int x2), (3, .int x3), (4, .int x4), (5, .int x5)] := hl
  refine bX7_append_0 (A := va_A (cw G σ) s.heap.size) hA ⟨⟨hx, hb, hml, hown, hts⟩, hK, hN⟩ ⟨Nat.le_of_ble_eq_true rfl, Nat.le_of_ble_eq_true rfl⟩ (o := o) (fun τ v pc H locs ls ho w d => ?_) σ x1 x2 x3 x4 x5 _ _ _ hf ⟨hP, hD, hS⟩ hl
  exact W.iret hx hb hr (fun t ht hW => ⟨⟨v, τ, rfl, ⟨by rw [ho], by rw [ho]⟩, by have h9 := w.1; rw [← ht] at h9; exact h9⟩, w.2.2.F ht⟩) w.2.2.2.2 d
theorem in_X7_keepFirst_X7 : ∀ w ∈ u_ws RX7 TX7 2, w ∈ wsX7_keepFirst := fun _ h => xt1 (xr (h))
noncomputable def fX7_keepFirst (σ : hy_S) (x1 : Int32) : Option (hy_S × Int32) := (if x1 < 0 then some (σ, 0) else (if x1 ≤ (σ.2 2) then hy_pf σ 2 x1 (fun σ3 => some (σ3, 1)) else some (σ, 0)))
set_option maxHeartbeats 4000000 in
set_option maxRecDepth 100000 in
theorem bX7_keepFirst_0 (hA : ∀ q : Nat, s.heap.size ≤ q → A q) (B : hy_B RX7 cX7_keepFirst 2 wsX7_keepFirst G A p s m args c) (hR : 0 ≤ R.frames ∧ 0 ≤ R.locals) {o : hy_S × Int32}  (hret : ∀ (σ : hy_S) (v : Int32) (pc : Nat) (H : Heap) (locs : List Loc) (ls : Array Slot), o = (σ, v) → (v = 0 ∨ v = 1) → hy_w cw G A s σ H locs → decode cX7_keepFirst pc = .ok (.ireturn, 1) → W p l e R s m args below meth c H locs 0 0 Q (F0 m pc ls [.int v])) (σ : hy_S) (x1 : Int32) (H : Heap) (locs : List Loc) (ls : Array Slot) (hf : fX7_keepFirst σ x1 = some o) (w : hy_w cw G A s σ H locs) (hl : lv_has ls 2 [(0, .ref (G.2.2.2.1 1)), (1, .int x1)]) : W p l e R s m args below meth c H locs 0 0 Q (F0 m 0 ls []) := by
  unfold fX7_keepFirst at hf
  refine lv_iload_n B.1.1 B.1.2.1 dX7_keepFirst_0 rfl (lv_at hl 1 rfl) ?_
  refine lv_if_lt (tgt := 12) B.1.1 B.1.2.1 dX7_keepFirst_1 (by decide) (fun c1 => ?_) (fun c1 => ?_)
  · rw [if_pos c1] at hf
    refine lv_iconst (v := 0) B.1.1 B.1.2.1 dX7_keepFirst_12 (by decide) ?_
    exact hret _ _ _ _ _ _ (Option.some.inj hf).symm (Or.inl rfl) w dX7_keepFirst_13
  · rw [if_neg c1] at hf
    refine lv_iload_n B.1.1 B.1.2.1 dX7_keepFirst_4 rfl (lv_at hl 1 rfl) ?_
    refine lv_aload_n B.1.1 B.1.2.1 dX7_keepFirst_5 rfl (lv_at hl 0 rfl) ?_
    refine hy_get (k := 1) (v := .int (σ.2 2)) B w (cwq_1 G) rfl in_X7_keepFirst_X7 (by decide) (by decide +kernel) rfl dX7_keepFirst_6 ?_
    refine lv_icmp_le (tgt := 14) B.1.1 B.1.2.1 dX7_keepFirst_9 (by decide) (fun c2 => ?_) (fun c2 => ?_)
    · rw [if_pos c2] at hf
      refine lv_aload_n B.1.1 B.1.2.1 dX7_keepFirst_14 rfl (lv_at hl 0 rfl) ?_
      refine lv_iload_n B.1.1 B.1.2.1 dX7_keepFirst_15 rfl (lv_at hl 1 rfl) ?_
      obtain ⟨σ3, e4, hf⟩ := hy_pf_some hf
      refine hy_put (k := 1) B w (cwq_1 G) rfl in_X7_keepFirst_X7 tyX7 tyX7_ok nmX7 (by decide) (by decide +kernel) rfl rfl (by show 1 < 2; decide) (cwp_2 G) e4 dX7_keepFirst_16 (fun H locs w => ?_)
      refine lv_iconst (v := 1) B.1.1 B.1.2.1 dX7_keepFirst_19 (by decide) ?_
      exact hret _ _ _ _ _ _ (Option.some.inj hf).symm (Or.inr rfl) w dX7_keepFirst_20
    · rw [if_neg c2] at hf
      refine lv_iconst (v := 0) B.1.1 B.1.2.1 dX7_keepFirst_12 (by decide) ?_
      exact hret _ _ _ _ _ _ (Option.some.inj hf).symm (Or.inl rfl) w dX7_keepFirst_13
set_option maxHeartbeats 4000000 in
set_option maxRecDepth 100000 in
theorem mX7_keepFirst (l : Launch) (G : hy_G) (sz : Nat) (σ : hy_S) (x1 : Int32) (o : hy_S × Int32) (hf : fX7_keepFirst σ x1 = some o) : hy_M l yX7_keepFirst wsX7_keepFirst ({ frames := 0, cells := 0, slots := 0, locals := 0 }) cw G σ sz [.ref (G.2.2.2.1 1), .int x1] o := by
  refine Met.ofW (cc := cX7_keepFirst) (maxL := 2) (ret := (some .boolean)) (by decide +kernel) rfl ?_
  intro p e s m args below meth c s₁ B hml hv
  obtain ⟨rfl, hsz, hP, hK, hD0, hN⟩ := hv
  have hx := B.exec
  have hb := B.bytes
  have hr := B.returns
  have hts := atoms_spec (ws := wsX7_keepFirst) B.pre
  have hown : s.vm.findClass RX7 = some m.cls := findClass_of_methodNamed B.named
  have hlocks := B.notSynchronized
  subst hsz
  have hD := hD0.self (sz := s.heap.size)
  have hA : ∀ q : Nat, s.heap.size ≤ q → va_A (cw G σ) s.heap.size q := fun q h => Or.inr h
  have hS : va_S (va_A (cw G σ) s.heap.size) s.heap s.heap [] := va_S.rf
  have hl := lv_entry ([.ref (G.2.2.2.1 1), .int x1]) (n := 2) (Nat.le_of_ble_eq_true rfl)
  rw [lg_entry_eq]
  generalize (lg_sl ([.ref (G.2.2.2.1 1), .int x1]) ++ List.replicate (2 - (lg_sl ([.ref (G.2.2.2.1 1), .int x1])).length) Slot.unset).toArray = ls at hl ⊢
  have hl : lv_has ls 2 [(0, .ref (G.2.2.2.1 1)), (1, .int x1)] := hl
  refine bX7_keepFirst_0 (A := va_A (cw G σ) s.heap.size) hA ⟨⟨hx, hb, hml, hown, hts⟩, hK, hN⟩ ⟨Nat.le_of_ble_eq_true rfl, Nat.le_of_ble_eq_true rfl⟩ (o := o) (fun τ v pc H locs ls ho hz w d => ?_) σ x1 _ _ _ hf ⟨hP, hD, hS⟩ hl
  exact W.zret hx hb hr (hy_bool hz) (fun t ht hW => ⟨⟨v, τ, rfl, ⟨by rw [ho], by rw [ho]⟩, by have h9 := w.1; rw [← ht] at h9; exact h9⟩, w.2.2.F ht⟩) w.2.2.2.2 d
theorem in_X7_clear_X7 : ∀ w ∈ u_ws RX7 TX7 2, w ∈ wsX7_clear := fun _ h => xt1 (xr (h))
noncomputable def fX7_clear (σ : hy_S) : Option (hy_S × Int32) := hy_pf σ 2 0 (fun σ1 => some (σ1, 0))
set_option maxHeartbeats 4000000 in
set_option maxRecDepth 100000 in
theorem bX7_clear_0 (hA : ∀ q : Nat, s.heap.size ≤ q → A q) (B : hy_B RX7 cX7_clear 1 wsX7_clear G A p s m args c) (hR : 0 ≤ R.frames ∧ 0 ≤ R.locals) {o : hy_S × Int32}  (hret : ∀ (σ : hy_S) (pc : Nat) (H : Heap) (locs : List Loc) (ls : Array Slot), o = (σ, 0) → hy_w cw G A s σ H locs → decode cX7_clear pc = .ok (.return_, 1) → W p l e R s m args below meth c H locs 0 0 Q (F0 m pc ls [])) (σ : hy_S) (H : Heap) (locs : List Loc) (ls : Array Slot) (hf : fX7_clear σ = some o) (w : hy_w cw G A s σ H locs) (hl : lv_has ls 1 [(0, .ref (G.2.2.2.1 1))]) : W p l e R s m args below meth c H locs 0 0 Q (F0 m 0 ls []) := by
  unfold fX7_clear at hf
  refine lv_aload_n B.1.1 B.1.2.1 dX7_clear_0 rfl (lv_at hl 0 rfl) ?_
  refine lv_iconst (v := 0) B.1.1 B.1.2.1 dX7_clear_1 (by decide) ?_
  obtain ⟨σ1, e2, hf⟩ := hy_pf_some hf
  refine hy_put (k := 1) B w (cwq_1 G) rfl in_X7_clear_X7 tyX7 tyX7_ok nmX7 (by decide) (by decide +kernel) rfl rfl (by show 1 < 2; decide) (cwp_2 G) e2 dX7_clear_2 (fun H locs w => ?_)
  exact hret _ _ _ _ _ (Option.some.inj hf).symm w dX7_clear_5
set_option maxHeartbeats 4000000 in
set_option maxRecDepth 100000 in
theorem mX7_clear (l : Launch) (G : hy_G) (sz : Nat) (σ : hy_S) (o : hy_S × Int32) (hf : fX7_clear σ = some o) : hy_Mv l yX7_clear wsX7_clear ({ frames := 0, cells := 0, slots := 0, locals := 0 }) cw G σ sz [.ref (G.2.2.2.1 1)] o := by
  refine Met.ofW (cc := cX7_clear) (maxL := 1) (ret := none) (by decide +kernel) rfl ?_
  intro p e s m args below meth c s₁ B hml hv
  obtain ⟨rfl, hsz, hP, hK, hD0, hN⟩ := hv
  have hx := B.exec
  have hb := B.bytes
  have hr := B.returns
  have hts := atoms_spec (ws := wsX7_clear) B.pre
  have hown : s.vm.findClass RX7 = some m.cls := findClass_of_methodNamed B.named
  have hlocks := B.notSynchronized
  subst hsz
  have hD := hD0.self (sz := s.heap.size)
  have hA : ∀ q : Nat, s.heap.size ≤ q → va_A (cw G σ) s.heap.size q := fun q h => Or.inr h
  have hS : va_S (va_A (cw G σ) s.heap.size) s.heap s.heap [] := va_S.rf
  have hl := lv_entry ([.ref (G.2.2.2.1 1)]) (n := 1) (Nat.le_of_ble_eq_true rfl)
  rw [lg_entry_eq]
  generalize (lg_sl ([.ref (G.2.2.2.1 1)]) ++ List.replicate (1 - (lg_sl ([.ref (G.2.2.2.1 1)])).length) Slot.unset).toArray = ls at hl ⊢
  have hl : lv_has ls 1 [(0, .ref (G.2.2.2.1 1))] := hl
  refine bX7_clear_0 (A := va_A (cw G σ) s.heap.size) hA ⟨⟨hx, hb, hml, hown, hts⟩, hK, hN⟩ ⟨Nat.le_of_ble_eq_true rfl, Nat.le_of_ble_eq_true rfl⟩ (o := o) (fun τ pc H locs ls ho w d => ?_) σ _ _ _ hf ⟨hP, hD, hS⟩ hl
  exact W.vret hx hb hr (fun t ht hW => ⟨⟨τ, rfl, by rw [ho], by have h9 := w.1; rw [← ht] at h9; exact h9⟩, w.2.2.F ht⟩) w.2.2.2.2 d
theorem in_X7_endsAt_X7 : ∀ w ∈ u_ws RX7 TX7 2, w ∈ wsX7_endsAt := fun _ h => xt1 (xr (h))
noncomputable def fX7_endsAt (σ : hy_S) (x1 : Int32) : Option (hy_S × Int32) := (if x1 < (σ.2 2) then some (σ, 0) else some (σ, 1))
set_option maxHeartbeats 4000000 in
set_option maxRecDepth 100000 in
theorem bX7_endsAt_0 (hA : ∀ q : Nat, s.heap.size ≤ q → A q) (B : hy_B RX7 cX7_endsAt 2 wsX7_endsAt G A p s m args c) (hR : 0 ≤ R.frames ∧ 0 ≤ R.locals) {o : hy_S × Int32}  (hret : ∀ (σ : hy_S) (v : Int32) (pc : Nat) (H : Heap) (locs : List Loc) (ls : Array Slot), o = (σ, v) → (v = 0 ∨ v = 1) → hy_w cw G A s σ H locs → decode cX7_endsAt pc = .ok (.ireturn, 1) → W p l e R s m args below meth c H locs 0 0 Q (F0 m pc ls [.int v])) (σ : hy_S) (x1 : Int32) (H : Heap) (locs : List Loc) (ls : Array Slot) (hf : fX7_endsAt σ x1 = some o) (w : hy_w cw G A s σ H locs) (hl : lv_has ls 2 [(0, .ref (G.2.2.2.1 1)), (1, .int x1)]) : W p l e R s m args below meth c H locs 0 0 Q (F0 m 0 ls []) := by
  unfold fX7_endsAt at hf
  refine lv_iload_n B.1.1 B.1.2.1 dX7_endsAt_0 rfl (lv_at hl 1 rfl) ?_
  refine lv_aload_n B.1.1 B.1.2.1 dX7_endsAt_1 rfl (lv_at hl 0 rfl) ?_
  refine hy_get (k := 1) (v := .int (σ.2 2)) B w (cwq_1 G) rfl in_X7_endsAt_X7 (by decide) (by decide +kernel) rfl dX7_endsAt_2 ?_
  refine lv_icmp_lt (tgt := 12) B.1.1 B.1.2.1 dX7_endsAt_5 (by decide) (fun c1 => ?_) (fun c1 => ?_)
  · rw [if_pos c1] at hf
    refine lv_iconst (v := 0) B.1.1 B.1.2.1 dX7_endsAt_12 (by decide) ?_
    exact hret _ _ _ _ _ _ (Option.some.inj hf).symm (Or.inl rfl) w dX7_endsAt_13
  · rw [if_neg c1] at hf
    refine lv_iconst (v := 1) B.1.1 B.1.2.1 dX7_endsAt_8 (by decide) ?_
    refine lv_goto (tgt := 13) B.1.1 B.1.2.1 dX7_endsAt_9 (by decide) ?_
    exact hret _ _ _ _ _ _ (Option.some.inj hf).symm (Or.inr rfl) w dX7_endsAt_13
set_option maxHeartbeats 4000000 in
set_option maxRecDepth 100000 in
theorem mX7_endsAt (l : Launch) (G : hy_G) (sz : Nat) (σ : hy_S) (x1 : Int32) (o : hy_S × Int32) (hf : fX7_endsAt σ x1 = some o) : hy_M l yX7_endsAt wsX7_endsAt ({ frames := 0, cells := 0, slots := 0, locals := 0 }) cw G σ sz [.ref (G.2.2.2.1 1), .int x1] o := by
  refine Met.ofW (cc := cX7_endsAt) (maxL := 2) (ret := (some .boolean)) (by decide +kernel) rfl ?_
  intro p e s m args below meth c s₁ B hml hv
  obtain ⟨rfl, hsz, hP, hK, hD0, hN⟩ := hv
  have hx := B.exec
  have hb := B.bytes
  have hr := B.returns
  have hts := atoms_spec (ws := wsX7_endsAt) B.pre
  have hown : s.vm.findClass RX7 = some m.cls := findClass_of_methodNamed B.named
  have hlocks := B.notSynchronized
  subst hsz
  have hD := hD0.self (sz := s.heap.size)
  have hA : ∀ q : Nat, s.heap.size ≤ q → va_A (cw G σ) s.heap.size q := fun q h => Or.inr h
  have hS : va_S (va_A (cw G σ) s.heap.size) s.heap s.heap [] := va_S.rf
  have hl := lv_entry ([.ref (G.2.2.2.1 1), .int x1]) (n := 2) (Nat.le_of_ble_eq_true rfl)
  rw [lg_entry_eq]
  generalize (lg_sl ([.ref (G.2.2.2.1 1), .int x1]) ++ List.replicate (2 - (lg_sl ([.ref (G.2.2.2.1 1), .int x1])).length) Slot.unset).toArray = ls at hl ⊢
  have hl : lv_has ls 2 [(0, .ref (G.2.2.2.1 1)), (1, .int x1)] := hl
  refine bX7_endsAt_0 (A := va_A (cw G σ) s.heap.size) hA ⟨⟨hx, hb, hml, hown, hts⟩, hK, hN⟩ ⟨Nat.le_of_ble_eq_true rfl, Nat.le_of_ble_eq_true rfl⟩ (o := o) (fun τ v pc H locs ls ho hz w d => ?_) σ x1 _ _ _ hf ⟨hP, hD, hS⟩ hl
  exact W.zret hx hb hr (hy_bool hz) (fun t ht hW => ⟨⟨v, τ, rfl, ⟨by rw [ho], by rw [ho]⟩, by have h9 := w.1; rw [← ht] at h9; exact h9⟩, w.2.2.F ht⟩) w.2.2.2.2 d
theorem in_X7_past_X7 : ∀ w ∈ u_ws RX7 TX7 2, w ∈ wsX7_past := fun _ h => xt1 (xr (h))
noncomputable def fX7_past_40 (σ : hy_S) (x4 : Int32) : Option (hy_S × Int32) := some (σ, x4)
noncomputable def fX7_past_3 : Nat → hy_S → Int32 → Int32 → Int32 → Option (hy_S × Int32)
  | 0, _, _, _, _ => none
  | n + 1, σ, x2, x3, x4 => (if (σ.2 2) ≤ x4 then fX7_past_40 σ x4 else hy_ga σ 0 400 x4 (fun v2 => (if v2 < x2 then fX7_past_40 σ x4 else hy_ga σ 0 400 x4 (fun v6 => (if x3 < v6 then fX7_past_40 σ x4 else (fX7_past_3 n) σ x2 x3 (x4 + 1))))))
noncomputable def fX7_past (σ : hy_S) (x1 : Int32) (x2 : Int32) (x3 : Int32) : Option (hy_S × Int32) := fX7_past_3 hy_fu σ x2 x3 x1
set_option maxHeartbeats 4000000 in
set_option maxRecDepth 100000 in
theorem bX7_past_40 (hA : ∀ q : Nat, s.heap.size ≤ q → A q) (B : hy_B RX7 cX7_past 5 wsX7_past G A p s m args c) (hR : 0 ≤ R.frames ∧ 0 ≤ R.locals) {o : hy_S × Int32}  (hret : ∀ (σ : hy_S) (v : Int32) (pc : Nat) (H : Heap) (locs : List Loc) (ls : Array Slot), o = (σ, v) → hy_w cw G A s σ H locs → decode cX7_past pc = .ok (.ireturn, 1) → W p l e R s m args below meth c H locs 0 0 Q (F0 m pc ls [.int v])) (σ : hy_S) (x4 : Int32) (H : Heap) (locs : List Loc) (ls : Array Slot) (hf : fX7_past_40 σ x4 = some o) (w : hy_w cw G A s σ H locs) (hl : lv_has ls 5 [(4, .int x4)]) : W p l e R s m args below meth c H locs 0 0 Q (F0 m 40 ls []) := by
  unfold fX7_past_40 at hf
  refine lv_iload B.1.1 B.1.2.1 dX7_past_40 (lv_at hl 0 rfl) ?_
  exact hret _ _ _ _ _ _ (Option.some.inj hf).symm w dX7_past_42
set_option maxHeartbeats 4000000 in
set_option maxRecDepth 100000 in
theorem bX7_past_3 (hA : ∀ q : Nat, s.heap.size ≤ q → A q) (B : hy_B RX7 cX7_past 5 wsX7_past G A p s m args c) (hR : 0 ≤ R.frames ∧ 0 ≤ R.locals) {o : hy_S × Int32}  (hret : ∀ (σ : hy_S) (v : Int32) (pc : Nat) (H : Heap) (locs : List Loc) (ls : Array Slot), o = (σ, v) → hy_w cw G A s σ H locs → decode cX7_past pc = .ok (.ireturn, 1) → W p l e R s m args below meth c H locs 0 0 Q (F0 m pc ls [.int v])) : ∀ (n : Nat) (σ : hy_S) (x2 : Int32) (x3 : Int32) (x4 : Int32) (H : Heap) (locs : List Loc) (ls : Array Slot), fX7_past_3 n σ x2 x3 x4 = some o → hy_w cw G A s σ H locs → lv_has ls 5 [(0, .ref (G.2.2.2.1 1)), (2, .int x2), (3, .int x3), (4, .int x4)] → W p l e R s m args below meth c H locs 0 0 Q (F0 m 3 ls []) := by
  intro n
  induction n with
  | zero => intro σ x2 x3 x4 H locs ls hf; cases hf
  | succ n hk3 =>
    intro σ x2 x3 x4 H locs ls hf w hl
    unfold fX7_past_3 at hf
    refine lv_iload B.1.1 B.1.2.1 dX7_past_3 (lv_at hl 3 rfl) ?_
    refine lv_aload_n B.1.1 B.1.2.1 dX7_past_5 rfl (lv_at hl 0 rfl) ?_
    refine hy_get (k := 1) (v := .int (σ.2 2)) B w (cwq_1 G) rfl in_X7_past_X7 (by decide) (by decide +kernel) rfl dX7_past_6 ?_
    refine lv_icmp_ge (tgt := 40) B.1.1 B.1.2.1 dX7_past_9 (by decide) (fun c1 => ?_) (fun c1 => ?_)
    · rw [if_pos c1] at hf
      exact bX7_past_40 hA B hR  hret _ _ _ _ _ hf w (lv_sub hl [3] rfl)
    · rw [if_neg c1] at hf
      refine lv_aload_n B.1.1 B.1.2.1 dX7_past_12 rfl (lv_at hl 0 rfl) ?_
      refine hy_get (k := 0) (v := .ref (G.2.2.2.1 10)) B w (cwq_1 G) rfl in_X7_past_X7 (by decide) (by decide +kernel) rfl dX7_past_13 ?_
      refine lv_iload B.1.1 B.1.2.1 dX7_past_16 (lv_at hl 3 rfl) ?_
      obtain ⟨h4, v2, e3, hf⟩ := hy_ga_some hf
      refine hy_bald B w (cwq_10 G) h4 e3 dX7_past_18 ?_
      refine lv_iload_n B.1.1 B.1.2.1 dX7_past_19 rfl (lv_at hl 1 rfl) ?_
      refine lv_icmp_lt (tgt := 40) B.1.1 B.1.2.1 dX7_past_20 (by decide) (fun c5 => ?_) (fun c5 => ?_)
      · rw [if_pos c5] at hf
        exact bX7_past_40 hA B hR  hret _ _ _ _ _ hf w (lv_sub hl [3] rfl)
      · rw [if_neg c5] at hf
        refine lv_aload_n B.1.1 B.1.2.1 dX7_past_23 rfl (lv_at hl 0 rfl) ?_
        refine hy_get (k := 0) (v := .ref (G.2.2.2.1 10)) B w (cwq_1 G) rfl in_X7_past_X7 (by decide) (by decide +kernel) rfl dX7_past_24 ?_
        refine lv_iload B.1.1 B.1.2.1 dX7_past_27 (lv_at hl 3 rfl) ?_
        obtain ⟨h8, v6, e7, hf⟩ := hy_ga_some hf
        refine hy_bald B w (cwq_10 G) h8 e7 dX7_past_29 ?_
        refine lv_iload_n B.1.1 B.1.2.1 dX7_past_30 rfl (lv_at hl 2 rfl) ?_
        refine lv_icmp_gt (tgt := 40) B.1.1 B.1.2.1 dX7_past_31 (by decide) (fun c9 => ?_) (fun c9 => ?_)
        · rw [if_pos c9] at hf
          exact bX7_past_40 hA B hR  hret _ _ _ _ _ hf w (lv_sub hl [3] rfl)
        · rw [if_neg c9] at hf
          refine lv_iinc (v := (x4 + 1)) (lv' := [(4, .int (x4 + 1)), (0, .ref (G.2.2.2.1 1)), (2, .int x2), (3, .int x3)]) B.1.1 B.1.2.1 dX7_past_34 hl (k := 3) rfl rfl (by decide) rfl (fun ls hl => ?_)
          refine lv_goto (tgt := 3) B.1.1 B.1.2.1 dX7_past_37 (by decide) ?_
          exact hk3 _ _ _ _ _ _ _ hf w (lv_sub hl [1, 2, 3, 0] rfl)
set_option maxHeartbeats 4000000 in
set_option maxRecDepth 100000 in
theorem bX7_past_0 (hA : ∀ q : Nat, s.heap.size ≤ q → A q) (B : hy_B RX7 cX7_past 5 wsX7_past G A p s m args c) (hR : 0 ≤ R.frames ∧ 0 ≤ R.locals) {o : hy_S × Int32}  (hret : ∀ (σ : hy_S) (v : Int32) (pc : Nat) (H : Heap) (locs : List Loc) (ls : Array Slot), o = (σ, v) → hy_w cw G A s σ H locs → decode cX7_past pc = .ok (.ireturn, 1) → W p l e R s m args below meth c H locs 0 0 Q (F0 m pc ls [.int v])) (σ : hy_S) (x1 : Int32) (x2 : Int32) (x3 : Int32) (H : Heap) (locs : List Loc) (ls : Array Slot) (hf : fX7_past σ x1 x2 x3 = some o) (w : hy_w cw G A s σ H locs) (hl : lv_has ls 5 [(0, .ref (G.2.2.2.1 1)), (1, .int x1), (2, .int x2), (3, .int x3)]) : W p l e R s m args below meth c H locs 0 0 Q (F0 m 0 ls []) := by
  unfold fX7_past at hf
  refine lv_iload_n B.1.1 B.1.2.1 dX7_past_0 rfl (lv_at hl 1 rfl) ?_
  refine lv_istore (lv' := [(4, .int x1), (0, .ref (G.2.2.2.1 1)), (1, .int x1), (2, .int x2), (3, .int x3)]) B.1.1 B.1.2.1 dX7_past_1 hl (by decide) rfl (fun ls hl => ?_)
  exact bX7_past_3 hA B hR  hret _ _ _ _ _ _ _ _ hf w (lv_sub hl [1, 3, 4, 0] rfl)
set_option maxHeartbeats 4000000 in
set_option maxRecDepth 100000 in
theorem mX7_past (l : Launch) (G : hy_G) (sz : Nat) (σ : hy_S) (x1 : Int32) (x2 : Int32) (x3 : Int32) (o : hy_S × Int32) (hf : fX7_past σ x1 x2 x3 = some o) : hy_M l yX7_past wsX7_past ({ frames := 0, cells := 0, slots := 0, locals := 0 }) cw G σ sz [.ref (G.2.2.2.1 1), .int x1, .int x2, .int x3] o := by
  refine Met.ofW (cc := cX7_past) (maxL := 5) (ret := (some .int)) (by decide +kernel) rfl ?_
  intro p e s m args below meth c s₁ B hml hv
  obtain ⟨rfl, hsz, hP, hK, hD0, hN⟩ := hv
  have hx := B.exec
  have hb := B.bytes
  have hr := B.returns
  have hts := atoms_spec (ws := wsX7_past) B.pre
  have hown : s.vm.findClass RX7 = some m.cls := findClass_of_methodNamed B.named
  have hlocks := B.notSynchronized
  subst hsz
  have hD := hD0.self (sz := s.heap.size)
  have hA : ∀ q : Nat, s.heap.size ≤ q → va_A (cw G σ) s.heap.size q := fun q h => Or.inr h
  have hS : va_S (va_A (cw G σ) s.heap.size) s.heap s.heap [] := va_S.rf
  have hl := lv_entry ([.ref (G.2.2.2.1 1), .int x1, .int x2, .int x3]) (n := 5) (Nat.le_of_ble_eq_true rfl)
  rw [lg_entry_eq]
  generalize (lg_sl ([.ref (G.2.2.2.1 1), .int x1, .int x2, .int x3]) ++ List.replicate (5 - (lg_sl ([.ref (G.2.2.2.1 1), .int x1, .int x2, .int x3])).length) Slot.unset).toArray = ls at hl ⊢
  have hl : lv_has ls 5 [(0, .ref (G.2.2.2.1 1)), (1, .int x1), (2, .int x2), (3, .int x3)] := hl
  refine bX7_past_0 (A := va_A (cw G σ) s.heap.size) hA ⟨⟨hx, hb, hml, hown, hts⟩, hK, hN⟩ ⟨Nat.le_of_ble_eq_true rfl, Nat.le_of_ble_eq_true rfl⟩ (o := o) (fun τ v pc H locs ls ho w d => ?_) σ x1 x2 x3 _ _ _ hf ⟨hP, hD, hS⟩ hl
  exact W.iret hx hb hr (fun t ht hW => ⟨⟨v, τ, rfl, ⟨by rw [ho], by rw [ho]⟩, by have h9 := w.1; rw [← ht] at h9; exact h9⟩, w.2.2.F ht⟩) w.2.2.2.2 d
theorem in_X7_digitsFrom_X7 : ∀ w ∈ u_ws RX7 TX7 2, w ∈ wsX7_digitsFrom := fun _ h => xt1 (xr (h))
noncomputable def fX7_digitsFrom_5 : Nat → hy_S → Int32 → Int32 → Int32 → Option (hy_S × Int32)
  | 0, _, _, _, _ => none
  | n + 1, σ, x2, x3, x4 => (if x2 ≤ x4 then some (σ, x3) else hy_ga σ 0 400 x4 (fun v2 => (fX7_digitsFrom_5 n) σ x2 ((x3 * 10) + (v2 - 48)) (x4 + 1)))
noncomputable def fX7_digitsFrom (σ : hy_S) (x1 : Int32) (x2 : Int32) : Option (hy_S × Int32) := fX7_digitsFrom_5 hy_fu σ x2 0 x1
set_option maxHeartbeats 4000000 in
set_option maxRecDepth 100000 in
theorem bX7_digitsFrom_5 (hA : ∀ q : Nat, s.heap.size ≤ q → A q) (B : hy_B RX7 cX7_digitsFrom 5 wsX7_digitsFrom G A p s m args c) (hR : 0 ≤ R.frames ∧ 0 ≤ R.locals) {o : hy_S × Int32}  (hret : ∀ (σ : hy_S) (v : Int32) (pc : Nat) (H : Heap) (locs : List Loc) (ls : Array Slot), o = (σ, v) → hy_w cw G A s σ H locs → decode cX7_digitsFrom pc = .ok (.ireturn, 1) → W p l e R s m args below meth c H locs 0 0 Q (F0 m pc ls [.int v])) : ∀ (n : Nat) (σ : hy_S) (x2 : Int32) (x3 : Int32) (x4 : Int32) (H : Heap) (locs : List Loc) (ls : Array Slot), fX7_digitsFrom_5 n σ x2 x3 x4 = some o → hy_w cw G A s σ H locs → lv_has ls 5 [(0, .ref (G.2.2.2.1 1)), (2, .int x2), (3, .int x3), (4, .int x4)] → W p l e R s m args below meth c H locs 0 0 Q (F0 m 5 ls []) := by
  intro n
  induction n with
  | zero => intro σ x2 x3 x4 H locs ls hf; cases hf
  | succ n hk5 =>
    intro σ x2 x3 x4 H locs ls hf w hl
    unfold fX7_digitsFrom_5 at hf
    refine lv_iload B.1.1 B.1.2.1 dX7_digitsFrom_5 (lv_at hl 3 rfl) ?_
    refine lv_iload_n B.1.1 B.1.2.1 dX7_digitsFrom_7 rfl (lv_at hl 1 rfl) ?_
    refine lv_icmp_ge (tgt := 33) B.1.1 B.1.2.1 dX7_digitsFrom_8 (by decide) (fun c1 => ?_) (fun c1 => ?_)
    · rw [if_pos c1] at hf
      refine lv_iload_n B.1.1 B.1.2.1 dX7_digitsFrom_33 rfl (lv_at hl 2 rfl) ?_
      exact hret _ _ _ _ _ _ (Option.some.inj hf).symm w dX7_digitsFrom_34
    · rw [if_neg c1] at hf
      refine lv_iload_n B.1.1 B.1.2.1 dX7_digitsFrom_11 rfl (lv_at hl 2 rfl) ?_
      refine lv_bipush (v := 10) B.1.1 B.1.2.1 dX7_digitsFrom_12 (by decide) ?_
      refine lv_imul B.1.1 B.1.2.1 dX7_digitsFrom_14 ?_
      refine lv_aload_n B.1.1 B.1.2.1 dX7_digitsFrom_15 rfl (lv_at hl 0 rfl) ?_
      refine hy_get (k := 0) (v := .ref (G.2.2.2.1 10)) B w (cwq_1 G) rfl in_X7_digitsFrom_X7 (by decide) (by decide +kernel) rfl dX7_digitsFrom_16 ?_
      refine lv_iload B.1.1 B.1.2.1 dX7_digitsFrom_19 (lv_at hl 3 rfl) ?_
      obtain ⟨h4, v2, e3, hf⟩ := hy_ga_some hf
      refine hy_bald B w (cwq_10 G) h4 e3 dX7_digitsFrom_21 ?_
      refine lv_bipush (v := 48) B.1.1 B.1.2.1 dX7_digitsFrom_22 (by decide) ?_
      refine lv_isub B.1.1 B.1.2.1 dX7_digitsFrom_24 ?_
      refine lv_iadd B.1.1 B.1.2.1 dX7_digitsFrom_25 ?_
      refine lv_istore_n (lv' := [(3, .int ((x3 * 10) + (v2 - 48))), (0, .ref (G.2.2.2.1 1)), (2, .int x2), (4, .int x4)]) B.1.1 B.1.2.1 dX7_digitsFrom_26 rfl hl (by decide) rfl (fun ls hl => ?_)
      refine lv_iinc (v := (x4 + 1)) (lv' := [(4, .int (x4 + 1)), (3, .int ((x3 * 10) + (v2 - 48))), (0, .ref (G.2.2.2.1 1)), (2, .int x2)]) B.1.1 B.1.2.1 dX7_digitsFrom_27 hl (k := 3) rfl rfl (by decide) rfl (fun ls hl => ?_)
      refine lv_goto (tgt := 5) B.1.1 B.1.2.1 dX7_digitsFrom_30 (by decide) ?_
      exact hk5 _ _ _ _ _ _ _ hf w (lv_sub hl [2, 3, 1, 0] rfl)
set_option maxHeartbeats 4000000 in
set_option maxRecDepth 100000 in
theorem bX7_digitsFrom_0 (hA : ∀ q : Nat, s.heap.size ≤ q → A q) (B : hy_B RX7 cX7_digitsFrom 5 wsX7_digitsFrom G A p s m args c) (hR : 0 ≤ R.frames ∧ 0 ≤ R.locals) {o : hy_S × Int32}  (hret : ∀ (σ : hy_S) (v : Int32) (pc : Nat) (H : Heap) (locs : List Loc) (ls : Array Slot), o = (σ, v) → hy_w cw G A s σ H locs → decode cX7_digitsFrom pc = .ok (.ireturn, 1) → W p l e R s m args below meth c H locs 0 0 Q (F0 m pc ls [.int v])) (σ : hy_S) (x1 : Int32) (x2 : Int32) (H : Heap) (locs : List Loc) (ls : Array Slot) (hf : fX7_digitsFrom σ x1 x2 = some o) (w : hy_w cw G A s σ H locs) (hl : lv_has ls 5 [(0, .ref (G.2.2.2.1 1)), (1, .int x1), (2, .int x2)]) : W p l e R s m args below meth c H locs 0 0 Q (F0 m 0 ls []) := by
  unfold fX7_digitsFrom at hf
  refine lv_iconst (v := 0) B.1.1 B.1.2.1 dX7_digitsFrom_0 (by decide) ?_
  refine lv_istore_n (lv' := [(3, .int 0), (0, .ref (G.2.2.2.1 1)), (1, .int x1), (2, .int x2)]) B.1.1 B.1.2.1 dX7_digitsFrom_1 rfl hl (by decide) rfl (fun ls hl => ?_)
  refine lv_iload_n B.1.1 B.1.2.1 dX7_digitsFrom_2 rfl (lv_at hl 2 rfl) ?_
  refine lv_istore (lv' := [(4, .int x1), (3, .int 0), (0, .ref (G.2.2.2.1 1)), (1, .int x1), (2, .int x2)]) B.1.1 B.1.2.1 dX7_digitsFrom_3 hl (by decide) rfl (fun ls hl => ?_)
  exact bX7_digitsFrom_5 hA B hR  hret _ _ _ _ _ _ _ _ hf w (lv_sub hl [2, 4, 1, 0] rfl)
set_option maxHeartbeats 4000000 in
set_option maxRecDepth 100000 in
theorem mX7_digitsFrom (l : Launch) (G : hy_G) (sz : Nat) (σ : hy_S) (x1 : Int32) (x2 : Int32) (o : hy_S × Int32) (hf : fX7_digitsFrom σ x1 x2 = some o) : hy_M l yX7_digitsFrom wsX7_digitsFrom ({ frames := 0, cells := 0, slots := 0, locals := 0 }) cw G σ sz [.ref (G.2.2.2.1 1), .int x1, .int x2] o := by
  refine Met.ofW (cc := cX7_digitsFrom) (maxL := 5) (ret := (some .int)) (by decide +kernel) rfl ?_
  intro p e s m args below meth c s₁ B hml hv
  obtain ⟨rfl, hsz, hP, hK, hD0, hN⟩ := hv
  have hx := B.exec
  have hb := B.bytes
  have hr := B.returns
  have hts := atoms_spec (ws := wsX7_digitsFrom) B.pre
  have hown : s.vm.findClass RX7 = some m.cls := findClass_of_methodNamed B.named
  have hlocks := B.notSynchronized
  subst hsz
  have hD := hD0.self (sz := s.heap.size)
  have hA : ∀ q : Nat, s.heap.size ≤ q → va_A (cw G σ) s.heap.size q := fun q h => Or.inr h
  have hS : va_S (va_A (cw G σ) s.heap.size) s.heap s.heap [] := va_S.rf
  have hl := lv_entry ([.ref (G.2.2.2.1 1), .int x1, .int x2]) (n := 5) (Nat.le_of_ble_eq_true rfl)
  rw [lg_entry_eq]
  generalize (lg_sl ([.ref (G.2.2.2.1 1), .int x1, .int x2]) ++ List.replicate (5 - (lg_sl ([.ref (G.2.2.2.1 1), .int x1, .int x2])).length) Slot.unset).toArray = ls at hl ⊢
  have hl : lv_has ls 5 [(0, .ref (G.2.2.2.1 1)), (1, .int x1), (2, .int x2)] := hl
  refine bX7_digitsFrom_0 (A := va_A (cw G σ) s.heap.size) hA ⟨⟨hx, hb, hml, hown, hts⟩, hK, hN⟩ ⟨Nat.le_of_ble_eq_true rfl, Nat.le_of_ble_eq_true rfl⟩ (o := o) (fun τ v pc H locs ls ho w d => ?_) σ x1 x2 _ _ _ hf ⟨hP, hD, hS⟩ hl
  exact W.iret hx hb hr (fun t ht hW => ⟨⟨v, τ, rfl, ⟨by rw [ho], by rw [ho]⟩, by have h9 := w.1; rw [← ht] at h9; exact h9⟩, w.2.2.F ht⟩) w.2.2.2.2 d
end HK5
