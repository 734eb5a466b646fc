section HK3
variable {p : Program} {l : Launch} {e : Env} {R : Room} {s : State} {m : MethodId} {args : Array Value} {below : List Frame} {meth : Method} {c : Code} {Q : State → Prop} {G : hy_G} {A : Nat → Prop} {Qc : Array Value → State → Outcome → State → Prop}
theorem in_X6_reach_X6 : ∀ w ∈ u_ws RX6 TX6 4, w ∈ wsX6_reach := fun _ h => xt1 (xl (xl (xr (h))))
noncomputable def fX6_reach (σ : hy_S) (x1 : Int32) : Option (hy_S × Int32) := hy_bd (fX1_weight σ x1) (fun σ1 v2 => hy_bd (fX1_bears σ1 x1) (fun σ4 v5 => some (σ4, (v2 + v5))))
set_option maxHeartbeats 4000000 in
set_option maxRecDepth 100000 in
theorem bX6_reach_0 (hA : ∀ q : Nat, s.heap.size ≤ q → A q) (B : hy_B RX6 cX6_reach 2 wsX6_reach G A p s m args c) (hR : 1 ≤ R.frames ∧ 21 ≤ R.locals) {o : hy_S × Int32}  (hret : ∀ (σ : hy_S) (v : Int32) (pc : Nat) (H : Heap) (locs : List Loc) (ls : Array Slot), o = (σ, v) → hy_w cw G A s σ H locs → decode cX6_reach pc = .ok (.ireturn, 1) → W p l e R s m args below meth c H locs 0 0 Q (F0 m pc ls [.int v])) (σ : hy_S) (x1 : Int32) (H : Heap) (locs : List Loc) (ls : Array Slot) (hf : fX6_reach σ x1 = some o) (w : hy_w cw G A s σ H locs) (hl : lv_has ls 2 [(0, .ref (G.2.2.2.1 6)), (1, .int x1)]) : W p l e R s m args below meth c H locs 0 0 Q (F0 m 0 ls []) := by
  unfold fX6_reach at hf
  refine lv_aload_n B.1.1 B.1.2.1 dX6_reach_0 rfl (lv_at hl 0 rfl) ?_
  refine hy_get (k := 0) (v := .ref (G.2.2.2.1 4)) B w (cwq_6 G) rfl in_X6_reach_X6 (by decide) (by decide +kernel) rfl dX6_reach_1 ?_
  refine lv_iload_n B.1.1 B.1.2.1 dX6_reach_4 rfl (lv_at hl 1 rfl) ?_
  obtain ⟨σ1, v2, h3, hf⟩ := hy_bd_some hf
  refine hy_cv (As := [.int x1]) (rest := []) (o := (σ1, v2)) cw_fix hA B w (fun sz => mX1_weight l G sz σ x1 _ h3) (cwV 1 B.1.2.2.2.2 gX6_reach_X1_weight rfl rfl rfl (by decide +kernel) ⟨by have := hR.1; show 0 + 1 ≤ _; omega, by have := hR.2; show 8 + (2 + 11) + 0 ≤ _; omega⟩) rfl (cwq_4 G σ) rfl hl.1 rfl (Nat.le_of_ble_eq_true rfl) dX6_reach_5 ⟨Nat.zero_le _, Nat.zero_le _⟩ (fun H locs w => ?_)
  refine lv_aload_n B.1.1 B.1.2.1 dX6_reach_8 rfl (lv_at hl 0 rfl) ?_
  refine hy_get (k := 0) (v := .ref (G.2.2.2.1 4)) B w (cwq_6 G) rfl in_X6_reach_X6 (by decide) (by decide +kernel) rfl dX6_reach_9 ?_
  refine lv_iload_n B.1.1 B.1.2.1 dX6_reach_12 rfl (lv_at hl 1 rfl) ?_
  obtain ⟨σ4, v5, h6, hf⟩ := hy_bd_some hf
  refine hy_cv (As := [.int x1]) (rest := [.int v2]) (o := (σ4, v5)) cw_fix hA B w (fun sz => mX1_bears l G sz σ1 x1 _ h6) (cwV 1 B.1.2.2.2.2 gX6_reach_X1_bears rfl rfl rfl (by decide +kernel) ⟨by have := hR.1; show 0 + 1 ≤ _; omega, by have := hR.2; show 8 + (2 + 11) + 0 ≤ _; omega⟩) rfl (cwq_4 G σ1) rfl hl.1 rfl (Nat.le_of_ble_eq_true rfl) dX6_reach_13 ⟨Nat.zero_le _, Nat.zero_le _⟩ (fun H locs w => ?_)
  refine lv_iadd B.1.1 B.1.2.1 dX6_reach_16 ?_
  exact hret _ _ _ _ _ _ (Option.some.inj hf).symm w dX6_reach_17
set_option maxHeartbeats 4000000 in
set_option maxRecDepth 100000 in
theorem mX6_reach (l : Launch) (G : hy_G) (sz : Nat) (σ : hy_S) (x1 : Int32) (o : hy_S × Int32) (hf : fX6_reach σ x1 = some o) : hy_M l yX6_reach wsX6_reach ({ frames := 1, cells := 0, slots := 0, locals := 21 }) cw G σ sz [.ref (G.2.2.2.1 6), .int x1] o := by
  refine Met.ofW (cc := cX6_reach) (maxL := 2) (ret := (some .int)) (by decide +kernel) rfl ?_
  intro p e s m args below meth c s₁ B hml hv
  obtain ⟨rfl, hsz, hP, hK, hD0, hN⟩ := hv
  have hx := B.exec
  have hb := B.bytes
  have hr := B.returns
  have hts := atoms_spec (ws := wsX6_reach) B.pre
  have hown : s.vm.findClass RX6 = some m.cls := findClass_of_methodNamed B.named
  have hlocks := B.notSynchronized
  subst hsz
  have hD := hD0.self (sz := s.heap.size)
  have hA : ∀ q : Nat, s.heap.size ≤ q → va_A (cw G σ) s.heap.size q := fun q h => Or.inr h
  have hS : va_S (va_A (cw G σ) s.heap.size) s.heap s.heap [] := va_S.rf
  have hl := lv_entry ([.ref (G.2.2.2.1 6), .int x1]) (n := 2) (Nat.le_of_ble_eq_true rfl)
  rw [lg_entry_eq]
  generalize (lg_sl ([.ref (G.2.2.2.1 6), .int x1]) ++ List.replicate (2 - (lg_sl ([.ref (G.2.2.2.1 6), .int x1])).length) Slot.unset).toArray = ls at hl ⊢
  have hl : lv_has ls 2 [(0, .ref (G.2.2.2.1 6)), (1, .int x1)] := hl
  refine bX6_reach_0 (A := va_A (cw G σ) s.heap.size) hA ⟨⟨hx, hb, hml, hown, hts⟩, hK, hN⟩ ⟨Nat.le_of_ble_eq_true rfl, Nat.le_of_ble_eq_true rfl⟩ (o := o) (fun τ v pc H locs ls ho w d => ?_) σ x1 _ _ _ hf ⟨hP, hD, hS⟩ hl
  exact W.iret hx hb hr (fun t ht hW => ⟨⟨v, τ, rfl, ⟨by rw [ho], by rw [ho]⟩, by have h9 := w.1; rw [← ht] at h9; exact h9⟩, w.2.2.F ht⟩) w.2.2.2.2 d
theorem in_X6_insert_X6 : ∀ w ∈ u_ws RX6 TX6 4, w ∈ wsX6_insert := fun _ h => xt1 (xl (xl (xr (h))))
noncomputable def fX6_insert_49 (σ : hy_S) (x1 : Int32) (x2 : Int32) : Option (hy_S × Int32) := hy_pa σ 13 20 x2 x1 (fun σ1 => hy_pf σ1 6 ((σ1.2 6) + 1) (fun σ4 => some (σ4, 0)))
noncomputable def fX6_insert_5 : Nat → hy_S → Int32 → Int32 → Option (hy_S × Int32)
  | 0, _, _, _ => none
  | n + 1, σ, x1, x2 => (if x2 ≤ 0 then fX6_insert_49 σ x1 x2 else hy_ga σ 13 20 (x2 - 1) (fun v2 => hy_bd (fX6_reach σ v2) (fun σ5 v6 => hy_bd (fX6_reach σ5 x1) (fun σ8 v9 => (if v6 ≤ v9 then fX6_insert_49 σ8 x1 x2 else hy_ga σ8 13 20 (x2 - 1) (fun v12 => hy_pa σ8 13 20 x2 v12 (fun σ15 => (fX6_insert_5 n) σ15 x1 (x2 + (-1)))))))))
noncomputable def fX6_insert (σ : hy_S) (x1 : Int32) : Option (hy_S × Int32) := fX6_insert_5 hy_fu σ x1 (σ.2 6)
set_option maxHeartbeats 4000000 in
set_option maxRecDepth 100000 in
theorem bX6_insert_49 (hA : ∀ q : Nat, s.heap.size ≤ q → A q) (B : hy_B RX6 cX6_insert 3 wsX6_insert G A p s m args c) (hR : 2 ≤ R.frames ∧ 42 ≤ R.locals) {o : hy_S × Int32}  (hret : ∀ (σ : hy_S) (pc : Nat) (H : Heap) (locs : List Loc) (ls : Array Slot), o = (σ, 0) → hy_w cw G A s σ H locs → decode cX6_insert pc = .ok (.return_, 1) → W p l e R s m args below meth c H locs 0 0 Q (F0 m pc ls [])) (σ : hy_S) (x1 : Int32) (x2 : Int32) (H : Heap) (locs : List Loc) (ls : Array Slot) (hf : fX6_insert_49 σ x1 x2 = some o) (w : hy_w cw G A s σ H locs) (hl : lv_has ls 3 [(0, .ref (G.2.2.2.1 6)), (1, .int x1), (2, .int x2)]) : W p l e R s m args below meth c H locs 0 0 Q (F0 m 49 ls []) := by
  unfold fX6_insert_49 at hf
  refine lv_aload_n B.1.1 B.1.2.1 dX6_insert_49 rfl (lv_at hl 0 rfl) ?_
  refine hy_get (k := 1) (v := .ref (G.2.2.2.1 23)) B w (cwq_6 G) rfl in_X6_insert_X6 (by decide) (by decide +kernel) rfl dX6_insert_50 ?_
  refine lv_iload_n B.1.1 B.1.2.1 dX6_insert_53 rfl (lv_at hl 2 rfl) ?_
  refine lv_iload_n B.1.1 B.1.2.1 dX6_insert_54 rfl (lv_at hl 1 rfl) ?_
  obtain ⟨h3, σ1, e2, hf⟩ := hy_pa_some hf
  refine hy_iast B w (cwq_23 G) (cws_23 G) h3 e2 dX6_insert_55 (fun H locs w => ?_)
  refine lv_aload_n B.1.1 B.1.2.1 dX6_insert_56 rfl (lv_at hl 0 rfl) ?_
  refine lv_dup B.1.1 B.1.2.1 dX6_insert_57 rfl ?_
  refine hy_get (k := 3) (v := .int (σ1.2 6)) B w (cwq_6 G) rfl in_X6_insert_X6 (by decide) (by decide +kernel) rfl dX6_insert_58 ?_
  refine lv_iconst (v := 1) B.1.1 B.1.2.1 dX6_insert_61 (by decide) ?_
  refine lv_iadd B.1.1 B.1.2.1 dX6_insert_62 ?_
  obtain ⟨σ4, e5, hf⟩ := hy_pf_some hf
  refine hy_put (k := 3) B w (cwq_6 G) rfl in_X6_insert_X6 tyX6 tyX6_ok nmX6 (by decide) (by decide +kernel) rfl rfl (by show 3 < 4; decide) (cwp_6 G) e5 dX6_insert_63 (fun H locs w => ?_)
  exact hret _ _ _ _ _ (Option.some.inj hf).symm w dX6_insert_66
set_option maxHeartbeats 4000000 in
set_option maxRecDepth 100000 in
theorem bX6_insert_5 (hA : ∀ q : Nat, s.heap.size ≤ q → A q) (B : hy_B RX6 cX6_insert 3 wsX6_insert G A p s m args c) (hR : 2 ≤ R.frames ∧ 42 ≤ R.locals) {o : hy_S × Int32}  (hret : ∀ (σ : hy_S) (pc : Nat) (H : Heap) (locs : List Loc) (ls : Array Slot), o = (σ, 0) → hy_w cw G A s σ H locs → decode cX6_insert pc = .ok (.return_, 1) → W p l e R s m args below meth c H locs 0 0 Q (F0 m pc ls [])) : ∀ (n : Nat) (σ : hy_S) (x1 : Int32) (x2 : Int32) (H : Heap) (locs : List Loc) (ls : Array Slot), fX6_insert_5 n σ x1 x2 = some o → hy_w cw G A s σ H locs → lv_has ls 3 [(0, .ref (G.2.2.2.1 6)), (1, .int x1), (2, .int x2)] → W p l e R s m args below meth c H locs 0 0 Q (F0 m 5 ls []) := by
  intro n
  induction n with
  | zero => intro σ x1 x2 H locs ls hf; cases hf
  | succ n hk5 =>
    intro σ x1 x2 H locs ls hf w hl
    unfold fX6_insert_5 at hf
    refine lv_iload_n B.1.1 B.1.2.1 dX6_insert_5 rfl (lv_at hl 2 rfl) ?_
    refine lv_if_le (tgt := 49) B.1.1 B.1.2.1 dX6_insert_6 (by decide) (fun c1 => ?_) (fun c1 => ?_)
    · rw [if_pos c1] at hf
      exact bX6_insert_49 hA B hR  hret _ _ _ _ _ _ hf w (lv_sub hl [0, 1, 2] rfl)
    · rw [if_neg c1] at hf
      refine lv_aload_n B.1.1 B.1.2.1 dX6_insert_9 rfl (lv_at hl 0 rfl) ?_
      refine lv_aload_n B.1.1 B.1.2.1 dX6_insert_10 rfl (lv_at hl 0 rfl) ?_
      refine hy_get (k := 1) (v := .ref (G.2.2.2.1 23)) B w (cwq_6 G) rfl in_X6_insert_X6 (by decide) (by decide +kernel) rfl dX6_insert_11 ?_
      refine lv_iload_n B.1.1 B.1.2.1 dX6_insert_14 rfl (lv_at hl 2 rfl) ?_
      refine lv_iconst (v := 1) B.1.1 B.1.2.1 dX6_insert_15 (by decide) ?_
      refine lv_isub B.1.1 B.1.2.1 dX6_insert_16 ?_
      obtain ⟨h4, v2, e3, hf⟩ := hy_ga_some hf
      refine hy_iald B w (cwq_23 G) h4 e3 dX6_insert_17 ?_
      obtain ⟨σ5, v6, h7, hf⟩ := hy_bd_some hf
      refine hy_cv (As := [.int v2]) (rest := []) (o := (σ5, v6)) cw_fix hA B w (fun sz => mX6_reach l G sz σ v2 _ h7) (cwV 1 B.1.2.2.2.2 gX6_insert_X6_reach rfl rfl rfl (by decide +kernel) ⟨by have := hR.1; show 1 + 1 ≤ _; omega, by have := hR.2; show 8 + (2 + 11) + 21 ≤ _; omega⟩) rfl (cwq_6 G σ) rfl hl.1 rfl (Nat.le_of_ble_eq_true rfl) dX6_insert_18 ⟨Nat.zero_le _, Nat.zero_le _⟩ (fun H locs w => ?_)
      refine lv_aload_n B.1.1 B.1.2.1 dX6_insert_21 rfl (lv_at hl 0 rfl) ?_
      refine lv_iload_n B.1.1 B.1.2.1 dX6_insert_22 rfl (lv_at hl 1 rfl) ?_
      obtain ⟨σ8, v9, h10, hf⟩ := hy_bd_some hf
      refine hy_cv (As := [.int x1]) (rest := [.int v6]) (o := (σ8, v9)) cw_fix hA B w (fun sz => mX6_reach l G sz σ5 x1 _ h10) (cwV 1 B.1.2.2.2.2 gX6_insert_X6_reach rfl rfl rfl (by decide +kernel) ⟨by have := hR.1; show 1 + 1 ≤ _; omega, by have := hR.2; show 8 + (2 + 11) + 21 ≤ _; omega⟩) rfl (cwq_6 G σ5) rfl hl.1 rfl (Nat.le_of_ble_eq_true rfl) dX6_insert_23 ⟨Nat.zero_le _, Nat.zero_le _⟩ (fun H locs w => ?_)
      refine lv_icmp_le (tgt := 49) B.1.1 B.1.2.1 dX6_insert_26 (by decide) (fun c11 => ?_) (fun c11 => ?_)
      · rw [if_pos c11] at hf
        exact bX6_insert_49 hA B hR  hret _ _ _ _ _ _ hf w (lv_sub hl [0, 1, 2] rfl)
      · rw [if_neg c11] at hf
        refine lv_aload_n B.1.1 B.1.2.1 dX6_insert_29 rfl (lv_at hl 0 rfl) ?_
        refine hy_get (k := 1) (v := .ref (G.2.2.2.1 23)) B w (cwq_6 G) rfl in_X6_insert_X6 (by decide) (by decide +kernel) rfl dX6_insert_30 ?_
        refine lv_iload_n B.1.1 B.1.2.1 dX6_insert_33 rfl (lv_at hl 2 rfl) ?_
        refine lv_aload_n B.1.1 B.1.2.1 dX6_insert_34 rfl (lv_at hl 0 rfl) ?_
        refine hy_get (k := 1) (v := .ref (G.2.2.2.1 23)) B w (cwq_6 G) rfl in_X6_insert_X6 (by decide) (by decide +kernel) rfl dX6_insert_35 ?_
        refine lv_iload_n B.1.1 B.1.2.1 dX6_insert_38 rfl (lv_at hl 2 rfl) ?_
        refine lv_iconst (v := 1) B.1.1 B.1.2.1 dX6_insert_39 (by decide) ?_
        refine lv_isub B.1.1 B.1.2.1 dX6_insert_40 ?_
        obtain ⟨h14, v12, e13, hf⟩ := hy_ga_some hf
        refine hy_iald B w (cwq_23 G) h14 e13 dX6_insert_41 ?_
        obtain ⟨h17, σ15, e16, hf⟩ := hy_pa_some hf
        refine hy_iast B w (cwq_23 G) (cws_23 G) h17 e16 dX6_insert_42 (fun H locs w => ?_)
        refine lv_iinc (v := (x2 + (-1))) (lv' := [(2, .int (x2 + (-1))), (0, .ref (G.2.2.2.1 6)), (1, .int x1)]) B.1.1 B.1.2.1 dX6_insert_43 hl (k := 2) rfl rfl (by decide) rfl (fun ls hl => ?_)
        refine lv_goto (tgt := 5) B.1.1 B.1.2.1 dX6_insert_46 (by decide) ?_
        exact hk5 _ _ _ _ _ _ hf w (lv_sub hl [1, 2, 0] rfl)
set_option maxHeartbeats 4000000 in
set_option maxRecDepth 100000 in
theorem bX6_insert_0 (hA : ∀ q : Nat, s.heap.size ≤ q → A q) (B : hy_B RX6 cX6_insert 3 wsX6_insert G A p s m args c) (hR : 2 ≤ R.frames ∧ 42 ≤ R.locals) {o : hy_S × Int32}  (hret : ∀ (σ : hy_S) (pc : Nat) (H : Heap) (locs : List Loc) (ls : Array Slot), o = (σ, 0) → hy_w cw G A s σ H locs → decode cX6_insert pc = .ok (.return_, 1) → W p l e R s m args below meth c H locs 0 0 Q (F0 m pc ls [])) (σ : hy_S) (x1 : Int32) (H : Heap) (locs : List Loc) (ls : Array Slot) (hf : fX6_insert σ x1 = some o) (w : hy_w cw G A s σ H locs) (hl : lv_has ls 3 [(0, .ref (G.2.2.2.1 6)), (1, .int x1)]) : W p l e R s m args below meth c H locs 0 0 Q (F0 m 0 ls []) := by
  unfold fX6_insert at hf
  refine lv_aload_n B.1.1 B.1.2.1 dX6_insert_0 rfl (lv_at hl 0 rfl) ?_
  refine hy_get (k := 3) (v := .int (σ.2 6)) B w (cwq_6 G) rfl in_X6_insert_X6 (by decide) (by decide +kernel) rfl dX6_insert_1 ?_
  refine lv_istore_n (lv' := [(2, .int (σ.2 6)), (0, .ref (G.2.2.2.1 6)), (1, .int x1)]) B.1.1 B.1.2.1 dX6_insert_4 rfl hl (by decide) rfl (fun ls hl => ?_)
  exact bX6_insert_5 hA B hR  hret _ _ _ _ _ _ _ hf w (lv_sub hl [1, 2, 0] rfl)
set_option maxHeartbeats 4000000 in
set_option maxRecDepth 100000 in
theorem mX6_insert (l : Launch) (G : hy_G) (sz : Nat) (σ : hy_S) (x1 : Int32) (o : hy_S × Int32) (hf : fX6_insert σ x1 = some o) : hy_Mv l yX6_insert wsX6_insert ({ frames := 2, cells := 0, slots := 0, locals := 42 }) cw G σ sz [.ref (G.2.2.2.1 6), .int x1] o := by
  refine Met.ofW (cc := cX6_insert) (maxL := 3) (ret := none) (by decide +kernel) rfl ?_
  intro p e s m args below meth c s₁ B hml hv
  obtain ⟨rfl, hsz, hP, hK, hD0, hN⟩ := hv
  have hx := B.exec
  have hb := B.bytes
  have hr := B.returns
  have hts := atoms_spec (ws := wsX6_insert) B.pre
  have hown : s.vm.findClass RX6 = some m.cls := findClass_of_methodNamed B.named
  have hlocks := B.notSynchronized
  subst hsz
  have hD := hD0.self (sz := s.heap.size)
  have hA : ∀ q : Nat, s.heap.size ≤ q → va_A (cw G σ) s.heap.size q := fun q h => Or.inr h
  have hS : va_S (va_A (cw G σ) s.heap.size) s.heap s.heap [] := va_S.rf
  have hl := lv_entry ([.ref (G.2.2.2.1 6), .int x1]) (n := 3) (Nat.le_of_ble_eq_true rfl)
  rw [lg_entry_eq]
  generalize (lg_sl ([.ref (G.2.2.2.1 6), .int x1]) ++ List.replicate (3 - (lg_sl ([.ref (G.2.2.2.1 6), .int x1])).length) Slot.unset).toArray = ls at hl ⊢
  have hl : lv_has ls 3 [(0, .ref (G.2.2.2.1 6)), (1, .int x1)] := hl
  refine bX6_insert_0 (A := va_A (cw G σ) s.heap.size) hA ⟨⟨hx, hb, hml, hown, hts⟩, hK, hN⟩ ⟨Nat.le_of_ble_eq_true rfl, Nat.le_of_ble_eq_true rfl⟩ (o := o) (fun τ pc H locs ls ho w d => ?_) σ x1 _ _ _ hf ⟨hP, hD, hS⟩ hl
  exact W.vret hx hb hr (fun t ht hW => ⟨⟨τ, rfl, by rw [ho], by have h9 := w.1; rw [← ht] at h9; exact h9⟩, w.2.2.F ht⟩) w.2.2.2.2 d
theorem in_X6_choose_X1 : ∀ w ∈ u_ws RX1 TX1 8, w ∈ wsX6_choose := fun _ h => xt1 (xl (xr (h)))
theorem in_X6_choose_X6 : ∀ w ∈ u_ws RX6 TX6 4, w ∈ wsX6_choose := fun _ h => xt1 (xl (xl (xr (h))))
noncomputable def fX6_choose_56 (σ : hy_S) : Option (hy_S × Int32) := some (σ, (σ.2 6))
noncomputable def fX6_choose_50 (k7 : hy_S → Int32 → Int32 → Option (hy_S × Int32)) (σ : hy_S) (x1 : Int32) (x2 : Int32) : Option (hy_S × Int32) := k7 σ x1 (x2 + 1)
noncomputable def fX6_choose_7 : Nat → hy_S → Int32 → Int32 → Option (hy_S × Int32)
  | 0, _, _, _ => none
  | n + 1, σ, x1, x2 => (if 20 ≤ x2 then fX6_choose_56 σ else (if (σ.2 4) ≤ x2 then fX6_choose_56 σ else (if ((x1 >>> (x2 &&& 31)) &&& 1) = 1 then hy_ga σ 9 60 x2 (fun v4 => (if v4 = 0 then hy_bd (fX6_insert σ x2) (fun σ8 v9 => fX6_choose_50 (fX6_choose_7 n) σ8 x1 x2) else fX6_choose_50 (fX6_choose_7 n) σ x1 x2)) else fX6_choose_50 (fX6_choose_7 n) σ x1 x2)))
noncomputable def fX6_choose (σ : hy_S) (x1 : Int32) : Option (hy_S × Int32) := hy_pf σ 6 0 (fun σ1 => fX6_choose_7 hy_fu σ1 x1 0)
set_option maxHeartbeats 4000000 in
set_option maxRecDepth 100000 in
theorem bX6_choose_56 (hA : ∀ q : Nat, s.heap.size ≤ q → A q) (B : hy_B RX6 cX6_choose 3 wsX6_choose G A p s m args c) (hR : 3 ≤ R.frames ∧ 64 ≤ R.locals) {o : hy_S × Int32}  (hret : ∀ (σ : hy_S) (v : Int32) (pc : Nat) (H : Heap) (locs : List Loc) (ls : Array Slot), o = (σ, v) → hy_w cw G A s σ H locs → decode cX6_choose pc = .ok (.ireturn, 1) → W p l e R s m args below meth c H locs 0 0 Q (F0 m pc ls [.int v])) (σ : hy_S) (H : Heap) (locs : List Loc) (ls : Array Slot) (hf : fX6_choose_56 σ = some o) (w : hy_w cw G A s σ H locs) (hl : lv_has ls 3 [(0, .ref (G.2.2.2.1 6))]) : W p l e R s m args below meth c H locs 0 0 Q (F0 m 56 ls []) := by
  unfold fX6_choose_56 at hf
  refine lv_aload_n B.1.1 B.1.2.1 dX6_choose_56 rfl (lv_at hl 0 rfl) ?_
  refine hy_get (k := 3) (v := .int (σ.2 6)) B w (cwq_6 G) rfl in_X6_choose_X6 (by decide) (by decide +kernel) rfl dX6_choose_57 ?_
  exact hret _ _ _ _ _ _ (Option.some.inj hf).symm w dX6_choose_60
set_option maxHeartbeats 4000000 in
set_option maxRecDepth 100000 in
theorem bX6_choose_50 (hA : ∀ q : Nat, s.heap.size ≤ q → A q) (B : hy_B RX6 cX6_choose 3 wsX6_choose G A p s m args c) (hR : 3 ≤ R.frames ∧ 64 ≤ R.locals) {o : hy_S × Int32}  {k7 : hy_S → Int32 → Int32 → Option (hy_S × Int32)} (hk7 : ∀ (σ : hy_S) (x1 : Int32) (x2 : Int32) (H : Heap) (locs : List Loc) (ls : Array Slot), k7 σ x1 x2 = some o → hy_w cw G A s σ H locs → lv_has ls 3 [(0, .ref (G.2.2.2.1 6)), (1, .int x1), (2, .int x2)] → W p l e R s m args below meth c H locs 0 0 Q (F0 m 7 ls [])) (hret : ∀ (σ : hy_S) (v : Int32) (pc : Nat) (H : Heap) (locs : List Loc) (ls : Array Slot), o = (σ, v) → hy_w cw G A s σ H locs → decode cX6_choose pc = .ok (.ireturn, 1) → W p l e R s m args below meth c H locs 0 0 Q (F0 m pc ls [.int v])) (σ : hy_S) (x1 : Int32) (x2 : Int32) (H : Heap) (locs : List Loc) (ls : Array Slot) (hf : fX6_choose_50 k7 σ x1 x2 = some o) (w : hy_w cw G A s σ H locs) (hl : lv_has ls 3 [(0, .ref (G.2.2.2.1 6)), (1, .int x1), (2, .int x2)]) : W p l e R s m args below meth c H locs 0 0 Q (F0 m 50 ls []) := by
  unfold fX6_choose_50 at hf
  refine lv_iinc (v := (x2 + 1)) (lv' := [(2, .int (x2 + 1)), (0, .ref (G.2.2.2.1 6)), (1, .int x1)]) B.1.1 B.1.2.1 dX6_choose_50 hl (k := 2) rfl rfl (by decide) rfl (fun ls hl => ?_)
  refine lv_goto (tgt := 7) B.1.1 B.1.2.1 dX6_choose_53 (by decide) ?_
  exact hk7 _ _ _ _ _ _ hf w (lv_sub hl [1, 2, 0] rfl)
set_option maxHeartbeats 4000000 in
set_option maxRecDepth 100000 in
theorem bX6_choose_7 (hA : ∀ q : Nat, s.heap.size ≤ q → A q) (B : hy_B RX6 cX6_choose 3 wsX6_choose G A p s m args c) (hR : 3 ≤ R.frames ∧ 64 ≤ R.locals) {o : hy_S × Int32}  (hret : ∀ (σ : hy_S) (v : Int32) (pc : Nat) (H : Heap) (locs : List Loc) (ls : Array Slot), o = (σ, v) → hy_w cw G A s σ H locs → decode cX6_choose pc = .ok (.ireturn, 1) → W p l e R s m args below meth c H locs 0 0 Q (F0 m pc ls [.int v])) : ∀ (n : Nat) (σ : hy_S) (x1 : Int32) (x2 : Int32) (H : Heap) (locs : List Loc) (ls : Array Slot), fX6_choose_7 n σ x1 x2 = some o → hy_w cw G A s σ H locs → lv_has ls 3 [(0, .ref (G.2.2.2.1 6)), (1, .int x1), (2, .int x2)] → W p l e R s m args below meth c H locs 0 0 Q (F0 m 7 ls []) := by
  intro n
  induction n with
  | zero => intro σ x1 x2 H locs ls hf; cases hf
  | succ n hk7 =>
    intro σ x1 x2 H locs ls hf w hl
    unfold fX6_choose_7 at hf
    refine lv_iload_n B.1.1 B.1.2.1 dX6_choose_7 rfl (lv_at hl 2 rfl) ?_
    refine lv_bipush (v := 20) B.1.1 B.1.2.1 dX6_choose_8 (by decide) ?_
    refine lv_icmp_ge (tgt := 56) B.1.1 B.1.2.1 dX6_choose_10 (by decide) (fun c1 => ?_) (fun c1 => ?_)
    · rw [if_pos c1] at hf
      exact bX6_choose_56 hA B hR  hret _ _ _ _ hf w (lv_sub hl [0] rfl)
    · rw [if_neg c1] at hf
      refine lv_iload_n B.1.1 B.1.2.1 dX6_choose_13 rfl (lv_at hl 2 rfl) ?_
      refine lv_aload_n B.1.1 B.1.2.1 dX6_choose_14 rfl (lv_at hl 0 rfl) ?_
      refine hy_get (k := 0) (v := .ref (G.2.2.2.1 4)) B w (cwq_6 G) rfl in_X6_choose_X6 (by decide) (by decide +kernel) rfl dX6_choose_15 ?_
      refine hy_getN (k := 7) (v := .int (σ.2 4)) B w (cwq_4 G) rfl in_X6_choose_X1 (by decide) (by decide +kernel) rfl dX6_choose_18 ?_
      refine lv_icmp_ge (tgt := 56) B.1.1 B.1.2.1 dX6_choose_21 (by decide) (fun c2 => ?_) (fun c2 => ?_)
      · rw [if_pos c2] at hf
        exact bX6_choose_56 hA B hR  hret _ _ _ _ hf w (lv_sub hl [0] rfl)
      · rw [if_neg c2] at hf
        refine lv_iload_n B.1.1 B.1.2.1 dX6_choose_24 rfl (lv_at hl 1 rfl) ?_
        refine lv_iload_n B.1.1 B.1.2.1 dX6_choose_25 rfl (lv_at hl 2 rfl) ?_
        refine lv_ishr B.1.1 B.1.2.1 dX6_choose_26 ?_
        refine lv_iconst (v := 1) B.1.1 B.1.2.1 dX6_choose_27 (by decide) ?_
        refine lv_iand B.1.1 B.1.2.1 dX6_choose_28 ?_
        refine lv_iconst (v := 1) B.1.1 B.1.2.1 dX6_choose_29 (by decide) ?_
        refine lv_icmp_ne (tgt := 50) B.1.1 B.1.2.1 dX6_choose_30 (by decide) (fun c3 => ?_) (fun c3 => ?_)
        · rw [if_neg c3] at hf
          exact bX6_choose_50 hA B hR hk7 hret _ _ _ _ _ _ hf w (lv_sub hl [0, 1, 2] rfl)
        · rw [if_pos c3] at hf
          refine lv_aload_n B.1.1 B.1.2.1 dX6_choose_33 rfl (lv_at hl 0 rfl) ?_
          refine hy_get (k := 0) (v := .ref (G.2.2.2.1 4)) B w (cwq_6 G) rfl in_X6_choose_X6 (by decide) (by decide +kernel) rfl dX6_choose_34 ?_
          refine hy_getN (k := 5) (v := .ref (G.2.2.2.1 19)) B w (cwq_4 G) rfl in_X6_choose_X1 (by decide) (by decide +kernel) rfl dX6_choose_37 ?_
          refine lv_iload_n B.1.1 B.1.2.1 dX6_choose_40 rfl (lv_at hl 2 rfl) ?_
          obtain ⟨h6, v4, e5, hf⟩ := hy_ga_some hf
          refine hy_iald B w (cwq_19 G) h6 e5 dX6_choose_41 ?_
          refine lv_if_ne (tgt := 50) B.1.1 B.1.2.1 dX6_choose_42 (by decide) (fun c7 => ?_) (fun c7 => ?_)
          · rw [if_neg c7] at hf
            exact bX6_choose_50 hA B hR hk7 hret _ _ _ _ _ _ hf w (lv_sub hl [0, 1, 2] rfl)
          · rw [if_pos c7] at hf
            refine lv_aload_n B.1.1 B.1.2.1 dX6_choose_45 rfl (lv_at hl 0 rfl) ?_
            refine lv_iload_n B.1.1 B.1.2.1 dX6_choose_46 rfl (lv_at hl 2 rfl) ?_
            obtain ⟨σ8, v9, h10, hf⟩ := hy_bd_some hf
            refine hy_cvv (As := [.int x2]) (rest := []) (o := (σ8, v9)) cw_fix hA B w (fun sz => mX6_insert l G sz σ x2 _ h10) (cwV 1 B.1.2.2.2.2 gX6_choose_X6_insert rfl rfl rfl (by decide +kernel) ⟨by have := hR.1; show 2 + 1 ≤ _; omega, by have := hR.2; show 8 + (3 + 11) + 42 ≤ _; omega⟩) rfl (cwq_6 G σ) rfl hl.1 rfl (Nat.le_of_ble_eq_true rfl) dX6_choose_47 ⟨Nat.zero_le _, Nat.zero_le _⟩ (fun H locs w => ?_)
            exact bX6_choose_50 hA B hR hk7 hret _ _ _ _ _ _ hf w (lv_sub hl [0, 1, 2] rfl)
set_option maxHeartbeats 4000000 in
set_option maxRecDepth 100000 in
theorem bX6_choose_0 (hA : ∀ q : Nat, s.heap.size ≤ q → A q) (B : hy_B RX6 cX6_choose 3 wsX6_choose G A p s m args c) (hR : 3 ≤ R.frames ∧ 64 ≤ R.locals) {o : hy_S × Int32}  (hret : ∀ (σ : hy_S) (v : Int32) (pc : Nat) (H : Heap) (locs : List Loc) (ls : Array Slot), o = (σ, v) → hy_w cw G A s σ H locs → decode cX6_choose pc = .ok (.ireturn, 1) → W p l e R s m args below meth c H locs 0 0 Q (F0 m pc ls [.int v])) (σ : hy_S) (x1 : Int32) (H : Heap) (locs : List Loc) (ls : Array Slot) (hf : fX6_choose σ x1 = some o) (w : hy_w cw G A s σ H locs) (hl : lv_has ls 3 [(0, .ref (G.2.2.2.1 6)), (1, .int x1)]) : W p l e R s m args below meth c H locs 0 0 Q (F0 m 0 ls []) := by
  unfold fX6_choose at hf
  refine lv_aload_n B.1.1 B.1.2.1 dX6_choose_0 rfl (lv_at hl 0 rfl) ?_
  refine lv_iconst (v := 0) B.1.1 B.1.2.1 dX6_choose_1 (by decide) ?_
  obtain ⟨σ1, e2, hf⟩ := hy_pf_some hf
  refine hy_put (k := 3) B w (cwq_6 G) rfl in_X6_choose_X6 tyX6 tyX6_ok nmX6 (by decide) (by decide +kernel) rfl rfl (by show 3 < 4; decide) (cwp_6 G) e2 dX6_choose_2 (fun H locs w => ?_)
  refine lv_iconst (v := 0) B.1.1 B.1.2.1 dX6_choose_5 (by decide) ?_
  refine lv_istore_n (lv' := [(2, .int 0), (0, .ref (G.2.2.2.1 6)), (1, .int x1)]) B.1.1 B.1.2.1 dX6_choose_6 rfl hl (by decide) rfl (fun ls hl => ?_)
  exact bX6_choose_7 hA B hR  hret _ _ _ _ _ _ _ hf w (lv_sub hl [1, 2, 0] rfl)
set_option maxHeartbeats 4000000 in
set_option maxRecDepth 100000 in
theorem mX6_choose (l : Launch) (G : hy_G) (sz : Nat) (σ : hy_S) (x1 : Int32) (o : hy_S × Int32) (hf : fX6_choose σ x1 = some o) : hy_M l yX6_choose wsX6_choose ({ frames := 3, cells := 0, slots := 0, locals := 64 }) cw G σ sz [.ref (G.2.2.2.1 6), .int x1] o := by
  refine Met.ofW (cc := cX6_choose) (maxL := 3) (ret := (some .int)) (by decide +kernel) rfl ?_
  intro p e s m args below meth c s₁ B hml hv
  obtain ⟨rfl, hsz, hP, hK, hD0, hN⟩ := hv
  have hx := B.exec
  have hb := B.bytes
  have hr := B.returns
  have hts := atoms_spec (ws := wsX6_choose) B.pre
  have hown : s.vm.findClass RX6 = some m.cls := findClass_of_methodNamed B.named
  have hlocks := B.notSynchronized
  subst hsz
  have hD := hD0.self (sz := s.heap.size)
  have hA : ∀ q : Nat, s.heap.size ≤ q → va_A (cw G σ) s.heap.size q := fun q h => Or.inr h
  have hS : va_S (va_A (cw G σ) s.heap.size) s.heap s.heap [] := va_S.rf
  have hl := lv_entry ([.ref (G.2.2.2.1 6), .int x1]) (n := 3) (Nat.le_of_ble_eq_true rfl)
  rw [lg_entry_eq]
  generalize (lg_sl ([.ref (G.2.2.2.1 6), .int x1]) ++ List.replicate (3 - (lg_sl ([.ref (G.2.2.2.1 6), .int x1])).length) Slot.unset).toArray = ls at hl ⊢
  have hl : lv_has ls 3 [(0, .ref (G.2.2.2.1 6)), (1, .int x1)] := hl
  refine bX6_choose_0 (A := va_A (cw G σ) s.heap.size) hA ⟨⟨hx, hb, hml, hown, hts⟩, hK, hN⟩ ⟨Nat.le_of_ble_eq_true rfl, Nat.le_of_ble_eq_true rfl⟩ (o := o) (fun τ v pc H locs ls ho w d => ?_) σ x1 _ _ _ hf ⟨hP, hD, hS⟩ hl
  exact W.iret hx hb hr (fun t ht hW => ⟨⟨v, τ, rfl, ⟨by rw [ho], by rw [ho]⟩, by have h9 := w.1; rw [← ht] at h9; exact h9⟩, w.2.2.F ht⟩) w.2.2.2.2 d
theorem in_X6_greatest_X6 : ∀ w ∈ u_ws RX6 TX6 4, w ∈ wsX6_greatest := fun _ h => xt1 (xl (xl (xr (h))))
noncomputable def fX6_greatest_121 (k11 : hy_S → Int32 → Int32 → Option (hy_S × Int32)) (σ : hy_S) (x1 : Int32) (x2 : Int32) : Option (hy_S × Int32) := k11 σ x1 (x2 + 1)
noncomputable def fX6_greatest_99 (k11 : hy_S → Int32 → Int32 → Option (hy_S × Int32)) (k39 : hy_S → Int32 → Int32 → Int32 → Int32 → Option (hy_S × Int32)) (σ : hy_S) (x1 : Int32) (x2 : Int32) (x3 : Int32) (x4 : Int32) : Option (hy_S × Int32) := k39 σ x1 x2 x3 (x4 + (-1))
noncomputable def fX6_greatest_39 (k11 : hy_S → Int32 → Int32 → Option (hy_S × Int32)) : Nat → hy_S → Int32 → Int32 → Int32 → Int32 → Option (hy_S × Int32)
  | 0, _, _, _, _, _ => none
  | n + 1, σ, x1, x2, x3, x4 => (if x4 < 0 then hy_ga σ 14 21 (x1 + 1) (fun v2 => (if 1000000000 ≤ v2 then fX6_greatest_121 k11 σ x1 x2 else fX6_greatest_121 k11 σ (x1 + 1) x2)) else hy_ga σ 14 21 x4 (fun v6 => hy_bd (fX1_bears σ x3) (fun σ9 v10 => (if v10 < v6 then fX6_greatest_99 k11 (fX6_greatest_39 k11 n) σ9 x1 x2 x3 x4 else hy_ga σ9 14 21 (x4 + 1) (fun v13 => hy_ga σ9 14 21 x4 (fun v16 => hy_bd (fX1_weight σ9 x3) (fun σ19 v20 => hy_pa σ19 14 21 (x4 + 1) (if (v16 + v20) < v13 then (v16 + v20) else v13) (fun σ24 => fX6_greatest_99 k11 (fX6_greatest_39 k11 n) σ24 x1 x2 x3 x4))))))))
noncomputable def fX6_greatest_11 : Nat → hy_S → Int32 → Int32 → Option (hy_S × Int32)
  | 0, _, _, _ => none
  | n + 1, σ, x1, x2 => (if (σ.2 6) ≤ x2 then some (σ, x1) else hy_ga σ 13 20 x2 (fun v2 => hy_pa σ 14 21 (x1 + 1) 1000000000 (fun σ5 => fX6_greatest_39 (fX6_greatest_11 n) hy_fu σ5 x1 x2 v2 x1)))
noncomputable def fX6_greatest (σ : hy_S) : Option (hy_S × Int32) := hy_pa σ 14 21 0 0 (fun σ1 => fX6_greatest_11 hy_fu σ1 0 0)
set_option maxHeartbeats 4000000 in
set_option maxRecDepth 100000 in
theorem bX6_greatest_121 (hA : ∀ q : Nat, s.heap.size ≤ q → A q) (B : hy_B RX6 cX6_greatest 5 wsX6_greatest G A p s m args c) (hR : 1 ≤ R.frames ∧ 30 ≤ R.locals) {o : hy_S × Int32}  {k11 : hy_S → Int32 → Int32 → Option (hy_S × Int32)} (hk11 : ∀ (σ : hy_S) (x1 : Int32) (x2 : Int32) (H : Heap) (locs : List Loc) (ls : Array Slot), k11 σ x1 x2 = some o → hy_w cw G A s σ H locs → lv_has ls 5 [(0, .ref (G.2.2.2.1 6)), (1, .int x1), (2, .int x2)] → W p l e R s m args below meth c H locs 0 0 Q (F0 m 11 ls [])) (hret : ∀ (σ : hy_S) (v : Int32) (pc : Nat) (H : Heap) (locs : List Loc) (ls : Array Slot), o = (σ, v) → hy_w cw G A s σ H locs → decode cX6_greatest pc = .ok (.ireturn, 1) → W p l e R s m args below meth c H locs 0 0 Q (F0 m pc ls [.int v])) (σ : hy_S) (x1 : Int32) (x2 : Int32) (H : Heap) (locs : List Loc) (ls : Array Slot) (hf : fX6_greatest_121 k11 σ x1 x2 = some o) (w : hy_w cw G A s σ H locs) (hl : lv_has ls 5 [(0, .ref (G.2.2.2.1 6)), (1, .int x1), (2, .int x2)]) : W p l e R s m args below meth c H locs 0 0 Q (F0 m 121 ls []) := by
  unfold fX6_greatest_121 at hf
  refine lv_iinc (v := (x2 + 1)) (lv' := [(2, .int (x2 + 1)), (0, .ref (G.2.2.2.1 6)), (1, .int x1)]) B.1.1 B.1.2.1 dX6_greatest_121 hl (k := 2) rfl rfl (by decide) rfl (fun ls hl => ?_)
  refine lv_goto (tgt := 11) B.1.1 B.1.2.1 dX6_greatest_124 (by decide) ?_
  exact hk11 _ _ _ _ _ _ hf w (lv_sub hl [1, 2, 0] rfl)
set_option maxHeartbeats 4000000 in
set_option maxRecDepth 100000 in
theorem bX6_greatest_99 (hA : ∀ q : Nat, s.heap.size ≤ q → A q) (B : hy_B RX6 cX6_greatest 5 wsX6_greatest G A p s m args c) (hR : 1 ≤ R.frames ∧ 30 ≤ R.locals) {o : hy_S × Int32}  {k11 : hy_S → Int32 → Int32 → Option (hy_S × Int32)} {k39 : hy_S → Int32 → Int32 → Int32 → Int32 → Option (hy_S × Int32)} (hk11 : ∀ (σ : hy_S) (x1 : Int32) (x2 : Int32) (H : Heap) (locs : List Loc) (ls : Array Slot), k11 σ x1 x2 = some o → hy_w cw G A s σ H locs → lv_has ls 5 [(0, .ref (G.2.2.2.1 6)), (1, .int x1), (2, .int x2)] → W p l e R s m args below meth c H locs 0 0 Q (F0 m 11 ls [])) (hk39 : ∀ (σ : hy_S) (x1 : Int32) (x2 : Int32) (x3 : Int32) (x4 : Int32) (H : Heap) (locs : List Loc) (ls : Array Slot), k39 σ x1 x2 x3 x4 = some o → hy_w cw G A s σ H locs → lv_has ls 5 [(0, .ref (G.2.2.2.1 6)), (1, .int x1), (2, .int x2), (3, .int x3), (4, .int x4)] → W p l e R s m args below meth c H locs 0 0 Q (F0 m 39 ls [])) (hret : ∀ (σ : hy_S) (v : Int32) (pc : Nat) (H : Heap) (locs : List Loc) (ls : Array Slot), o = (σ, v) → hy_w cw G A s σ H locs → decode cX6_greatest pc = .ok (.ireturn, 1) → W p l e R s m args below meth c H locs 0 0 Q (F0 m pc ls [.int v])) (σ : hy_S) (x1 : Int32) (x2 : Int32) (x3 : Int32) (x4 : Int32) (H : Heap) (locs : List Loc) (ls : Array Slot) (hf : fX6_greatest_99 k11 k39 σ x1 x2 x3 x4 = some o) (w : hy_w cw G A s σ H locs) (hl : lv_has ls 5 [(0, .ref (G.2.2.2.1 6)), (1, .int x1), (2, .int x2), (3, .int x3), (4, .int x4)]) : W p l e R s m args below meth c H locs 0 0 Q (F0 m 99 ls []) := by
  unfold fX6_greatest_99 at hf
  refine lv_iinc (v := (x4 + (-1))) (lv' := [(4, .int (x4 + (-1))), (0, .ref (G.2.2.2.1 6)), (1, .int x1), (2, .int x2), (3, .int x3)]) B.1.1 B.1.2.1 dX6_greatest_99 hl (k := 4) rfl rfl (by decide) rfl (fun ls hl => ?_)
  refine lv_goto (tgt := 39) B.1.1 B.1.2.1 dX6_greatest_102 (by decide) ?_
  exact hk39 _ _ _ _ _ _ _ _ hf w (lv_sub hl [1, 2, 3, 4, 0] rfl)
set_option maxHeartbeats 4000000 in
set_option maxRecDepth 100000 in
theorem bX6_greatest_39 (hA : ∀ q : Nat, s.heap.size ≤ q → A q) (B : hy_B RX6 cX6_greatest 5 wsX6_greatest G A p s m args c) (hR : 1 ≤ R.frames ∧ 30 ≤ R.locals) {o : hy_S × Int32}  {k11 : hy_S → Int32 → Int32 → Option (hy_S × Int32)} (hk11 : ∀ (σ : hy_S) (x1 : Int32) (x2 : Int32) (H : Heap) (locs : List Loc) (ls : Array Slot), k11 σ x1 x2 = some o → hy_w cw G A s σ H locs → lv_has ls 5 [(0, .ref (G.2.2.2.1 6)), (1, .int x1), (2, .int x2)] → W p l e R s m args below meth c H locs 0 0 Q (F0 m 11 ls [])) (hret : ∀ (σ : hy_S) (v : Int32) (pc : Nat) (H : Heap) (locs : List Loc) (ls : Array Slot), o = (σ, v) → hy_w cw G A s σ H locs → decode cX6_greatest pc = .ok (.ireturn, 1) → W p l e R s m args below meth c H locs 0 0 Q (F0 m pc ls [.int v])) : ∀ (n : Nat) (σ : hy_S) (x1 : Int32) (x2 : Int32) (x3 : Int32) (x4 : Int32) (H : Heap) (locs : List Loc) (ls : Array Slot), fX6_greatest_39 k11 n σ x1 x2 x3 x4 = some o → hy_w cw G A s σ H locs → lv_has ls 5 [(0, .ref (G.2.2.2.1 6)), (1, .int x1), (2, .int x2), (3, .int x3), (4, .int x4)] → W p l e R s m args below meth c H locs 0 0 Q (F0 m 39 ls []) := by
  intro n
  induction n with
  | zero => intro σ x1 x2 x3 x4 H locs ls hf; cases hf
  | succ n hk39 =>
    intro σ x1 x2 x3 x4 H locs ls hf w hl
    unfold fX6_greatest_39 at hf
    refine lv_iload B.1.1 B.1.2.1 dX6_greatest_39 (lv_at hl 4 rfl) ?_
    refine lv_if_lt (tgt := 105) B.1.1 B.1.2.1 dX6_greatest_41 (by decide) (fun c1 => ?_) (fun c1 => ?_)
    · rw [if_pos c1] at hf
      refine lv_aload_n B.1.1 B.1.2.1 dX6_greatest_105 rfl (lv_at hl 0 rfl) ?_
      refine hy_get (k := 2) (v := .ref (G.2.2.2.1 24)) B w (cwq_6 G) rfl in_X6_greatest_X6 (by decide) (by decide +kernel) rfl dX6_greatest_106 ?_
      refine lv_iload_n B.1.1 B.1.2.1 dX6_greatest_109 rfl (lv_at hl 1 rfl) ?_
      refine lv_iconst (v := 1) B.1.1 B.1.2.1 dX6_greatest_110 (by decide) ?_
      refine lv_iadd B.1.1 B.1.2.1 dX6_greatest_111 ?_
      obtain ⟨h4, v2, e3, hf⟩ := hy_ga_some hf
      refine hy_iald B w (cwq_24 G) h4 e3 dX6_greatest_112 ?_
      refine lv_ldc (v := 1000000000) B.1.1 B.1.2.1 B.1.2.2.2.1 (B.1.2.2.2.2 (.constant RX6 44 (1000000000)) (by decide +kernel)) dX6_greatest_113 ?_
      refine lv_icmp_ge (tgt := 121) B.1.1 B.1.2.1 dX6_greatest_115 (by decide) (fun c5 => ?_) (fun c5 => ?_)
      · rw [if_pos c5] at hf
        exact bX6_greatest_121 hA B hR hk11 hret _ _ _ _ _ _ hf w (lv_sub hl [0, 1, 2] rfl)
      · rw [if_neg c5] at hf
        refine lv_iinc (v := (x1 + 1)) (lv' := [(1, .int (x1 + 1)), (0, .ref (G.2.2.2.1 6)), (2, .int x2), (3, .int x3), (4, .int x4)]) B.1.1 B.1.2.1 dX6_greatest_118 hl (k := 1) rfl rfl (by decide) rfl (fun ls hl => ?_)
        exact bX6_greatest_121 hA B hR hk11 hret _ _ _ _ _ _ hf w (lv_sub hl [1, 0, 2] rfl)
    · rw [if_neg c1] at hf
      refine lv_aload_n B.1.1 B.1.2.1 dX6_greatest_44 rfl (lv_at hl 0 rfl) ?_
      refine hy_get (k := 2) (v := .ref (G.2.2.2.1 24)) B w (cwq_6 G) rfl in_X6_greatest_X6 (by decide) (by decide +kernel) rfl dX6_greatest_45 ?_
      refine lv_iload B.1.1 B.1.2.1 dX6_greatest_48 (lv_at hl 4 rfl) ?_
      obtain ⟨h8, v6, e7, hf⟩ := hy_ga_some hf
      refine hy_iald B w (cwq_24 G) h8 e7 dX6_greatest_50 ?_
      refine lv_aload_n B.1.1 B.1.2.1 dX6_greatest_51 rfl (lv_at hl 0 rfl) ?_
      refine hy_get (k := 0) (v := .ref (G.2.2.2.1 4)) B w (cwq_6 G) rfl in_X6_greatest_X6 (by decide) (by decide +kernel) rfl dX6_greatest_52 ?_
      refine lv_iload_n B.1.1 B.1.2.1 dX6_greatest_55 rfl (lv_at hl 3 rfl) ?_
      obtain ⟨σ9, v10, h11, hf⟩ := hy_bd_some hf
      refine hy_cv (As := [.int x3]) (rest := [.int v6]) (o := (σ9, v10)) cw_fix hA B w (fun sz => mX1_bears l G sz σ x3 _ h11) (cwV 1 B.1.2.2.2.2 gX6_greatest_X1_bears rfl rfl rfl (by decide +kernel) ⟨by have := hR.1; show 0 + 1 ≤ _; omega, by have := hR.2; show 8 + (2 + 11) + 0 ≤ _; omega⟩) rfl (cwq_4 G σ) rfl hl.1 rfl (Nat.le_of_ble_eq_true rfl) dX6_greatest_56 ⟨Nat.zero_le _, Nat.zero_le _⟩ (fun H locs w => ?_)
      refine lv_icmp_gt (tgt := 99) B.1.1 B.1.2.1 dX6_greatest_59 (by decide) (fun c12 => ?_) (fun c12 => ?_)
      · rw [if_pos c12] at hf
        exact bX6_greatest_99 hA B hR hk11 hk39 hret _ _ _ _ _ _ _ _ hf w (lv_sub hl [0, 1, 2, 3, 4] rfl)
      · rw [if_neg c12] at hf
        refine lv_aload_n B.1.1 B.1.2.1 dX6_greatest_62 rfl (lv_at hl 0 rfl) ?_
        refine hy_get (k := 2) (v := .ref (G.2.2.2.1 24)) B w (cwq_6 G) rfl in_X6_greatest_X6 (by decide) (by decide +kernel) rfl dX6_greatest_63 ?_
        refine lv_iload B.1.1 B.1.2.1 dX6_greatest_66 (lv_at hl 4 rfl) ?_
        refine lv_iconst (v := 1) B.1.1 B.1.2.1 dX6_greatest_68 (by decide) ?_
        refine lv_iadd B.1.1 B.1.2.1 dX6_greatest_69 ?_
        refine lv_aload_n B.1.1 B.1.2.1 dX6_greatest_70 rfl (lv_at hl 0 rfl) ?_
        refine hy_get (k := 2) (v := .ref (G.2.2.2.1 24)) B w (cwq_6 G) rfl in_X6_greatest_X6 (by decide) (by decide +kernel) rfl dX6_greatest_71 ?_
        refine lv_iload B.1.1 B.1.2.1 dX6_greatest_74 (lv_at hl 4 rfl) ?_
        refine lv_iconst (v := 1) B.1.1 B.1.2.1 dX6_greatest_76 (by decide) ?_
        refine lv_iadd B.1.1 B.1.2.1 dX6_greatest_77 ?_
        obtain ⟨h15, v13, e14, hf⟩ := hy_ga_some hf
        refine hy_iald B w (cwq_24 G) h15 e14 dX6_greatest_78 ?_
        refine lv_aload_n B.1.1 B.1.2.1 dX6_greatest_79 rfl (lv_at hl 0 rfl) ?_
        refine hy_get (k := 2) (v := .ref (G.2.2.2.1 24)) B w (cwq_6 G) rfl in_X6_greatest_X6 (by decide) (by decide +kernel) rfl dX6_greatest_80 ?_
        refine lv_iload B.1.1 B.1.2.1 dX6_greatest_83 (lv_at hl 4 rfl) ?_
        obtain ⟨h18, v16, e17, hf⟩ := hy_ga_some hf
        refine hy_iald B w (cwq_24 G) h18 e17 dX6_greatest_85 ?_
        refine lv_aload_n B.1.1 B.1.2.1 dX6_greatest_86 rfl (lv_at hl 0 rfl) ?_
        refine hy_get (k := 0) (v := .ref (G.2.2.2.1 4)) B w (cwq_6 G) rfl in_X6_greatest_X6 (by decide) (by decide +kernel) rfl dX6_greatest_87 ?_
        refine lv_iload_n B.1.1 B.1.2.1 dX6_greatest_90 rfl (lv_at hl 3 rfl) ?_
        obtain ⟨σ19, v20, h21, hf⟩ := hy_bd_some hf
        refine hy_cv (As := [.int x3]) (rest := [.int v16, .int v13, .int (x4 + 1), .ref (G.2.2.2.1 24)]) (o := (σ19, v20)) cw_fix hA B w (fun sz => mX1_weight l G sz σ9 x3 _ h21) (cwV 1 B.1.2.2.2.2 gX6_greatest_X1_weight rfl rfl rfl (by decide +kernel) ⟨by have := hR.1; show 0 + 1 ≤ _; omega, by have := hR.2; show 8 + (2 + 11) + 0 ≤ _; omega⟩) rfl (cwq_4 G σ9) rfl hl.1 rfl (Nat.le_of_ble_eq_true rfl) dX6_greatest_91 ⟨Nat.zero_le _, Nat.zero_le _⟩ (fun H locs w => ?_)
        refine lv_iadd B.1.1 B.1.2.1 dX6_greatest_94 ?_
        refine va_mmin B.1.1 B.1.2.1 (B.1.2.2.1.trans hl.1.symm) B.1.2.2.2.1 (B.1.2.2.2.2 (.methodLink RX6 45 Lib.Math.min.name) (by decide +kernel)) (B.1.2.2.2.2 (.static Lib.Math.min.name) (by decide +kernel)) (B.1.2.2.2.2 (.initialized "java/lang/Math") (by decide +kernel)) (B.1.2.2.2.2 (.code Lib.Math.min.name Lib.Math.min.code 2 (some .int)) (by decide +kernel)) (by have := hR; omega) (by have := hR; show _ ≤ _; simp [Value.category]; omega) (Nat.zero_le _) (Nat.zero_le _) dX6_greatest_95 ?_
        obtain ⟨h26, σ24, e25, hf⟩ := hy_pa_some hf
        refine hy_iast B w (cwq_24 G) (cws_24 G) h26 e25 dX6_greatest_98 (fun H locs w => ?_)
        exact bX6_greatest_99 hA B hR hk11 hk39 hret _ _ _ _ _ _ _ _ hf w (lv_sub hl [0, 1, 2, 3, 4] rfl)
set_option maxHeartbeats 4000000 in
set_option maxRecDepth 100000 in
theorem bX6_greatest_11 (hA : ∀ q : Nat, s.heap.size ≤ q → A q) (B : hy_B RX6 cX6_greatest 5 wsX6_greatest G A p s m args c) (hR : 1 ≤ R.frames ∧ 30 ≤ R.locals) {o : hy_S × Int32}  (hret : ∀ (σ : hy_S) (v : Int32) (pc : Nat) (H : Heap) (locs : List Loc) (ls : Array Slot), o = (σ, v) → hy_w cw G A s σ H locs → decode cX6_greatest pc = .ok (.ireturn, 1) → W p l e R s m args below meth c H locs 0 0 Q (F0 m pc ls [.int v])) : ∀ (n : Nat) (σ : hy_S) (x1 : Int32) (x2 : Int32) (H : Heap) (locs : List Loc) (ls : Array Slot), fX6_greatest_11 n σ x1 x2 = some o → hy_w cw G A s σ H locs → lv_has ls 5 [(0, .ref (G.2.2.2.1 6)), (1, .int x1), (2, .int x2)] → W p l e R s m args below meth c H locs 0 0 Q (F0 m 11 ls []) := by
  intro n
  induction n with
  | zero => intro σ x1 x2 H locs ls hf; cases hf
  | succ n hk11 =>
    intro σ x1 x2 H locs ls hf w hl
    unfold fX6_greatest_11 at hf
    refine lv_iload_n B.1.1 B.1.2.1 dX6_greatest_11 rfl (lv_at hl 2 rfl) ?_
    refine lv_aload_n B.1.1 B.1.2.1 dX6_greatest_12 rfl (lv_at hl 0 rfl) ?_
    refine hy_get (k := 3) (v := .int (σ.2 6)) B w (cwq_6 G) rfl in_X6_greatest_X6 (by decide) (by decide +kernel) rfl dX6_greatest_13 ?_
    refine lv_icmp_ge (tgt := 127) B.1.1 B.1.2.1 dX6_greatest_16 (by decide) (fun c1 => ?_) (fun c1 => ?_)
    · rw [if_pos c1] at hf
      refine lv_iload_n B.1.1 B.1.2.1 dX6_greatest_127 rfl (lv_at hl 1 rfl) ?_
      exact hret _ _ _ _ _ _ (Option.some.inj hf).symm w dX6_greatest_128
    · rw [if_neg c1] at hf
      refine lv_aload_n B.1.1 B.1.2.1 dX6_greatest_19 rfl (lv_at hl 0 rfl) ?_
      refine hy_get (k := 1) (v := .ref (G.2.2.2.1 23)) B w (cwq_6 G) rfl in_X6_greatest_X6 (by decide) (by decide +kernel) rfl dX6_greatest_20 ?_
      refine lv_iload_n B.1.1 B.1.2.1 dX6_greatest_23 rfl (lv_at hl 2 rfl) ?_
      obtain ⟨h4, v2, e3, hf⟩ := hy_ga_some hf
      refine hy_iald B w (cwq_23 G) h4 e3 dX6_greatest_24 ?_
      refine lv_istore_n (lv' := [(3, .int v2), (0, .ref (G.2.2.2.1 6)), (1, .int x1), (2, .int x2)]) B.1.1 B.1.2.1 dX6_greatest_25 rfl hl (by decide) rfl (fun ls hl => ?_)
      refine lv_aload_n B.1.1 B.1.2.1 dX6_greatest_26 rfl (lv_at hl 1 rfl) ?_
      refine hy_get (k := 2) (v := .ref (G.2.2.2.1 24)) B w (cwq_6 G) rfl in_X6_greatest_X6 (by decide) (by decide +kernel) rfl dX6_greatest_27 ?_
      refine lv_iload_n B.1.1 B.1.2.1 dX6_greatest_30 rfl (lv_at hl 2 rfl) ?_
      refine lv_iconst (v := 1) B.1.1 B.1.2.1 dX6_greatest_31 (by decide) ?_
      refine lv_iadd B.1.1 B.1.2.1 dX6_greatest_32 ?_
      refine lv_ldc (v := 1000000000) B.1.1 B.1.2.1 B.1.2.2.2.1 (B.1.2.2.2.2 (.constant RX6 44 (1000000000)) (by decide +kernel)) dX6_greatest_33 ?_
      obtain ⟨h7, σ5, e6, hf⟩ := hy_pa_some hf
      refine hy_iast B w (cwq_24 G) (cws_24 G) h7 e6 dX6_greatest_35 (fun H locs w => ?_)
      refine lv_iload_n B.1.1 B.1.2.1 dX6_greatest_36 rfl (lv_at hl 2 rfl) ?_
      refine lv_istore (lv' := [(4, .int x1), (3, .int v2), (0, .ref (G.2.2.2.1 6)), (1, .int x1), (2, .int x2)]) B.1.1 B.1.2.1 dX6_greatest_37 hl (by decide) rfl (fun ls hl => ?_)
      exact bX6_greatest_39 hA B hR hk11 hret _ _ _ _ _ _ _ _ _ hf w (lv_sub hl [2, 3, 4, 1, 0] rfl)
set_option maxHeartbeats 4000000 in
set_option maxRecDepth 100000 in
theorem bX6_greatest_0 (hA : ∀ q : Nat, s.heap.size ≤ q → A q) (B : hy_B RX6 cX6_greatest 5 wsX6_greatest G A p s m args c) (hR : 1 ≤ R.frames ∧ 30 ≤ R.locals) {o : hy_S × Int32}  (hret : ∀ (σ : hy_S) (v : Int32) (pc : Nat) (H : Heap) (locs : List Loc) (ls : Array Slot), o = (σ, v) → hy_w cw G A s σ H locs → decode cX6_greatest pc = .ok (.ireturn, 1) → W p l e R s m args below meth c H locs 0 0 Q (F0 m pc ls [.int v])) (σ : hy_S) (H : Heap) (locs : List Loc) (ls : Array Slot) (hf : fX6_greatest σ = some o) (w : hy_w cw G A s σ H locs) (hl : lv_has ls 5 [(0, .ref (G.2.2.2.1 6))]) : W p l e R s m args below meth c H locs 0 0 Q (F0 m 0 ls []) := by
  unfold fX6_greatest at hf
  refine lv_aload_n B.1.1 B.1.2.1 dX6_greatest_0 rfl (lv_at hl 0 rfl) ?_
  refine hy_get (k := 2) (v := .ref (G.2.2.2.1 24)) B w (cwq_6 G) rfl in_X6_greatest_X6 (by decide) (by decide +kernel) rfl dX6_greatest_1 ?_
  refine lv_iconst (v := 0) B.1.1 B.1.2.1 dX6_greatest_4 (by decide) ?_
  refine lv_iconst (v := 0) B.1.1 B.1.2.1 dX6_greatest_5 (by decide) ?_
  obtain ⟨h3, σ1, e2, hf⟩ := hy_pa_some hf
  refine hy_iast B w (cwq_24 G) (cws_24 G) h3 e2 dX6_greatest_6 (fun H locs w => ?_)
  refine lv_iconst (v := 0) B.1.1 B.1.2.1 dX6_greatest_7 (by decide) ?_
  refine lv_istore_n (lv' := [(1, .int 0), (0, .ref (G.2.2.2.1 6))]) B.1.1 B.1.2.1 dX6_greatest_8 rfl hl (by decide) rfl (fun ls hl => ?_)
  refine lv_iconst (v := 0) B.1.1 B.1.2.1 dX6_greatest_9 (by decide) ?_
  refine lv_istore_n (lv' := [(2, .int 0), (1, .int 0), (0, .ref (G.2.2.2.1 6))]) B.1.1 B.1.2.1 dX6_greatest_10 rfl hl (by decide) rfl (fun ls hl => ?_)
  exact bX6_greatest_11 hA B hR  hret _ _ _ _ _ _ _ hf w (lv_sub hl [2, 1, 0] rfl)
set_option maxHeartbeats 4000000 in
set_option maxRecDepth 100000 in
theorem mX6_greatest (l : Launch) (G : hy_G) (sz : Nat) (σ : hy_S) (o : hy_S × Int32) (hf : fX6_greatest σ = some o) : hy_M l yX6_greatest wsX6_greatest ({ frames := 1, cells := 0, slots := 0, locals := 30 }) cw G σ sz [.ref (G.2.2.2.1 6)] o := by
  refine Met.ofW (cc := cX6_greatest) (maxL := 5) (ret := (some .int)) (by decide +kernel) rfl ?_
  intro p e s m args below meth c s₁ B hml hv
  obtain ⟨rfl, hsz, hP, hK, hD0, hN⟩ := hv
  have hx := B.exec
  have hb := B.bytes
  have hr := B.returns
  have hts := atoms_spec (ws := wsX6_greatest) B.pre
  have hown : s.vm.findClass RX6 = some m.cls := findClass_of_methodNamed B.named
  have hlocks := B.notSynchronized
  subst hsz
  have hD := hD0.self (sz := s.heap.size)
  have hA : ∀ q : Nat, s.heap.size ≤ q → va_A (cw G σ) s.heap.size q := fun q h => Or.inr h
  have hS : va_S (va_A (cw G σ) s.heap.size) s.heap s.heap [] := va_S.rf
  have hl := lv_entry ([.ref (G.2.2.2.1 6)]) (n := 5) (Nat.le_of_ble_eq_true rfl)
  rw [lg_entry_eq]
  generalize (lg_sl ([.ref (G.2.2.2.1 6)]) ++ List.replicate (5 - (lg_sl ([.ref (G.2.2.2.1 6)])).length) Slot.unset).toArray = ls at hl ⊢
  have hl : lv_has ls 5 [(0, .ref (G.2.2.2.1 6))] := hl
  refine bX6_greatest_0 (A := va_A (cw G σ) s.heap.size) hA ⟨⟨hx, hb, hml, hown, hts⟩, hK, hN⟩ ⟨Nat.le_of_ble_eq_true rfl, Nat.le_of_ble_eq_true rfl⟩ (o := o) (fun τ v pc H locs ls ho w d => ?_) σ _ _ _ hf ⟨hP, hD, hS⟩ hl
  exact W.iret hx hb hr (fun t ht hW => ⟨⟨v, τ, rfl, ⟨by rw [ho], by rw [ho]⟩, by have h9 := w.1; rw [← ht] at h9; exact h9⟩, w.2.2.F ht⟩) w.2.2.2.2 d
end HK3
