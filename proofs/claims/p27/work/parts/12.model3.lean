section HM3
variable {p : Program} {l : Launch} {e : Env} {R : Room} {s : State} {m : MethodId} {args : Array Value} {below : List Frame} {meth : Method} {c : Code} {Q : State → Prop} {G : hy_G} {A : Nat → Prop} {Qc : Array Value → State → Outcome → State → Prop}
noncomputable def fX10_noStamp (σ : hy_S) (x0 : Int32) : Option (hy_S × Int32) := hy_bd (fX10_in σ x0 0 11) (fun σ1 v2 => (if v2 = 0 then some (σ1, 1) else some (σ1, 0)))
set_option maxHeartbeats 4000000 in
set_option maxRecDepth 100000 in
theorem bX10_noStamp_0 (hA : ∀ q : Nat, s.heap.size ≤ q → A q) (B : hy_B RX10 cX10_noStamp 1 wsX10_noStamp G A p s m args c) (hR : 1 ≤ R.frames ∧ 22 ≤ R.locals) {o : hy_S × Int32}  (hret : ∀ (σ : hy_S) (v : Int32) (pc : Nat) (H : Heap) (locs : List Loc) (ls : Array Slot), o = (σ, v) → (v = 0 ∨ v = 1) → hy_w mw G A s σ H locs → decode cX10_noStamp pc = .ok (.ireturn, 1) → W p l e R s m args below meth c H locs 0 0 Q (F0 m pc ls [.int v])) (σ : hy_S) (x0 : Int32) (H : Heap) (locs : List Loc) (ls : Array Slot) (hf : fX10_noStamp σ x0 = some o) (w : hy_w mw G A s σ H locs) (hl : lv_has ls 1 [(0, .int x0)]) : W p l e R s m args below meth c H locs 0 0 Q (F0 m 0 ls []) := by
  unfold fX10_noStamp at hf
  refine lv_iload_n B.1.1 B.1.2.1 dX10_noStamp_0 rfl (lv_at hl 0 rfl) ?_
  refine lv_iconst (v := 0) B.1.1 B.1.2.1 dX10_noStamp_1 (by decide) ?_
  refine lv_bipush (v := 11) B.1.1 B.1.2.1 dX10_noStamp_2 (by decide) ?_
  obtain ⟨σ1, v2, h3, hf⟩ := hy_bd_some hf
  refine hy_cs (As := [.int x0, .int 0, .int 11]) (rest := []) (o := (σ1, v2)) mw_fix hA B w (fun sz => mX10_in l G sz σ x0 0 11 _ h3) (cwS 3 B.1.2.2.2.2 gX10_noStamp_X10_in rfl rfl rfl (by decide +kernel) ⟨by have := hR.1; show 0 + 1 ≤ _; omega, by have := hR.2; show 8 + (3 + 11) + 0 ≤ _; omega⟩) rfl hl.1 rfl (Nat.le_of_ble_eq_true rfl) dX10_noStamp_4 ⟨Nat.zero_le _, Nat.zero_le _⟩ (fun H locs w => ?_)
  refine lv_if_ne (tgt := 14) B.1.1 B.1.2.1 dX10_noStamp_7 (by decide) (fun c4 => ?_) (fun c4 => ?_)
  · rw [if_neg c4] at hf
    refine lv_iconst (v := 0) B.1.1 B.1.2.1 dX10_noStamp_14 (by decide) ?_
    exact hret _ _ _ _ _ _ (Option.some.inj hf).symm (Or.inl rfl) w dX10_noStamp_15
  · rw [if_pos c4] at hf
    refine lv_iconst (v := 1) B.1.1 B.1.2.1 dX10_noStamp_10 (by decide) ?_
    refine lv_goto (tgt := 15) B.1.1 B.1.2.1 dX10_noStamp_11 (by decide) ?_
    exact hret _ _ _ _ _ _ (Option.some.inj hf).symm (Or.inr rfl) w dX10_noStamp_15
set_option maxHeartbeats 4000000 in
set_option maxRecDepth 100000 in
theorem mX10_noStamp (l : Launch) (G : hy_G) (sz : Nat) (σ : hy_S) (x0 : Int32) (o : hy_S × Int32) (hf : fX10_noStamp σ x0 = some o) : hy_M l yX10_noStamp wsX10_noStamp ({ frames := 1, cells := 0, slots := 0, locals := 22 }) mw G σ sz [.int x0] o := by
  refine Met.ofW (cc := cX10_noStamp) (maxL := 1) (ret := (some .boolean)) (by decide +kernel) rfl ?_
  intro p e s m args below meth c s₁ B hml hv
  obtain ⟨rfl, hsz, hP, hK, hD0, hN⟩ := hv
  have hx := B.exec
  have hb := B.bytes
  have hr := B.returns
  have hts := atoms_spec (ws := wsX10_noStamp) B.pre
  have hown : s.vm.findClass RX10 = some m.cls := findClass_of_methodNamed B.named
  have hlocks := B.notSynchronized
  subst hsz
  have hD := hD0.self (sz := s.heap.size)
  have hA : ∀ q : Nat, s.heap.size ≤ q → va_A (mw G σ) s.heap.size q := fun q h => Or.inr h
  have hS : va_S (va_A (mw G σ) s.heap.size) s.heap s.heap [] := va_S.rf
  have hl := lv_entry ([.int x0]) (n := 1) (Nat.le_of_ble_eq_true rfl)
  rw [lg_entry_eq]
  generalize (lg_sl ([.int x0]) ++ List.replicate (1 - (lg_sl ([.int x0])).length) Slot.unset).toArray = ls at hl ⊢
  have hl : lv_has ls 1 [(0, .int x0)] := hl
  refine bX10_noStamp_0 (A := va_A (mw G σ) s.heap.size) hA ⟨⟨hx, hb, hml, hown, hts⟩, hK, hN⟩ ⟨Nat.le_of_ble_eq_true rfl, Nat.le_of_ble_eq_true rfl⟩ (o := o) (fun τ v pc H locs ls ho hz w d => ?_) σ x0 _ _ _ hf ⟨hP, hD, hS⟩ hl
  exact W.zret hx hb hr (hy_bool hz) (fun t ht hW => ⟨⟨v, τ, rfl, ⟨by rw [ho], by rw [ho]⟩, by have h9 := w.1; rw [← ht] at h9; exact h9⟩, w.2.2.F ht⟩) w.2.2.2.2 d
theorem in_X10_noSherd_X10 : ∀ w ∈ u_ws RX10 TX10 43, w ∈ wsX10_noSherd := fun _ h => xt1 (xr (h))
noncomputable def fX10_noSherd (σ : hy_S) (x1 : Int32) : Option (hy_S × Int32) := hy_bd (fX10_in σ x1 0 ((σ.2 9) - 1)) (fun σ1 v2 => (if v2 = 0 then some (σ1, 1) else some (σ1, 0)))
set_option maxHeartbeats 4000000 in
set_option maxRecDepth 100000 in
theorem bX10_noSherd_0 (hA : ∀ q : Nat, s.heap.size ≤ q → A q) (B : hy_B RX10 cX10_noSherd 2 wsX10_noSherd G A p s m args c) (hR : 1 ≤ R.frames ∧ 22 ≤ R.locals) {o : hy_S × Int32}  (hret : ∀ (σ : hy_S) (v : Int32) (pc : Nat) (H : Heap) (locs : List Loc) (ls : Array Slot), o = (σ, v) → (v = 0 ∨ v = 1) → hy_w mw G A s σ H locs → decode cX10_noSherd pc = .ok (.ireturn, 1) → W p l e R s m args below meth c H locs 0 0 Q (F0 m pc ls [.int v])) (σ : hy_S) (x1 : Int32) (H : Heap) (locs : List Loc) (ls : Array Slot) (hf : fX10_noSherd σ x1 = some o) (w : hy_w mw G A s σ H locs) (hl : lv_has ls 2 [(0, .ref (G.2.2.2.2.1 0)), (1, .int x1)]) : W p l e R s m args below meth c H locs 0 0 Q (F0 m 0 ls []) := by
  unfold fX10_noSherd at hf
  refine lv_iload_n B.1.1 B.1.2.1 dX10_noSherd_0 rfl (lv_at hl 1 rfl) ?_
  refine lv_iconst (v := 0) B.1.1 B.1.2.1 dX10_noSherd_1 (by decide) ?_
  refine lv_aload_n B.1.1 B.1.2.1 dX10_noSherd_2 rfl (lv_at hl 0 rfl) ?_
  refine hy_get (k := 32) (v := .int (σ.2 9)) B w (mwq_0 G) rfl in_X10_noSherd_X10 (by decide) (by decide +kernel) rfl dX10_noSherd_3 ?_
  refine lv_iconst (v := 1) B.1.1 B.1.2.1 dX10_noSherd_6 (by decide) ?_
  refine lv_isub B.1.1 B.1.2.1 dX10_noSherd_7 ?_
  obtain ⟨σ1, v2, h3, hf⟩ := hy_bd_some hf
  refine hy_cs (As := [.int x1, .int 0, .int ((σ.2 9) - 1)]) (rest := []) (o := (σ1, v2)) mw_fix hA B w (fun sz => mX10_in l G sz σ x1 0 ((σ.2 9) - 1) _ h3) (cwS 3 B.1.2.2.2.2 gX10_noSherd_X10_in rfl rfl rfl (by decide +kernel) ⟨by have := hR.1; show 0 + 1 ≤ _; omega, by have := hR.2; show 8 + (3 + 11) + 0 ≤ _; omega⟩) rfl hl.1 rfl (Nat.le_of_ble_eq_true rfl) dX10_noSherd_8 ⟨Nat.zero_le _, Nat.zero_le _⟩ (fun H locs w => ?_)
  refine lv_if_ne (tgt := 18) B.1.1 B.1.2.1 dX10_noSherd_11 (by decide) (fun c4 => ?_) (fun c4 => ?_)
  · rw [if_neg c4] at hf
    refine lv_iconst (v := 0) B.1.1 B.1.2.1 dX10_noSherd_18 (by decide) ?_
    exact hret _ _ _ _ _ _ (Option.some.inj hf).symm (Or.inl rfl) w dX10_noSherd_19
  · rw [if_pos c4] at hf
    refine lv_iconst (v := 1) B.1.1 B.1.2.1 dX10_noSherd_14 (by decide) ?_
    refine lv_goto (tgt := 19) B.1.1 B.1.2.1 dX10_noSherd_15 (by decide) ?_
    exact hret _ _ _ _ _ _ (Option.some.inj hf).symm (Or.inr rfl) w dX10_noSherd_19
set_option maxHeartbeats 4000000 in
set_option maxRecDepth 100000 in
theorem mX10_noSherd (l : Launch) (G : hy_G) (sz : Nat) (σ : hy_S) (x1 : Int32) (o : hy_S × Int32) (hf : fX10_noSherd σ x1 = some o) : hy_M l yX10_noSherd wsX10_noSherd ({ frames := 1, cells := 0, slots := 0, locals := 22 }) mw G σ sz [.ref (G.2.2.2.2.1 0), .int x1] o := by
  refine Met.ofW (cc := cX10_noSherd) (maxL := 2) (ret := (some .boolean)) (by decide +kernel) rfl ?_
  intro p e s m args below meth c s₁ B hml hv
  obtain ⟨rfl, hsz, hP, hK, hD0, hN⟩ := hv
  have hx := B.exec
  have hb := B.bytes
  have hr := B.returns
  have hts := atoms_spec (ws := wsX10_noSherd) B.pre
  have hown : s.vm.findClass RX10 = some m.cls := findClass_of_methodNamed B.named
  have hlocks := B.notSynchronized
  subst hsz
  have hD := hD0.self (sz := s.heap.size)
  have hA : ∀ q : Nat, s.heap.size ≤ q → va_A (mw G σ) s.heap.size q := fun q h => Or.inr h
  have hS : va_S (va_A (mw G σ) s.heap.size) s.heap s.heap [] := va_S.rf
  have hl := lv_entry ([.ref (G.2.2.2.2.1 0), .int x1]) (n := 2) (Nat.le_of_ble_eq_true rfl)
  rw [lg_entry_eq]
  generalize (lg_sl ([.ref (G.2.2.2.2.1 0), .int x1]) ++ List.replicate (2 - (lg_sl ([.ref (G.2.2.2.2.1 0), .int x1])).length) Slot.unset).toArray = ls at hl ⊢
  have hl : lv_has ls 2 [(0, .ref (G.2.2.2.2.1 0)), (1, .int x1)] := hl
  refine bX10_noSherd_0 (A := va_A (mw G σ) s.heap.size) hA ⟨⟨hx, hb, hml, hown, hts⟩, hK, hN⟩ ⟨Nat.le_of_ble_eq_true rfl, Nat.le_of_ble_eq_true rfl⟩ (o := o) (fun τ v pc H locs ls ho hz w d => ?_) σ x1 _ _ _ hf ⟨hP, hD, hS⟩ hl
  exact W.zret hx hb hr (hy_bool hz) (fun t ht hW => ⟨⟨v, τ, rfl, ⟨by rw [ho], by rw [ho]⟩, by have h9 := w.1; rw [← ht] at h9; exact h9⟩, w.2.2.F ht⟩) w.2.2.2.2 d
theorem in_X10_sherd_X10 : ∀ w ∈ u_ws RX10 TX10 43, w ∈ wsX10_sherd := fun _ h => xt1 (xr (h))
noncomputable def fX10_sherd_68 (σ : hy_S) (s0 : Int32) (x1 : Int32) (x2 : Int32) : Option (hy_S × Int32) := hy_bd (fX10_throwsIf σ s0 3) (fun σ1 v2 => (if v2 = 0 then hy_pa σ1 20 60 (σ1.2 9) x1 (fun σ5 => hy_pa σ5 21 60 (σ5.2 9) x2 (fun σ8 => hy_pa σ8 22 60 (σ8.2 9) (σ8.2 9) (fun σ11 => hy_pf σ11 9 ((σ11.2 9) + 1) (fun σ14 => some (σ14, ((σ14.2 9) - 1)))))) else some (σ1, 0)))
noncomputable def fX10_sherd_46 (σ : hy_S) (s0 : Int32) (x1 : Int32) (x2 : Int32) : Option (hy_S × Int32) := hy_bd (fX10_throwsIf σ s0 2) (fun σ1 v2 => (if v2 = 0 then (if (σ1.2 9) = 60 then fX10_sherd_68 σ1 1 x1 x2 else fX10_sherd_68 σ1 0 x1 x2) else some (σ1, 0)))
noncomputable def fX10_sherd_23 (σ : hy_S) (s0 : Int32) (x1 : Int32) (x2 : Int32) : Option (hy_S × Int32) := hy_bd (fX10_throwsIf σ s0 1) (fun σ1 v2 => (if v2 = 0 then hy_bd (fX10_in σ1 x1 0 15) (fun σ5 v6 => (if v6 = 0 then fX10_sherd_46 σ5 1 x1 x2 else fX10_sherd_46 σ5 0 x1 x2)) else some (σ1, 0)))
noncomputable def fX10_sherd_22 (σ : hy_S) (x1 : Int32) (x2 : Int32) : Option (hy_S × Int32) := fX10_sherd_23 σ 0 x1 x2
noncomputable def fX10_sherd (σ : hy_S) (x1 : Int32) (x2 : Int32) : Option (hy_S × Int32) := hy_pf σ 0 0 (fun σ1 => (if x2 = (-1) then fX10_sherd_22 σ1 x1 x2 else hy_bd (fX10_noStamp σ1 x2) (fun σ4 v5 => (if v5 = 0 then fX10_sherd_22 σ4 x1 x2 else fX10_sherd_23 σ4 1 x1 x2))))
set_option maxHeartbeats 4000000 in
set_option maxRecDepth 100000 in
theorem bX10_sherd_68 (hA : ∀ q : Nat, s.heap.size ≤ q → A q) (B : hy_B RX10 cX10_sherd 3 wsX10_sherd G A p s m args c) (hR : 2 ≤ R.frames ∧ 42 ≤ R.locals) {o : hy_S × Int32}  (hret : ∀ (σ : hy_S) (v : Int32) (pc : Nat) (H : Heap) (locs : List Loc) (ls : Array Slot), o = (σ, v) → hy_w mw G A s σ H locs → decode cX10_sherd pc = .ok (.ireturn, 1) → W p l e R s m args below meth c H locs 0 0 Q (F0 m pc ls [.int v])) (σ : hy_S) (s0 : Int32) (x1 : Int32) (x2 : Int32) (H : Heap) (locs : List Loc) (ls : Array Slot) (hf : fX10_sherd_68 σ s0 x1 x2 = some o) (w : hy_w mw G A s σ H locs) (hl : lv_has ls 3 [(0, .ref (G.2.2.2.2.1 0)), (1, .int x1), (2, .int x2)]) : W p l e R s m args below meth c H locs 0 0 Q (F0 m 68 ls [.int s0, .ref (G.2.2.2.2.1 0)]) := by
  unfold fX10_sherd_68 at hf
  refine lv_iconst (v := 3) B.1.1 B.1.2.1 dX10_sherd_68 (by decide) ?_
  obtain ⟨σ1, v2, h3, hf⟩ := hy_bd_some hf
  refine hy_cv (As := [.int s0, .int 3]) (rest := []) (o := (σ1, v2)) mw_fix hA B w (fun sz => mX10_throwsIf l G sz σ s0 3 _ h3) (cwV 2 B.1.2.2.2.2 gX10_sherd_X10_throwsIf rfl rfl rfl (by decide +kernel) ⟨by have := hR.1; show 0 + 1 ≤ _; omega, by have := hR.2; show 8 + (3 + 11) + 0 ≤ _; omega⟩) rfl (mwq_0 G σ) rfl hl.1 rfl (Nat.le_of_ble_eq_true rfl) dX10_sherd_69 ⟨Nat.zero_le _, Nat.zero_le _⟩ (fun H locs w => ?_)
  refine lv_if_eq (tgt := 77) B.1.1 B.1.2.1 dX10_sherd_72 (by decide) (fun c4 => ?_) (fun c4 => ?_)
  · rw [if_pos c4] at hf
    refine lv_aload_n B.1.1 B.1.2.1 dX10_sherd_77 rfl (lv_at hl 0 rfl) ?_
    refine hy_get (k := 29) (v := .ref (G.2.2.2.2.1 21)) B w (mwq_0 G) rfl in_X10_sherd_X10 (by decide) (by decide +kernel) rfl dX10_sherd_78 ?_
    refine lv_aload_n B.1.1 B.1.2.1 dX10_sherd_81 rfl (lv_at hl 0 rfl) ?_
    refine hy_get (k := 32) (v := .int (σ1.2 9)) B w (mwq_0 G) rfl in_X10_sherd_X10 (by decide) (by decide +kernel) rfl dX10_sherd_82 ?_
    refine lv_iload_n B.1.1 B.1.2.1 dX10_sherd_85 rfl (lv_at hl 1 rfl) ?_
    obtain ⟨h7, σ5, e6, hf⟩ := hy_pa_some hf
    refine hy_iast B w (mwq_21 G) (mws_21 G) h7 e6 dX10_sherd_86 (fun H locs w => ?_)
    refine lv_aload_n B.1.1 B.1.2.1 dX10_sherd_87 rfl (lv_at hl 0 rfl) ?_
    refine hy_get (k := 30) (v := .ref (G.2.2.2.2.1 22)) B w (mwq_0 G) rfl in_X10_sherd_X10 (by decide) (by decide +kernel) rfl dX10_sherd_88 ?_
    refine lv_aload_n B.1.1 B.1.2.1 dX10_sherd_91 rfl (lv_at hl 0 rfl) ?_
    refine hy_get (k := 32) (v := .int (σ5.2 9)) B w (mwq_0 G) rfl in_X10_sherd_X10 (by decide) (by decide +kernel) rfl dX10_sherd_92 ?_
    refine lv_iload_n B.1.1 B.1.2.1 dX10_sherd_95 rfl (lv_at hl 2 rfl) ?_
    obtain ⟨h10, σ8, e9, hf⟩ := hy_pa_some hf
    refine hy_iast B w (mwq_22 G) (mws_22 G) h10 e9 dX10_sherd_96 (fun H locs w => ?_)
    refine lv_aload_n B.1.1 B.1.2.1 dX10_sherd_97 rfl (lv_at hl 0 rfl) ?_
    refine hy_get (k := 31) (v := .ref (G.2.2.2.2.1 23)) B w (mwq_0 G) rfl in_X10_sherd_X10 (by decide) (by decide +kernel) rfl dX10_sherd_98 ?_
    refine lv_aload_n B.1.1 B.1.2.1 dX10_sherd_101 rfl (lv_at hl 0 rfl) ?_
    refine hy_get (k := 32) (v := .int (σ8.2 9)) B w (mwq_0 G) rfl in_X10_sherd_X10 (by decide) (by decide +kernel) rfl dX10_sherd_102 ?_
    refine lv_aload_n B.1.1 B.1.2.1 dX10_sherd_105 rfl (lv_at hl 0 rfl) ?_
    refine hy_get (k := 32) (v := .int (σ8.2 9)) B w (mwq_0 G) rfl in_X10_sherd_X10 (by decide) (by decide +kernel) rfl dX10_sherd_106 ?_
    obtain ⟨h13, σ11, e12, hf⟩ := hy_pa_some hf
    refine hy_iast B w (mwq_23 G) (mws_23 G) h13 e12 dX10_sherd_109 (fun H locs w => ?_)
    refine lv_aload_n B.1.1 B.1.2.1 dX10_sherd_110 rfl (lv_at hl 0 rfl) ?_
    refine lv_dup B.1.1 B.1.2.1 dX10_sherd_111 rfl ?_
    refine hy_get (k := 32) (v := .int (σ11.2 9)) B w (mwq_0 G) rfl in_X10_sherd_X10 (by decide) (by decide +kernel) rfl dX10_sherd_112 ?_
    refine lv_iconst (v := 1) B.1.1 B.1.2.1 dX10_sherd_115 (by decide) ?_
    refine lv_iadd B.1.1 B.1.2.1 dX10_sherd_116 ?_
    obtain ⟨σ14, e15, hf⟩ := hy_pf_some hf
    refine hy_put (k := 32) B w (mwq_0 G) rfl in_X10_sherd_X10 tyX10 tyX10_ok nmX10 (by decide) (by decide +kernel) rfl rfl (by show 32 < 43; decide) (mwp_9 G) e15 dX10_sherd_117 (fun H locs w => ?_)
    refine lv_aload_n B.1.1 B.1.2.1 dX10_sherd_120 rfl (lv_at hl 0 rfl) ?_
    refine hy_get (k := 32) (v := .int (σ14.2 9)) B w (mwq_0 G) rfl in_X10_sherd_X10 (by decide) (by decide +kernel) rfl dX10_sherd_121 ?_
    refine lv_iconst (v := 1) B.1.1 B.1.2.1 dX10_sherd_124 (by decide) ?_
    refine lv_isub B.1.1 B.1.2.1 dX10_sherd_125 ?_
    exact hret _ _ _ _ _ _ (Option.some.inj hf).symm w dX10_sherd_126
  · rw [if_neg c4] at hf
    refine lv_iconst (v := 0) B.1.1 B.1.2.1 dX10_sherd_75 (by decide) ?_
    exact hret _ _ _ _ _ _ (Option.some.inj hf).symm w dX10_sherd_76
set_option maxHeartbeats 4000000 in
set_option maxRecDepth 100000 in
theorem bX10_sherd_46 (hA : ∀ q : Nat, s.heap.size ≤ q → A q) (B : hy_B RX10 cX10_sherd 3 wsX10_sherd G A p s m args c) (hR : 2 ≤ R.frames ∧ 42 ≤ R.locals) {o : hy_S × Int32}  (hret : ∀ (σ : hy_S) (v : Int32) (pc : Nat) (H : Heap) (locs : List Loc) (ls : Array Slot), o = (σ, v) → hy_w mw G A s σ H locs → decode cX10_sherd pc = .ok (.ireturn, 1) → W p l e R s m args below meth c H locs 0 0 Q (F0 m pc ls [.int v])) (σ : hy_S) (s0 : Int32) (x1 : Int32) (x2 : Int32) (H : Heap) (locs : List Loc) (ls : Array Slot) (hf : fX10_sherd_46 σ s0 x1 x2 = some o) (w : hy_w mw G A s σ H locs) (hl : lv_has ls 3 [(0, .ref (G.2.2.2.2.1 0)), (1, .int x1), (2, .int x2)]) : W p l e R s m args below meth c H locs 0 0 Q (F0 m 46 ls [.int s0, .ref (G.2.2.2.2.1 0)]) := by
  unfold fX10_sherd_46 at hf
  refine lv_iconst (v := 2) B.1.1 B.1.2.1 dX10_sherd_46 (by decide) ?_
  obtain ⟨σ1, v2, h3, hf⟩ := hy_bd_some hf
  refine hy_cv (As := [.int s0, .int 2]) (rest := []) (o := (σ1, v2)) mw_fix hA B w (fun sz => mX10_throwsIf l G sz σ s0 2 _ h3) (cwV 2 B.1.2.2.2.2 gX10_sherd_X10_throwsIf rfl rfl rfl (by decide +kernel) ⟨by have := hR.1; show 0 + 1 ≤ _; omega, by have := hR.2; show 8 + (3 + 11) + 0 ≤ _; omega⟩) rfl (mwq_0 G σ) rfl hl.1 rfl (Nat.le_of_ble_eq_true rfl) dX10_sherd_47 ⟨Nat.zero_le _, Nat.zero_le _⟩ (fun H locs w => ?_)
  refine lv_if_ne (tgt := 75) B.1.1 B.1.2.1 dX10_sherd_50 (by decide) (fun c4 => ?_) (fun c4 => ?_)
  · rw [if_neg c4] at hf
    refine lv_iconst (v := 0) B.1.1 B.1.2.1 dX10_sherd_75 (by decide) ?_
    exact hret _ _ _ _ _ _ (Option.some.inj hf).symm w dX10_sherd_76
  · rw [if_pos c4] at hf
    refine lv_aload_n B.1.1 B.1.2.1 dX10_sherd_53 rfl (lv_at hl 0 rfl) ?_
    refine lv_aload_n B.1.1 B.1.2.1 dX10_sherd_54 rfl (lv_at hl 0 rfl) ?_
    refine hy_get (k := 32) (v := .int (σ1.2 9)) B w (mwq_0 G) rfl in_X10_sherd_X10 (by decide) (by decide +kernel) rfl dX10_sherd_55 ?_
    refine lv_bipush (v := 60) B.1.1 B.1.2.1 dX10_sherd_58 (by decide) ?_
    refine lv_icmp_ne (tgt := 67) B.1.1 B.1.2.1 dX10_sherd_60 (by decide) (fun c5 => ?_) (fun c5 => ?_)
    · rw [if_neg c5] at hf
      refine lv_iconst (v := 0) B.1.1 B.1.2.1 dX10_sherd_67 (by decide) ?_
      exact bX10_sherd_68 hA B hR  hret _ _ _ _ _ _ _ hf w (lv_sub hl [0, 1, 2] rfl)
    · rw [if_pos c5] at hf
      refine lv_iconst (v := 1) B.1.1 B.1.2.1 dX10_sherd_63 (by decide) ?_
      refine lv_goto (tgt := 68) B.1.1 B.1.2.1 dX10_sherd_64 (by decide) ?_
      exact bX10_sherd_68 hA B hR  hret _ _ _ _ _ _ _ hf w (lv_sub hl [0, 1, 2] rfl)
set_option maxHeartbeats 4000000 in
set_option maxRecDepth 100000 in
theorem bX10_sherd_23 (hA : ∀ q : Nat, s.heap.size ≤ q → A q) (B : hy_B RX10 cX10_sherd 3 wsX10_sherd G A p s m args c) (hR : 2 ≤ R.frames ∧ 42 ≤ R.locals) {o : hy_S × Int32}  (hret : ∀ (σ : hy_S) (v : Int32) (pc : Nat) (H : Heap) (locs : List Loc) (ls : Array Slot), o = (σ, v) → hy_w mw G A s σ H locs → decode cX10_sherd pc = .ok (.ireturn, 1) → W p l e R s m args below meth c H locs 0 0 Q (F0 m pc ls [.int v])) (σ : hy_S) (s0 : Int32) (x1 : Int32) (x2 : Int32) (H : Heap) (locs : List Loc) (ls : Array Slot) (hf : fX10_sherd_23 σ s0 x1 x2 = some o) (w : hy_w mw G A s σ H locs) (hl : lv_has ls 3 [(0, .ref (G.2.2.2.2.1 0)), (1, .int x1), (2, .int x2)]) : W p l e R s m args below meth c H locs 0 0 Q (F0 m 23 ls [.int s0, .ref (G.2.2.2.2.1 0)]) := by
  unfold fX10_sherd_23 at hf
  refine lv_iconst (v := 1) B.1.1 B.1.2.1 dX10_sherd_23 (by decide) ?_
  obtain ⟨σ1, v2, h3, hf⟩ := hy_bd_some hf
  refine hy_cv (As := [.int s0, .int 1]) (rest := []) (o := (σ1, v2)) mw_fix hA B w (fun sz => mX10_throwsIf l G sz σ s0 1 _ h3) (cwV 2 B.1.2.2.2.2 gX10_sherd_X10_throwsIf rfl rfl rfl (by decide +kernel) ⟨by have := hR.1; show 0 + 1 ≤ _; omega, by have := hR.2; show 8 + (3 + 11) + 0 ≤ _; omega⟩) rfl (mwq_0 G σ) rfl hl.1 rfl (Nat.le_of_ble_eq_true rfl) dX10_sherd_24 ⟨Nat.zero_le _, Nat.zero_le _⟩ (fun H locs w => ?_)
  refine lv_if_ne (tgt := 75) B.1.1 B.1.2.1 dX10_sherd_27 (by decide) (fun c4 => ?_) (fun c4 => ?_)
  · rw [if_neg c4] at hf
    refine lv_iconst (v := 0) B.1.1 B.1.2.1 dX10_sherd_75 (by decide) ?_
    exact hret _ _ _ _ _ _ (Option.some.inj hf).symm w dX10_sherd_76
  · rw [if_pos c4] at hf
    refine lv_aload_n B.1.1 B.1.2.1 dX10_sherd_30 rfl (lv_at hl 0 rfl) ?_
    refine lv_iload_n B.1.1 B.1.2.1 dX10_sherd_31 rfl (lv_at hl 1 rfl) ?_
    refine lv_iconst (v := 0) B.1.1 B.1.2.1 dX10_sherd_32 (by decide) ?_
    refine lv_bipush (v := 15) B.1.1 B.1.2.1 dX10_sherd_33 (by decide) ?_
    obtain ⟨σ5, v6, h7, hf⟩ := hy_bd_some hf
    refine hy_cs (As := [.int x1, .int 0, .int 15]) (rest := [.ref (G.2.2.2.2.1 0)]) (o := (σ5, v6)) mw_fix hA B w (fun sz => mX10_in l G sz σ1 x1 0 15 _ h7) (cwS 3 B.1.2.2.2.2 gX10_sherd_X10_in rfl rfl rfl (by decide +kernel) ⟨by have := hR.1; show 0 + 1 ≤ _; omega, by have := hR.2; show 8 + (3 + 11) + 0 ≤ _; omega⟩) rfl hl.1 rfl (Nat.le_of_ble_eq_true rfl) dX10_sherd_35 ⟨Nat.zero_le _, Nat.zero_le _⟩ (fun H locs w => ?_)
    refine lv_if_ne (tgt := 45) B.1.1 B.1.2.1 dX10_sherd_38 (by decide) (fun c8 => ?_) (fun c8 => ?_)
    · rw [if_neg c8] at hf
      refine lv_iconst (v := 0) B.1.1 B.1.2.1 dX10_sherd_45 (by decide) ?_
      exact bX10_sherd_46 hA B hR  hret _ _ _ _ _ _ _ hf w (lv_sub hl [0, 1, 2] rfl)
    · rw [if_pos c8] at hf
      refine lv_iconst (v := 1) B.1.1 B.1.2.1 dX10_sherd_41 (by decide) ?_
      refine lv_goto (tgt := 46) B.1.1 B.1.2.1 dX10_sherd_42 (by decide) ?_
      exact bX10_sherd_46 hA B hR  hret _ _ _ _ _ _ _ hf w (lv_sub hl [0, 1, 2] rfl)
set_option maxHeartbeats 4000000 in
set_option maxRecDepth 100000 in
theorem bX10_sherd_22 (hA : ∀ q : Nat, s.heap.size ≤ q → A q) (B : hy_B RX10 cX10_sherd 3 wsX10_sherd G A p s m args c) (hR : 2 ≤ R.frames ∧ 42 ≤ R.locals) {o : hy_S × Int32}  (hret : ∀ (σ : hy_S) (v : Int32) (pc : Nat) (H : Heap) (locs : List Loc) (ls : Array Slot), o = (σ, v) → hy_w mw G A s σ H locs → decode cX10_sherd pc = .ok (.ireturn, 1) → W p l e R s m args below meth c H locs 0 0 Q (F0 m pc ls [.int v])) (σ : hy_S) (x1 : Int32) (x2 : Int32) (H : Heap) (locs : List Loc) (ls : Array Slot) (hf : fX10_sherd_22 σ x1 x2 = some o) (w : hy_w mw G A s σ H locs) (hl : lv_has ls 3 [(0, .ref (G.2.2.2.2.1 0)), (1, .int x1), (2, .int x2)]) : W p l e R s m args below meth c H locs 0 0 Q (F0 m 22 ls [.ref (G.2.2.2.2.1 0)]) := by
  unfold fX10_sherd_22 at hf
  refine lv_iconst (v := 0) B.1.1 B.1.2.1 dX10_sherd_22 (by decide) ?_
  exact bX10_sherd_23 hA B hR  hret _ _ _ _ _ _ _ hf w (lv_sub hl [0, 1, 2] rfl)
set_option maxHeartbeats 4000000 in
set_option maxRecDepth 100000 in
theorem bX10_sherd_0 (hA : ∀ q : Nat, s.heap.size ≤ q → A q) (B : hy_B RX10 cX10_sherd 3 wsX10_sherd G A p s m args c) (hR : 2 ≤ R.frames ∧ 42 ≤ R.locals) {o : hy_S × Int32}  (hret : ∀ (σ : hy_S) (v : Int32) (pc : Nat) (H : Heap) (locs : List Loc) (ls : Array Slot), o = (σ, v) → hy_w mw G A s σ H locs → decode cX10_sherd pc = .ok (.ireturn, 1) → W p l e R s m args below meth c H locs 0 0 Q (F0 m pc ls [.int v])) (σ : hy_S) (x1 : Int32) (x2 : Int32) (H : Heap) (locs : List Loc) (ls : Array Slot) (hf : fX10_sherd σ x1 x2 = some o) (w : hy_w mw G A s σ H locs) (hl : lv_has ls 3 [(0, .ref (G.2.2.2.2.1 0)), (1, .int x1), (2, .int x2)]) : W p l e R s m args below meth c H locs 0 0 Q (F0 m 0 ls []) := by
  unfold fX10_sherd at hf
  refine lv_aload_n B.1.1 B.1.2.1 dX10_sherd_0 rfl (lv_at hl 0 rfl) ?_
  refine lv_iconst (v := 0) B.1.1 B.1.2.1 dX10_sherd_1 (by decide) ?_
  obtain ⟨σ1, e2, hf⟩ := hy_pf_some hf
  refine hy_put (k := 0) B w (mwq_0 G) rfl in_X10_sherd_X10 tyX10 tyX10_ok nmX10 (by decide) (by decide +kernel) rfl rfl (by show 0 < 43; decide) (mwp_0 G) e2 dX10_sherd_2 (fun H locs w => ?_)
  refine lv_aload_n B.1.1 B.1.2.1 dX10_sherd_5 rfl (lv_at hl 0 rfl) ?_
  refine lv_iload_n B.1.1 B.1.2.1 dX10_sherd_6 rfl (lv_at hl 2 rfl) ?_
  refine lv_iconst (v := (-1)) B.1.1 B.1.2.1 dX10_sherd_7 (by decide) ?_
  refine lv_icmp_eq (tgt := 22) B.1.1 B.1.2.1 dX10_sherd_8 (by decide) (fun c3 => ?_) (fun c3 => ?_)
  · rw [if_pos c3] at hf
    exact bX10_sherd_22 hA B hR  hret _ _ _ _ _ _ hf w (lv_sub hl [0, 1, 2] rfl)
  · rw [if_neg c3] at hf
    refine lv_iload_n B.1.1 B.1.2.1 dX10_sherd_11 rfl (lv_at hl 2 rfl) ?_
    obtain ⟨σ4, v5, h6, hf⟩ := hy_bd_some hf
    refine hy_cs (As := [.int x2]) (rest := [.ref (G.2.2.2.2.1 0)]) (o := (σ4, v5)) mw_fix hA B w (fun sz => mX10_noStamp l G sz σ1 x2 _ h6) (cwS 1 B.1.2.2.2.2 gX10_sherd_X10_noStamp rfl rfl rfl (by decide +kernel) ⟨by have := hR.1; show 1 + 1 ≤ _; omega, by have := hR.2; show 8 + (1 + 11) + 22 ≤ _; omega⟩) rfl hl.1 rfl (Nat.le_of_ble_eq_true rfl) dX10_sherd_12 ⟨Nat.zero_le _, Nat.zero_le _⟩ (fun H locs w => ?_)
    refine lv_if_eq (tgt := 22) B.1.1 B.1.2.1 dX10_sherd_15 (by decide) (fun c7 => ?_) (fun c7 => ?_)
    · rw [if_pos c7] at hf
      exact bX10_sherd_22 hA B hR  hret _ _ _ _ _ _ hf w (lv_sub hl [0, 1, 2] rfl)
    · rw [if_neg c7] at hf
      refine lv_iconst (v := 1) B.1.1 B.1.2.1 dX10_sherd_18 (by decide) ?_
      refine lv_goto (tgt := 23) B.1.1 B.1.2.1 dX10_sherd_19 (by decide) ?_
      exact bX10_sherd_23 hA B hR  hret _ _ _ _ _ _ _ hf w (lv_sub hl [0, 1, 2] rfl)
set_option maxHeartbeats 4000000 in
set_option maxRecDepth 100000 in
theorem mX10_sherd (l : Launch) (G : hy_G) (sz : Nat) (σ : hy_S) (x1 : Int32) (x2 : Int32) (o : hy_S × Int32) (hf : fX10_sherd σ x1 x2 = some o) : hy_M l yX10_sherd wsX10_sherd ({ frames := 2, cells := 0, slots := 0, locals := 42 }) mw G σ sz [.ref (G.2.2.2.2.1 0), .int x1, .int x2] o := by
  refine Met.ofW (cc := cX10_sherd) (maxL := 3) (ret := (some .int)) (by decide +kernel) rfl ?_
  intro p e s m args below meth c s₁ B hml hv
  obtain ⟨rfl, hsz, hP, hK, hD0, hN⟩ := hv
  have hx := B.exec
  have hb := B.bytes
  have hr := B.returns
  have hts := atoms_spec (ws := wsX10_sherd) B.pre
  have hown : s.vm.findClass RX10 = some m.cls := findClass_of_methodNamed B.named
  have hlocks := B.notSynchronized
  subst hsz
  have hD := hD0.self (sz := s.heap.size)
  have hA : ∀ q : Nat, s.heap.size ≤ q → va_A (mw G σ) s.heap.size q := fun q h => Or.inr h
  have hS : va_S (va_A (mw G σ) s.heap.size) s.heap s.heap [] := va_S.rf
  have hl := lv_entry ([.ref (G.2.2.2.2.1 0), .int x1, .int x2]) (n := 3) (Nat.le_of_ble_eq_true rfl)
  rw [lg_entry_eq]
  generalize (lg_sl ([.ref (G.2.2.2.2.1 0), .int x1, .int x2]) ++ List.replicate (3 - (lg_sl ([.ref (G.2.2.2.2.1 0), .int x1, .int x2])).length) Slot.unset).toArray = ls at hl ⊢
  have hl : lv_has ls 3 [(0, .ref (G.2.2.2.2.1 0)), (1, .int x1), (2, .int x2)] := hl
  refine bX10_sherd_0 (A := va_A (mw G σ) s.heap.size) hA ⟨⟨hx, hb, hml, hown, hts⟩, hK, hN⟩ ⟨Nat.le_of_ble_eq_true rfl, Nat.le_of_ble_eq_true rfl⟩ (o := o) (fun τ v pc H locs ls ho w d => ?_) σ x1 x2 _ _ _ hf ⟨hP, hD, hS⟩ hl
  exact W.iret hx hb hr (fun t ht hW => ⟨⟨v, τ, rfl, ⟨by rw [ho], by rw [ho]⟩, by have h9 := w.1; rw [← ht] at h9; exact h9⟩, w.2.2.F ht⟩) w.2.2.2.2 d
theorem in_X10_stampOf_X10 : ∀ w ∈ u_ws RX10 TX10 43, w ∈ wsX10_stampOf := fun _ h => xt1 (xr (h))
noncomputable def fX10_stampOf_38 (k4 : hy_S → Int32 → Int32 → Int32 → Option (hy_S × Int32)) (σ : hy_S) (x1 : Int32) (x2 : Int32) (x3 : Int32) : Option (hy_S × Int32) := k4 σ x1 x2 (x3 + 1)
noncomputable def fX10_stampOf_4 : Nat → hy_S → Int32 → Int32 → Int32 → Option (hy_S × Int32)
  | 0, _, _, _, _ => none
  | n + 1, σ, x1, x2, x3 => (if (σ.2 9) ≤ x3 then some (σ, x2) else hy_ga σ 22 60 x3 (fun v2 => (if v2 = x1 then hy_ga σ 21 60 x3 (fun v6 => (if v6 < 0 then fX10_stampOf_38 (fX10_stampOf_4 n) σ x1 x2 x3 else hy_ga σ 21 60 x3 (fun v10 => fX10_stampOf_38 (fX10_stampOf_4 n) σ x1 v10 x3))) else fX10_stampOf_38 (fX10_stampOf_4 n) σ x1 x2 x3)))
noncomputable def fX10_stampOf (σ : hy_S) (x1 : Int32) : Option (hy_S × Int32) := fX10_stampOf_4 hy_fu σ x1 (-1) 0
set_option maxHeartbeats 4000000 in
set_option maxRecDepth 100000 in
theorem bX10_stampOf_38 (hA : ∀ q : Nat, s.heap.size ≤ q → A q) (B : hy_B RX10 cX10_stampOf 4 wsX10_stampOf G A p s m args c) (hR : 0 ≤ R.frames ∧ 0 ≤ R.locals) {o : hy_S × Int32}  {k4 : hy_S → Int32 → Int32 → Int32 → Option (hy_S × Int32)} (hk4 : ∀ (σ : hy_S) (x1 : Int32) (x2 : Int32) (x3 : Int32) (H : Heap) (locs : List Loc) (ls : Array Slot), k4 σ x1 x2 x3 = some o → hy_w mw G A s σ H locs → lv_has ls 4 [(0, .ref (G.2.2.2.2.1 0)), (1, .int x1), (2, .int x2), (3, .int x3)] → W p l e R s m args below meth c H locs 0 0 Q (F0 m 4 ls [])) (hret : ∀ (σ : hy_S) (v : Int32) (pc : Nat) (H : Heap) (locs : List Loc) (ls : Array Slot), o = (σ, v) → hy_w mw G A s σ H locs → decode cX10_stampOf pc = .ok (.ireturn, 1) → W p l e R s m args below meth c H locs 0 0 Q (F0 m pc ls [.int v])) (σ : hy_S) (x1 : Int32) (x2 : Int32) (x3 : Int32) (H : Heap) (locs : List Loc) (ls : Array Slot) (hf : fX10_stampOf_38 k4 σ x1 x2 x3 = some o) (w : hy_w mw G A s σ H locs) (hl : lv_has ls 4 [(0, .ref (G.2.2.2.2.1 0)), (1, .int x1), (2, .int x2), (3, .int x3)]) : W p l e R s m args below meth c H locs 0 0 Q (F0 m 38 ls []) := by
  unfold fX10_stampOf_38 at hf
  refine lv_iinc (v := (x3 + 1)) (lv' := [(3, .int (x3 + 1)), (0, .ref (G.2.2.2.2.1 0)), (1, .int x1), (2, .int x2)]) B.1.1 B.1.2.1 dX10_stampOf_38 hl (k := 3) rfl rfl (by decide) rfl (fun ls hl => ?_)
  refine lv_goto (tgt := 4) B.1.1 B.1.2.1 dX10_stampOf_41 (by decide) ?_
  exact hk4 _ _ _ _ _ _ _ hf w (lv_sub hl [1, 2, 3, 0] rfl)
set_option maxHeartbeats 4000000 in
set_option maxRecDepth 100000 in
theorem bX10_stampOf_4 (hA : ∀ q : Nat, s.heap.size ≤ q → A q) (B : hy_B RX10 cX10_stampOf 4 wsX10_stampOf G A p s m args c) (hR : 0 ≤ R.frames ∧ 0 ≤ R.locals) {o : hy_S × Int32}  (hret : ∀ (σ : hy_S) (v : Int32) (pc : Nat) (H : Heap) (locs : List Loc) (ls : Array Slot), o = (σ, v) → hy_w mw G A s σ H locs → decode cX10_stampOf pc = .ok (.ireturn, 1) → W p l e R s m args below meth c H locs 0 0 Q (F0 m pc ls [.int v])) : ∀ (n : Nat) (σ : hy_S) (x1 : Int32) (x2 : Int32) (x3 : Int32) (H : Heap) (locs : List Loc) (ls : Array Slot), fX10_stampOf_4 n σ x1 x2 x3 = some o → hy_w mw G A s σ H locs → lv_has ls 4 [(0, .ref (G.2.2.2.2.1 0)), (1, .int x1), (2, .int x2), (3, .int x3)] → W p l e R s m args below meth c H locs 0 0 Q (F0 m 4 ls []) := by
  intro n
  induction n with
  | zero => intro σ x1 x2 x3 H locs ls hf; cases hf
  | succ n hk4 =>
    intro σ x1 x2 x3 H locs ls hf w hl
    unfold fX10_stampOf_4 at hf
    refine lv_iload_n B.1.1 B.1.2.1 dX10_stampOf_4 rfl (lv_at hl 3 rfl) ?_
    refine lv_aload_n B.1.1 B.1.2.1 dX10_stampOf_5 rfl (lv_at hl 0 rfl) ?_
    refine hy_get (k := 32) (v := .int (σ.2 9)) B w (mwq_0 G) rfl in_X10_stampOf_X10 (by decide) (by decide +kernel) rfl dX10_stampOf_6 ?_
    refine lv_icmp_ge (tgt := 44) B.1.1 B.1.2.1 dX10_stampOf_9 (by decide) (fun c1 => ?_) (fun c1 => ?_)
    · rw [if_pos c1] at hf
      refine lv_iload_n B.1.1 B.1.2.1 dX10_stampOf_44 rfl (lv_at hl 2 rfl) ?_
      exact hret _ _ _ _ _ _ (Option.some.inj hf).symm w dX10_stampOf_45
    · rw [if_neg c1] at hf
      refine lv_aload_n B.1.1 B.1.2.1 dX10_stampOf_12 rfl (lv_at hl 0 rfl) ?_
      refine hy_get (k := 31) (v := .ref (G.2.2.2.2.1 23)) B w (mwq_0 G) rfl in_X10_stampOf_X10 (by decide) (by decide +kernel) rfl dX10_stampOf_13 ?_
      refine lv_iload_n B.1.1 B.1.2.1 dX10_stampOf_16 rfl (lv_at hl 3 rfl) ?_
      obtain ⟨h4, v2, e3, hf⟩ := hy_ga_some hf
      refine hy_iald B w (mwq_23 G) h4 e3 dX10_stampOf_17 ?_
      refine lv_iload_n B.1.1 B.1.2.1 dX10_stampOf_18 rfl (lv_at hl 1 rfl) ?_
      refine lv_icmp_ne (tgt := 38) B.1.1 B.1.2.1 dX10_stampOf_19 (by decide) (fun c5 => ?_) (fun c5 => ?_)
      · rw [if_neg c5] at hf
        exact bX10_stampOf_38 hA B hR hk4 hret _ _ _ _ _ _ _ hf w (lv_sub hl [0, 1, 2, 3] rfl)
      · rw [if_pos c5] at hf
        refine lv_aload_n B.1.1 B.1.2.1 dX10_stampOf_22 rfl (lv_at hl 0 rfl) ?_
        refine hy_get (k := 30) (v := .ref (G.2.2.2.2.1 22)) B w (mwq_0 G) rfl in_X10_stampOf_X10 (by decide) (by decide +kernel) rfl dX10_stampOf_23 ?_
        refine lv_iload_n B.1.1 B.1.2.1 dX10_stampOf_26 rfl (lv_at hl 3 rfl) ?_
        obtain ⟨h8, v6, e7, hf⟩ := hy_ga_some hf
        refine hy_iald B w (mwq_22 G) h8 e7 dX10_stampOf_27 ?_
        refine lv_if_lt (tgt := 38) B.1.1 B.1.2.1 dX10_stampOf_28 (by decide) (fun c9 => ?_) (fun c9 => ?_)
        · rw [if_pos c9] at hf
          exact bX10_stampOf_38 hA B hR hk4 hret _ _ _ _ _ _ _ hf w (lv_sub hl [0, 1, 2, 3] rfl)
        · rw [if_neg c9] at hf
          refine lv_aload_n B.1.1 B.1.2.1 dX10_stampOf_31 rfl (lv_at hl 0 rfl) ?_
          refine hy_get (k := 30) (v := .ref (G.2.2.2.2.1 22)) B w (mwq_0 G) rfl in_X10_stampOf_X10 (by decide) (by decide +kernel) rfl dX10_stampOf_32 ?_
          refine lv_iload_n B.1.1 B.1.2.1 dX10_stampOf_35 rfl (lv_at hl 3 rfl) ?_
          obtain ⟨h12, v10, e11, hf⟩ := hy_ga_some hf
          refine hy_iald B w (mwq_22 G) h12 e11 dX10_stampOf_36 ?_
          refine lv_istore_n (lv' := [(2, .int v10), (0, .ref (G.2.2.2.2.1 0)), (1, .int x1), (3, .int x3)]) B.1.1 B.1.2.1 dX10_stampOf_37 rfl hl (by decide) rfl (fun ls hl => ?_)
          exact bX10_stampOf_38 hA B hR hk4 hret _ _ _ _ _ _ _ hf w (lv_sub hl [1, 2, 0, 3] rfl)
set_option maxHeartbeats 4000000 in
set_option maxRecDepth 100000 in
theorem bX10_stampOf_0 (hA : ∀ q : Nat, s.heap.size ≤ q → A q) (B : hy_B RX10 cX10_stampOf 4 wsX10_stampOf G A p s m args c) (hR : 0 ≤ R.frames ∧ 0 ≤ R.locals) {o : hy_S × Int32}  (hret : ∀ (σ : hy_S) (v : Int32) (pc : Nat) (H : Heap) (locs : List Loc) (ls : Array Slot), o = (σ, v) → hy_w mw G A s σ H locs → decode cX10_stampOf pc = .ok (.ireturn, 1) → W p l e R s m args below meth c H locs 0 0 Q (F0 m pc ls [.int v])) (σ : hy_S) (x1 : Int32) (H : Heap) (locs : List Loc) (ls : Array Slot) (hf : fX10_stampOf σ x1 = some o) (w : hy_w mw G A s σ H locs) (hl : lv_has ls 4 [(0, .ref (G.2.2.2.2.1 0)), (1, .int x1)]) : W p l e R s m args below meth c H locs 0 0 Q (F0 m 0 ls []) := by
  unfold fX10_stampOf at hf
  refine lv_iconst (v := (-1)) B.1.1 B.1.2.1 dX10_stampOf_0 (by decide) ?_
  refine lv_istore_n (lv' := [(2, .int (-1)), (0, .ref (G.2.2.2.2.1 0)), (1, .int x1)]) B.1.1 B.1.2.1 dX10_stampOf_1 rfl hl (by decide) rfl (fun ls hl => ?_)
  refine lv_iconst (v := 0) B.1.1 B.1.2.1 dX10_stampOf_2 (by decide) ?_
  refine lv_istore_n (lv' := [(3, .int 0), (2, .int (-1)), (0, .ref (G.2.2.2.2.1 0)), (1, .int x1)]) B.1.1 B.1.2.1 dX10_stampOf_3 rfl hl (by decide) rfl (fun ls hl => ?_)
  exact bX10_stampOf_4 hA B hR  hret _ _ _ _ _ _ _ _ hf w (lv_sub hl [2, 3, 1, 0] rfl)
set_option maxHeartbeats 4000000 in
set_option maxRecDepth 100000 in
theorem mX10_stampOf (l : Launch) (G : hy_G) (sz : Nat) (σ : hy_S) (x1 : Int32) (o : hy_S × Int32) (hf : fX10_stampOf σ x1 = some o) : hy_M l yX10_stampOf wsX10_stampOf ({ frames := 0, cells := 0, slots := 0, locals := 0 }) mw G σ sz [.ref (G.2.2.2.2.1 0), .int x1] o := by
  refine Met.ofW (cc := cX10_stampOf) (maxL := 4) (ret := (some .int)) (by decide +kernel) rfl ?_
  intro p e s m args below meth c s₁ B hml hv
  obtain ⟨rfl, hsz, hP, hK, hD0, hN⟩ := hv
  have hx := B.exec
  have hb := B.bytes
  have hr := B.returns
  have hts := atoms_spec (ws := wsX10_stampOf) B.pre
  have hown : s.vm.findClass RX10 = some m.cls := findClass_of_methodNamed B.named
  have hlocks := B.notSynchronized
  subst hsz
  have hD := hD0.self (sz := s.heap.size)
  have hA : ∀ q : Nat, s.heap.size ≤ q → va_A (mw G σ) s.heap.size q := fun q h => Or.inr h
  have hS : va_S (va_A (mw G σ) s.heap.size) s.heap s.heap [] := va_S.rf
  have hl := lv_entry ([.ref (G.2.2.2.2.1 0), .int x1]) (n := 4) (Nat.le_of_ble_eq_true rfl)
  rw [lg_entry_eq]
  generalize (lg_sl ([.ref (G.2.2.2.2.1 0), .int x1]) ++ List.replicate (4 - (lg_sl ([.ref (G.2.2.2.2.1 0), .int x1])).length) Slot.unset).toArray = ls at hl ⊢
  have hl : lv_has ls 4 [(0, .ref (G.2.2.2.2.1 0)), (1, .int x1)] := hl
  refine bX10_stampOf_0 (A := va_A (mw G σ) s.heap.size) hA ⟨⟨hx, hb, hml, hown, hts⟩, hK, hN⟩ ⟨Nat.le_of_ble_eq_true rfl, Nat.le_of_ble_eq_true rfl⟩ (o := o) (fun τ v pc H locs ls ho w d => ?_) σ x1 _ _ _ hf ⟨hP, hD, hS⟩ hl
  exact W.iret hx hb hr (fun t ht hW => ⟨⟨v, τ, rfl, ⟨by rw [ho], by rw [ho]⟩, by have h9 := w.1; rw [← ht] at h9; exact h9⟩, w.2.2.F ht⟩) w.2.2.2.2 d
theorem in_X10_join_X10 : ∀ w ∈ u_ws RX10 TX10 43, w ∈ wsX10_join := fun _ h => xt1 (xr (h))
noncomputable def fX10_join_156 (k127 : hy_S → Int32 → Int32 → Int32 → Option (hy_S × Int32)) (σ : hy_S) (x3 : Int32) (x4 : Int32) (x7 : Int32) : Option (hy_S × Int32) := k127 σ x3 x4 (x7 + 1)
noncomputable def fX10_join_127 : Nat → hy_S → Int32 → Int32 → Int32 → Option (hy_S × Int32)
  | 0, _, _, _, _ => none
  | n + 1, σ, x3, x4, x7 => (if (σ.2 9) ≤ x7 then some (σ, 1) else hy_ga σ 22 60 x7 (fun v2 => (if v2 = x4 then hy_pa σ 22 60 x7 x3 (fun σ6 => fX10_join_156 (fX10_join_127 n) σ6 x3 x4 x7) else fX10_join_156 (fX10_join_127 n) σ x3 x4 x7)))
noncomputable def fX10_join_124 (σ : hy_S) (x3 : Int32) (x4 : Int32) : Option (hy_S × Int32) := fX10_join_127 hy_fu σ x3 x4 0
noncomputable def fX10_join_27 (σ : hy_S) (s0 : Int32) (x1 : Int32) (x2 : Int32) : Option (hy_S × Int32) := hy_bd (fX10_throwsIf σ s0 1) (fun σ1 v2 => (if v2 = 0 then hy_ga σ1 22 60 x1 (fun v5 => hy_ga σ1 22 60 x2 (fun v8 => hy_ga σ1 22 60 x1 (fun v13 => hy_ga σ1 22 60 x2 (fun v16 => hy_bd (fX10_stampOf σ1 (if v8 < v5 then v8 else v5)) (fun σ21 v22 => hy_bd (fX10_stampOf σ21 (if v13 < v16 then v16 else v13)) (fun σ24 v25 => (if (if v8 < v5 then v8 else v5) = (if v13 < v16 then v16 else v13) then some (σ24, 0) else hy_ga σ24 20 60 x1 (fun v28 => hy_ga σ24 20 60 x2 (fun v31 => (if v28 = v31 then (if v22 < 0 then fX10_join_124 σ24 (if v8 < v5 then v8 else v5) (if v13 < v16 then v16 else v13) else (if v25 < 0 then fX10_join_124 σ24 (if v8 < v5 then v8 else v5) (if v13 < v16 then v16 else v13) else (if v22 = v25 then fX10_join_124 σ24 (if v8 < v5 then v8 else v5) (if v13 < v16 then v16 else v13) else some (σ24, 0)))) else some (σ24, 0))))))))))) else some (σ1, 0)))
noncomputable def fX10_join_22 (σ : hy_S) (x1 : Int32) (x2 : Int32) : Option (hy_S × Int32) := fX10_join_27 σ 1 x1 x2
noncomputable def fX10_join (σ : hy_S) (x1 : Int32) (x2 : Int32) : Option (hy_S × Int32) := hy_pf σ 0 0 (fun σ1 => hy_bd (fX10_noSherd σ1 x1) (fun σ3 v4 => (if v4 = 0 then hy_bd (fX10_noSherd σ3 x2) (fun σ7 v8 => (if v8 = 0 then fX10_join_27 σ7 0 x1 x2 else fX10_join_22 σ7 x1 x2)) else fX10_join_22 σ3 x1 x2)))
set_option maxHeartbeats 4000000 in
set_option maxRecDepth 100000 in
theorem bX10_join_156 (hA : ∀ q : Nat, s.heap.size ≤ q → A q) (B : hy_B RX10 cX10_join 8 wsX10_join G A p s m args c) (hR : 2 ≤ R.frames ∧ 43 ≤ R.locals) {o : hy_S × Int32}  {k127 : hy_S → Int32 → Int32 → Int32 → Option (hy_S × Int32)} (hk127 : ∀ (σ : hy_S) (x3 : Int32) (x4 : Int32) (x7 : Int32) (H : Heap) (locs : List Loc) (ls : Array Slot), k127 σ x3 x4 x7 = some o → hy_w mw G A s σ H locs → lv_has ls 8 [(0, .ref (G.2.2.2.2.1 0)), (3, .int x3), (4, .int x4), (7, .int x7)] → W p l e R s m args below meth c H locs 0 0 Q (F0 m 127 ls [])) (hret : ∀ (σ : hy_S) (v : Int32) (pc : Nat) (H : Heap) (locs : List Loc) (ls : Array Slot), o = (σ, v) → (v = 0 ∨ v = 1) → hy_w mw G A s σ H locs → decode cX10_join pc = .ok (.ireturn, 1) → W p l e R s m args below meth c H locs 0 0 Q (F0 m pc ls [.int v])) (σ : hy_S) (x3 : Int32) (x4 : Int32) (x7 : Int32) (H : Heap) (locs : List Loc) (ls : Array Slot) (hf : fX10_join_156 k127 σ x3 x4 x7 = some o) (w : hy_w mw G A s σ H locs) (hl : lv_has ls 8 [(0, .ref (G.2.2.2.2.1 0)), (3, .int x3), (4, .int x4), (7, .int x7)]) : W p l e R s m args below meth c H locs 0 0 Q (F0 m 156 ls []) := by
  unfold fX10_join_156 at hf
  refine lv_iinc (v := (x7 + 1)) (lv' := [(7, .int (x7 + 1)), (0, .ref (G.2.2.2.2.1 0)), (3, .int x3), (4, .int x4)]) B.1.1 B.1.2.1 dX10_join_156 hl (k := 3) rfl rfl (by decide) rfl (fun ls hl => ?_)
  refine lv_goto (tgt := 127) B.1.1 B.1.2.1 dX10_join_159 (by decide) ?_
  exact hk127 _ _ _ _ _ _ _ hf w (lv_sub hl [1, 2, 3, 0] rfl)
set_option maxHeartbeats 4000000 in
set_option maxRecDepth 100000 in
theorem bX10_join_127 (hA : ∀ q : Nat, s.heap.size ≤ q → A q) (B : hy_B RX10 cX10_join 8 wsX10_join G A p s m args c) (hR : 2 ≤ R.frames ∧ 43 ≤ R.locals) {o : hy_S × Int32}  (hret : ∀ (σ : hy_S) (v : Int32) (pc : Nat) (H : Heap) (locs : List Loc) (ls : Array Slot), o = (σ, v) → (v = 0 ∨ v = 1) → hy_w mw G A s σ H locs → decode cX10_join pc = .ok (.ireturn, 1) → W p l e R s m args below meth c H locs 0 0 Q (F0 m pc ls [.int v])) : ∀ (n : Nat) (σ : hy_S) (x3 : Int32) (x4 : Int32) (x7 : Int32) (H : Heap) (locs : List Loc) (ls : Array Slot), fX10_join_127 n σ x3 x4 x7 = some o → hy_w mw G A s σ H locs → lv_has ls 8 [(0, .ref (G.2.2.2.2.1 0)), (3, .int x3), (4, .int x4), (7, .int x7)] → W p l e R s m args below meth c H locs 0 0 Q (F0 m 127 ls []) := by
  intro n
  induction n with
  | zero => intro σ x3 x4 x7 H locs ls hf; cases hf
  | succ n hk127 =>
    intro σ x3 x4 x7 H locs ls hf w hl
    unfold fX10_join_127 at hf
    refine lv_iload B.1.1 B.1.2.1 dX10_join_127 (lv_at hl 3 rfl) ?_
    refine lv_aload_n B.1.1 B.1.2.1 dX10_join_129 rfl (lv_at hl 0 rfl) ?_
    refine hy_get (k := 32) (v := .int (σ.2 9)) B w (mwq_0 G) rfl in_X10_join_X10 (by decide) (by decide +kernel) rfl dX10_join_130 ?_
    refine lv_icmp_ge (tgt := 162) B.1.1 B.1.2.1 dX10_join_133 (by decide) (fun c1 => ?_) (fun c1 => ?_)
    · rw [if_pos c1] at hf
      refine lv_iconst (v := 1) B.1.1 B.1.2.1 dX10_join_162 (by decide) ?_
      exact hret _ _ _ _ _ _ (Option.some.inj hf).symm (Or.inr rfl) w dX10_join_163
    · rw [if_neg c1] at hf
      refine lv_aload_n B.1.1 B.1.2.1 dX10_join_136 rfl (lv_at hl 0 rfl) ?_
      refine hy_get (k := 31) (v := .ref (G.2.2.2.2.1 23)) B w (mwq_0 G) rfl in_X10_join_X10 (by decide) (by decide +kernel) rfl dX10_join_137 ?_
      refine lv_iload B.1.1 B.1.2.1 dX10_join_140 (lv_at hl 3 rfl) ?_
      obtain ⟨h4, v2, e3, hf⟩ := hy_ga_some hf
      refine hy_iald B w (mwq_23 G) h4 e3 dX10_join_142 ?_
      refine lv_iload B.1.1 B.1.2.1 dX10_join_143 (lv_at hl 2 rfl) ?_
      refine lv_icmp_ne (tgt := 156) B.1.1 B.1.2.1 dX10_join_145 (by decide) (fun c5 => ?_) (fun c5 => ?_)
      · rw [if_neg c5] at hf
        exact bX10_join_156 hA B hR hk127 hret _ _ _ _ _ _ _ hf w (lv_sub hl [0, 1, 2, 3] rfl)
      · rw [if_pos c5] at hf
        refine lv_aload_n B.1.1 B.1.2.1 dX10_join_148 rfl (lv_at hl 0 rfl) ?_
        refine hy_get (k := 31) (v := .ref (G.2.2.2.2.1 23)) B w (mwq_0 G) rfl in_X10_join_X10 (by decide) (by decide +kernel) rfl dX10_join_149 ?_
        refine lv_iload B.1.1 B.1.2.1 dX10_join_152 (lv_at hl 3 rfl) ?_
        refine lv_iload_n B.1.1 B.1.2.1 dX10_join_154 rfl (lv_at hl 1 rfl) ?_
        obtain ⟨h8, σ6, e7, hf⟩ := hy_pa_some hf
        refine hy_iast B w (mwq_23 G) (mws_23 G) h8 e7 dX10_join_155 (fun H locs w => ?_)
        exact bX10_join_156 hA B hR hk127 hret _ _ _ _ _ _ _ hf w (lv_sub hl [0, 1, 2, 3] rfl)
set_option maxHeartbeats 4000000 in
set_option maxRecDepth 100000 in
theorem bX10_join_124 (hA : ∀ q : Nat, s.heap.size ≤ q → A q) (B : hy_B RX10 cX10_join 8 wsX10_join G A p s m args c) (hR : 2 ≤ R.frames ∧ 43 ≤ R.locals) {o : hy_S × Int32}  (hret : ∀ (σ : hy_S) (v : Int32) (pc : Nat) (H : Heap) (locs : List Loc) (ls : Array Slot), o = (σ, v) → (v = 0 ∨ v = 1) → hy_w mw G A s σ H locs → decode cX10_join pc = .ok (.ireturn, 1) → W p l e R s m args below meth c H locs 0 0 Q (F0 m pc ls [.int v])) (σ : hy_S) (x3 : Int32) (x4 : Int32) (H : Heap) (locs : List Loc) (ls : Array Slot) (hf : fX10_join_124 σ x3 x4 = some o) (w : hy_w mw G A s σ H locs) (hl : lv_has ls 8 [(0, .ref (G.2.2.2.2.1 0)), (3, .int x3), (4, .int x4)]) : W p l e R s m args below meth c H locs 0 0 Q (F0 m 124 ls []) := by
  unfold fX10_join_124 at hf
  refine lv_iconst (v := 0) B.1.1 B.1.2.1 dX10_join_124 (by decide) ?_
  refine lv_istore (lv' := [(7, .int 0), (0, .ref (G.2.2.2.2.1 0)), (3, .int x3), (4, .int x4)]) B.1.1 B.1.2.1 dX10_join_125 hl (by decide) rfl (fun ls hl => ?_)
  exact bX10_join_127 hA B hR  hret _ _ _ _ _ _ _ _ hf w (lv_sub hl [1, 2, 3, 0] rfl)
set_option maxHeartbeats 4000000 in
set_option maxRecDepth 100000 in
theorem bX10_join_27 (hA : ∀ q : Nat, s.heap.size ≤ q → A q) (B : hy_B RX10 cX10_join 8 wsX10_join G A p s m args c) (hR : 2 ≤ R.frames ∧ 43 ≤ R.locals) {o : hy_S × Int32}  (hret : ∀ (σ : hy_S) (v : Int32) (pc : Nat) (H : Heap) (locs : List Loc) (ls : Array Slot), o = (σ, v) → (v = 0 ∨ v = 1) → hy_w mw G A s σ H locs → decode cX10_join pc = .ok (.ireturn, 1) → W p l e R s m args below meth c H locs 0 0 Q (F0 m pc ls [.int v])) (σ : hy_S) (s0 : Int32) (x1 : Int32) (x2 : Int32) (H : Heap) (locs : List Loc) (ls : Array Slot) (hf : fX10_join_27 σ s0 x1 x2 = some o) (w : hy_w mw G A s σ H locs) (hl : lv_has ls 8 [(0, .ref (G.2.2.2.2.1 0)), (1, .int x1), (2, .int x2)]) : W p l e R s m args below meth c H locs 0 0 Q (F0 m 27 ls [.int s0, .ref (G.2.2.2.2.1 0)]) := by
  unfold fX10_join_27 at hf
  refine lv_iconst (v := 1) B.1.1 B.1.2.1 dX10_join_27 (by decide) ?_
  obtain ⟨σ1, v2, h3, hf⟩ := hy_bd_some hf
  refine hy_cv (As := [.int s0, .int 1]) (rest := []) (o := (σ1, v2)) mw_fix hA B w (fun sz => mX10_throwsIf l G sz σ s0 1 _ h3) (cwV 2 B.1.2.2.2.2 gX10_join_X10_throwsIf rfl rfl rfl (by decide +kernel) ⟨by have := hR.1; show 0 + 1 ≤ _; omega, by have := hR.2; show 8 + (3 + 11) + 0 ≤ _; omega⟩) rfl (mwq_0 G σ) rfl hl.1 rfl (Nat.le_of_ble_eq_true rfl) dX10_join_28 ⟨Nat.zero_le _, Nat.zero_le _⟩ (fun H locs w => ?_)
  refine lv_if_eq (tgt := 36) B.1.1 B.1.2.1 dX10_join_31 (by decide) (fun c4 => ?_) (fun c4 => ?_)
  · rw [if_pos c4] at hf
    refine lv_aload_n B.1.1 B.1.2.1 dX10_join_36 rfl (lv_at hl 0 rfl) ?_
    refine hy_get (k := 31) (v := .ref (G.2.2.2.2.1 23)) B w (mwq_0 G) rfl in_X10_join_X10 (by decide) (by decide +kernel) rfl dX10_join_37 ?_
    refine lv_iload_n B.1.1 B.1.2.1 dX10_join_40 rfl (lv_at hl 1 rfl) ?_
    obtain ⟨h7, v5, e6, hf⟩ := hy_ga_some hf
    refine hy_iald B w (mwq_23 G) h7 e6 dX10_join_41 ?_
    refine lv_aload_n B.1.1 B.1.2.1 dX10_join_42 rfl (lv_at hl 0 rfl) ?_
    refine hy_get (k := 31) (v := .ref (G.2.2.2.2.1 23)) B w (mwq_0 G) rfl in_X10_join_X10 (by decide) (by decide +kernel) rfl dX10_join_43 ?_
    refine lv_iload_n B.1.1 B.1.2.1 dX10_join_46 rfl (lv_at hl 2 rfl) ?_
    obtain ⟨h10, v8, e9, hf⟩ := hy_ga_some hf
    refine hy_iald B w (mwq_23 G) h10 e9 dX10_join_47 ?_
    refine va_mmin B.1.1 B.1.2.1 (B.1.2.2.1.trans hl.1.symm) B.1.2.2.2.1 (B.1.2.2.2.2 (.methodLink RX10 217 Lib.Math.min.name) (by decide +kernel)) (B.1.2.2.2.2 (.static Lib.Math.min.name) (by decide +kernel)) (B.1.2.2.2.2 (.initialized "java/lang/Math") (by decide +kernel)) (B.1.2.2.2.2 (.code Lib.Math.min.name Lib.Math.min.code 2 (some .int)) (by decide +kernel)) (by have := hR; omega) (by have := hR; show _ ≤ _; simp [Value.category]; omega) (Nat.zero_le _) (Nat.zero_le _) dX10_join_48 ?_
    refine lv_istore_n (lv' := [(3, .int (if v8 < v5 then v8 else v5)), (0, .ref (G.2.2.2.2.1 0)), (1, .int x1), (2, .int x2)]) B.1.1 B.1.2.1 dX10_join_51 rfl hl (by decide) rfl (fun ls hl => ?_)
    refine lv_aload_n B.1.1 B.1.2.1 dX10_join_52 rfl (lv_at hl 1 rfl) ?_
    refine hy_get (k := 31) (v := .ref (G.2.2.2.2.1 23)) B w (mwq_0 G) rfl in_X10_join_X10 (by decide) (by decide +kernel) rfl dX10_join_53 ?_
    refine lv_iload_n B.1.1 B.1.2.1 dX10_join_56 rfl (lv_at hl 2 rfl) ?_
    obtain ⟨h15, v13, e14, hf⟩ := hy_ga_some hf
    refine hy_iald B w (mwq_23 G) h15 e14 dX10_join_57 ?_
    refine lv_aload_n B.1.1 B.1.2.1 dX10_join_58 rfl (lv_at hl 1 rfl) ?_
    refine hy_get (k := 31) (v := .ref (G.2.2.2.2.1 23)) B w (mwq_0 G) rfl in_X10_join_X10 (by decide) (by decide +kernel) rfl dX10_join_59 ?_
    refine lv_iload_n B.1.1 B.1.2.1 dX10_join_62 rfl (lv_at hl 3 rfl) ?_
    obtain ⟨h18, v16, e17, hf⟩ := hy_ga_some hf
    refine hy_iald B w (mwq_23 G) h18 e17 dX10_join_63 ?_
    refine va_mmax B.1.1 B.1.2.1 (B.1.2.2.1.trans hl.1.symm) B.1.2.2.2.1 (B.1.2.2.2.2 (.methodLink RX10 153 Lib.Math.max.name) (by decide +kernel)) (B.1.2.2.2.2 (.static Lib.Math.max.name) (by decide +kernel)) (B.1.2.2.2.2 (.initialized "java/lang/Math") (by decide +kernel)) (B.1.2.2.2.2 (.code Lib.Math.max.name Lib.Math.max.code 2 (some .int)) (by decide +kernel)) (by have := hR; omega) (by have := hR; show _ ≤ _; simp [Value.category]; omega) (Nat.zero_le _) (Nat.zero_le _) dX10_join_64 ?_
    refine lv_istore (lv' := [(4, .int (if v13 < v16 then v16 else v13)), (3, .int (if v8 < v5 then v8 else v5)), (0, .ref (G.2.2.2.2.1 0)), (1, .int x1), (2, .int x2)]) B.1.1 B.1.2.1 dX10_join_67 hl (by decide) rfl (fun ls hl => ?_)
    refine lv_aload_n B.1.1 B.1.2.1 dX10_join_69 rfl (lv_at hl 2 rfl) ?_
    refine lv_iload_n B.1.1 B.1.2.1 dX10_join_70 rfl (lv_at hl 1 rfl) ?_
    obtain ⟨σ21, v22, h23, hf⟩ := hy_bd_some hf
    refine hy_cv (As := [.int (if v8 < v5 then v8 else v5)]) (rest := []) (o := (σ21, v22)) mw_fix hA B w (fun sz => mX10_stampOf l G sz σ1 (if v8 < v5 then v8 else v5) _ h23) (cwV 1 B.1.2.2.2.2 gX10_join_X10_stampOf rfl rfl rfl (by decide +kernel) ⟨by have := hR.1; show 0 + 1 ≤ _; omega, by have := hR.2; show 8 + (4 + 11) + 0 ≤ _; omega⟩) rfl (mwq_0 G σ1) rfl hl.1 rfl (Nat.le_of_ble_eq_true rfl) dX10_join_71 ⟨Nat.zero_le _, Nat.zero_le _⟩ (fun H locs w => ?_)
    refine lv_istore (lv' := [(5, .int v22), (4, .int (if v13 < v16 then v16 else v13)), (3, .int (if v8 < v5 then v8 else v5)), (0, .ref (G.2.2.2.2.1 0)), (1, .int x1), (2, .int x2)]) B.1.1 B.1.2.1 dX10_join_74 hl (by decide) rfl (fun ls hl => ?_)
    refine lv_aload_n B.1.1 B.1.2.1 dX10_join_76 rfl (lv_at hl 3 rfl) ?_
    refine lv_iload B.1.1 B.1.2.1 dX10_join_77 (lv_at hl 1 rfl) ?_
    obtain ⟨σ24, v25, h26, hf⟩ := hy_bd_some hf
    refine hy_cv (As := [.int (if v13 < v16 then v16 else v13)]) (rest := []) (o := (σ24, v25)) mw_fix hA B w (fun sz => mX10_stampOf l G sz σ21 (if v13 < v16 then v16 else v13) _ h26) (cwV 1 B.1.2.2.2.2 gX10_join_X10_stampOf rfl rfl rfl (by decide +kernel) ⟨by have := hR.1; show 0 + 1 ≤ _; omega, by have := hR.2; show 8 + (4 + 11) + 0 ≤ _; omega⟩) rfl (mwq_0 G σ21) rfl hl.1 rfl (Nat.le_of_ble_eq_true rfl) dX10_join_79 ⟨Nat.zero_le _, Nat.zero_le _⟩ (fun H locs w => ?_)
    refine lv_istore (lv' := [(6, .int v25), (5, .int v22), (4, .int (if v13 < v16 then v16 else v13)), (3, .int (if v8 < v5 then v8 else v5)), (0, .ref (G.2.2.2.2.1 0)), (1, .int x1), (2, .int x2)]) B.1.1 B.1.2.1 dX10_join_82 hl (by decide) rfl (fun ls hl => ?_)
    refine lv_iload_n B.1.1 B.1.2.1 dX10_join_84 rfl (lv_at hl 3 rfl) ?_
    refine lv_iload B.1.1 B.1.2.1 dX10_join_85 (lv_at hl 2 rfl) ?_
    refine lv_icmp_eq (tgt := 122) B.1.1 B.1.2.1 dX10_join_87 (by decide) (fun c27 => ?_) (fun c27 => ?_)
    · rw [if_pos c27] at hf
      refine lv_iconst (v := 0) B.1.1 B.1.2.1 dX10_join_122 (by decide) ?_
      exact hret _ _ _ _ _ _ (Option.some.inj hf).symm (Or.inl rfl) w dX10_join_123
    · rw [if_neg c27] at hf
      refine lv_aload_n B.1.1 B.1.2.1 dX10_join_90 rfl (lv_at hl 4 rfl) ?_
      refine hy_get (k := 29) (v := .ref (G.2.2.2.2.1 21)) B w (mwq_0 G) rfl in_X10_join_X10 (by decide) (by decide +kernel) rfl dX10_join_91 ?_
      refine lv_iload_n B.1.1 B.1.2.1 dX10_join_94 rfl (lv_at hl 5 rfl) ?_
      obtain ⟨h30, v28, e29, hf⟩ := hy_ga_some hf
      refine hy_iald B w (mwq_21 G) h30 e29 dX10_join_95 ?_
      refine lv_aload_n B.1.1 B.1.2.1 dX10_join_96 rfl (lv_at hl 4 rfl) ?_
      refine hy_get (k := 29) (v := .ref (G.2.2.2.2.1 21)) B w (mwq_0 G) rfl in_X10_join_X10 (by decide) (by decide +kernel) rfl dX10_join_97 ?_
      refine lv_iload_n B.1.1 B.1.2.1 dX10_join_100 rfl (lv_at hl 6 rfl) ?_
      obtain ⟨h33, v31, e32, hf⟩ := hy_ga_some hf
      refine hy_iald B w (mwq_21 G) h33 e32 dX10_join_101 ?_
      refine lv_icmp_ne (tgt := 122) B.1.1 B.1.2.1 dX10_join_102 (by decide) (fun c34 => ?_) (fun c34 => ?_)
      · rw [if_neg c34] at hf
        refine lv_iconst (v := 0) B.1.1 B.1.2.1 dX10_join_122 (by decide) ?_
        exact hret _ _ _ _ _ _ (Option.some.inj hf).symm (Or.inl rfl) w dX10_join_123
      · rw [if_pos c34] at hf
        refine lv_iload B.1.1 B.1.2.1 dX10_join_105 (lv_at hl 1 rfl) ?_
        refine lv_if_lt (tgt := 124) B.1.1 B.1.2.1 dX10_join_107 (by decide) (fun c35 => ?_) (fun c35 => ?_)
        · rw [if_pos c35] at hf
          exact bX10_join_124 hA B hR  hret _ _ _ _ _ _ hf w (lv_sub hl [4, 3, 2] rfl)
        · rw [if_neg c35] at hf
          refine lv_iload B.1.1 B.1.2.1 dX10_join_110 (lv_at hl 0 rfl) ?_
          refine lv_if_lt (tgt := 124) B.1.1 B.1.2.1 dX10_join_112 (by decide) (fun c36 => ?_) (fun c36 => ?_)
          · rw [if_pos c36] at hf
            exact bX10_join_124 hA B hR  hret _ _ _ _ _ _ hf w (lv_sub hl [4, 3, 2] rfl)
          · rw [if_neg c36] at hf
            refine lv_iload B.1.1 B.1.2.1 dX10_join_115 (lv_at hl 1 rfl) ?_
            refine lv_iload B.1.1 B.1.2.1 dX10_join_117 (lv_at hl 0 rfl) ?_
            refine lv_icmp_eq (tgt := 124) B.1.1 B.1.2.1 dX10_join_119 (by decide) (fun c37 => ?_) (fun c37 => ?_)
            · rw [if_pos c37] at hf
              exact bX10_join_124 hA B hR  hret _ _ _ _ _ _ hf w (lv_sub hl [4, 3, 2] rfl)
            · rw [if_neg c37] at hf
              refine lv_iconst (v := 0) B.1.1 B.1.2.1 dX10_join_122 (by decide) ?_
              exact hret _ _ _ _ _ _ (Option.some.inj hf).symm (Or.inl rfl) w dX10_join_123
  · rw [if_neg c4] at hf
    refine lv_iconst (v := 0) B.1.1 B.1.2.1 dX10_join_34 (by decide) ?_
    exact hret _ _ _ _ _ _ (Option.some.inj hf).symm (Or.inl rfl) w dX10_join_35
set_option maxHeartbeats 4000000 in
set_option maxRecDepth 100000 in
theorem bX10_join_22 (hA : ∀ q : Nat, s.heap.size ≤ q → A q) (B : hy_B RX10 cX10_join 8 wsX10_join G A p s m args c) (hR : 2 ≤ R.frames ∧ 43 ≤ R.locals) {o : hy_S × Int32}  (hret : ∀ (σ : hy_S) (v : Int32) (pc : Nat) (H : Heap) (locs : List Loc) (ls : Array Slot), o = (σ, v) → (v = 0 ∨ v = 1) → hy_w mw G A s σ H locs → decode cX10_join pc = .ok (.ireturn, 1) → W p l e R s m args below meth c H locs 0 0 Q (F0 m pc ls [.int v])) (σ : hy_S) (x1 : Int32) (x2 : Int32) (H : Heap) (locs : List Loc) (ls : Array Slot) (hf : fX10_join_22 σ x1 x2 = some o) (w : hy_w mw G A s σ H locs) (hl : lv_has ls 8 [(0, .ref (G.2.2.2.2.1 0)), (1, .int x1), (2, .int x2)]) : W p l e R s m args below meth c H locs 0 0 Q (F0 m 22 ls [.ref (G.2.2.2.2.1 0)]) := by
  unfold fX10_join_22 at hf
  refine lv_iconst (v := 1) B.1.1 B.1.2.1 dX10_join_22 (by decide) ?_
  refine lv_goto (tgt := 27) B.1.1 B.1.2.1 dX10_join_23 (by decide) ?_
  exact bX10_join_27 hA B hR  hret _ _ _ _ _ _ _ hf w (lv_sub hl [0, 1, 2] rfl)
set_option maxHeartbeats 4000000 in
set_option maxRecDepth 100000 in
theorem bX10_join_0 (hA : ∀ q : Nat, s.heap.size ≤ q → A q) (B : hy_B RX10 cX10_join 8 wsX10_join G A p s m args c) (hR : 2 ≤ R.frames ∧ 43 ≤ R.locals) {o : hy_S × Int32}  (hret : ∀ (σ : hy_S) (v : Int32) (pc : Nat) (H : Heap) (locs : List Loc) (ls : Array Slot), o = (σ, v) → (v = 0 ∨ v = 1) → hy_w mw G A s σ H locs → decode cX10_join pc = .ok (.ireturn, 1) → W p l e R s m args below meth c H locs 0 0 Q (F0 m pc ls [.int v])) (σ : hy_S) (x1 : Int32) (x2 : Int32) (H : Heap) (locs : List Loc) (ls : Array Slot) (hf : fX10_join σ x1 x2 = some o) (w : hy_w mw G A s σ H locs) (hl : lv_has ls 8 [(0, .ref (G.2.2.2.2.1 0)), (1, .int x1), (2, .int x2)]) : W p l e R s m args below meth c H locs 0 0 Q (F0 m 0 ls []) := by
  unfold fX10_join at hf
  refine lv_aload_n B.1.1 B.1.2.1 dX10_join_0 rfl (lv_at hl 0 rfl) ?_
  refine lv_iconst (v := 0) B.1.1 B.1.2.1 dX10_join_1 (by decide) ?_
  obtain ⟨σ1, e2, hf⟩ := hy_pf_some hf
  refine hy_put (k := 0) B w (mwq_0 G) rfl in_X10_join_X10 tyX10 tyX10_ok nmX10 (by decide) (by decide +kernel) rfl rfl (by show 0 < 43; decide) (mwp_0 G) e2 dX10_join_2 (fun H locs w => ?_)
  refine lv_aload_n B.1.1 B.1.2.1 dX10_join_5 rfl (lv_at hl 0 rfl) ?_
  refine lv_aload_n B.1.1 B.1.2.1 dX10_join_6 rfl (lv_at hl 0 rfl) ?_
  refine lv_iload_n B.1.1 B.1.2.1 dX10_join_7 rfl (lv_at hl 1 rfl) ?_
  obtain ⟨σ3, v4, h5, hf⟩ := hy_bd_some hf
  refine hy_cv (As := [.int x1]) (rest := [.ref (G.2.2.2.2.1 0)]) (o := (σ3, v4)) mw_fix hA B w (fun sz => mX10_noSherd l G sz σ1 x1 _ h5) (cwV 1 B.1.2.2.2.2 gX10_join_X10_noSherd rfl rfl rfl (by decide +kernel) ⟨by have := hR.1; show 1 + 1 ≤ _; omega, by have := hR.2; show 8 + (2 + 11) + 22 ≤ _; omega⟩) rfl (mwq_0 G σ1) rfl hl.1 rfl (Nat.le_of_ble_eq_true rfl) dX10_join_8 ⟨Nat.zero_le _, Nat.zero_le _⟩ (fun H locs w => ?_)
  refine lv_if_ne (tgt := 22) B.1.1 B.1.2.1 dX10_join_11 (by decide) (fun c6 => ?_) (fun c6 => ?_)
  · rw [if_neg c6] at hf
    exact bX10_join_22 hA B hR  hret _ _ _ _ _ _ hf w (lv_sub hl [0, 1, 2] rfl)
  · rw [if_pos c6] at hf
    refine lv_aload_n B.1.1 B.1.2.1 dX10_join_14 rfl (lv_at hl 0 rfl) ?_
    refine lv_iload_n B.1.1 B.1.2.1 dX10_join_15 rfl (lv_at hl 2 rfl) ?_
    obtain ⟨σ7, v8, h9, hf⟩ := hy_bd_some hf
    refine hy_cv (As := [.int x2]) (rest := [.ref (G.2.2.2.2.1 0)]) (o := (σ7, v8)) mw_fix hA B w (fun sz => mX10_noSherd l G sz σ3 x2 _ h9) (cwV 1 B.1.2.2.2.2 gX10_join_X10_noSherd rfl rfl rfl (by decide +kernel) ⟨by have := hR.1; show 1 + 1 ≤ _; omega, by have := hR.2; show 8 + (2 + 11) + 22 ≤ _; omega⟩) rfl (mwq_0 G σ3) rfl hl.1 rfl (Nat.le_of_ble_eq_true rfl) dX10_join_16 ⟨Nat.zero_le _, Nat.zero_le _⟩ (fun H locs w => ?_)
    refine lv_if_eq (tgt := 26) B.1.1 B.1.2.1 dX10_join_19 (by decide) (fun c10 => ?_) (fun c10 => ?_)
    · rw [if_pos c10] at hf
      refine lv_iconst (v := 0) B.1.1 B.1.2.1 dX10_join_26 (by decide) ?_
      exact bX10_join_27 hA B hR  hret _ _ _ _ _ _ _ hf w (lv_sub hl [0, 1, 2] rfl)
    · rw [if_neg c10] at hf
      exact bX10_join_22 hA B hR  hret _ _ _ _ _ _ hf w (lv_sub hl [0, 1, 2] rfl)
set_option maxHeartbeats 4000000 in
set_option maxRecDepth 100000 in
theorem mX10_join (l : Launch) (G : hy_G) (sz : Nat) (σ : hy_S) (x1 : Int32) (x2 : Int32) (o : hy_S × Int32) (hf : fX10_join σ x1 x2 = some o) : hy_M l yX10_join wsX10_join ({ frames := 2, cells := 0, slots := 0, locals := 43 }) mw G σ sz [.ref (G.2.2.2.2.1 0), .int x1, .int x2] o := by
  refine Met.ofW (cc := cX10_join) (maxL := 8) (ret := (some .boolean)) (by decide +kernel) rfl ?_
  intro p e s m args below meth c s₁ B hml hv
  obtain ⟨rfl, hsz, hP, hK, hD0, hN⟩ := hv
  have hx := B.exec
  have hb := B.bytes
  have hr := B.returns
  have hts := atoms_spec (ws := wsX10_join) B.pre
  have hown : s.vm.findClass RX10 = some m.cls := findClass_of_methodNamed B.named
  have hlocks := B.notSynchronized
  subst hsz
  have hD := hD0.self (sz := s.heap.size)
  have hA : ∀ q : Nat, s.heap.size ≤ q → va_A (mw G σ) s.heap.size q := fun q h => Or.inr h
  have hS : va_S (va_A (mw G σ) s.heap.size) s.heap s.heap [] := va_S.rf
  have hl := lv_entry ([.ref (G.2.2.2.2.1 0), .int x1, .int x2]) (n := 8) (Nat.le_of_ble_eq_true rfl)
  rw [lg_entry_eq]
  generalize (lg_sl ([.ref (G.2.2.2.2.1 0), .int x1, .int x2]) ++ List.replicate (8 - (lg_sl ([.ref (G.2.2.2.2.1 0), .int x1, .int x2])).length) Slot.unset).toArray = ls at hl ⊢
  have hl : lv_has ls 8 [(0, .ref (G.2.2.2.2.1 0)), (1, .int x1), (2, .int x2)] := hl
  refine bX10_join_0 (A := va_A (mw G σ) s.heap.size) hA ⟨⟨hx, hb, hml, hown, hts⟩, hK, hN⟩ ⟨Nat.le_of_ble_eq_true rfl, Nat.le_of_ble_eq_true rfl⟩ (o := o) (fun τ v pc H locs ls ho hz w d => ?_) σ x1 x2 _ _ _ hf ⟨hP, hD, hS⟩ hl
  exact W.zret hx hb hr (hy_bool hz) (fun t ht hW => ⟨⟨v, τ, rfl, ⟨by rw [ho], by rw [ho]⟩, by have h9 := w.1; rw [← ht] at h9; exact h9⟩, w.2.2.F ht⟩) w.2.2.2.2 d
theorem in_X10_vessels_X10 : ∀ w ∈ u_ws RX10 TX10 43, w ∈ wsX10_vessels := fun _ h => xt1 (xr (h))
noncomputable def fX10_vessels_73 (k36 : hy_S → Int32 → Int32 → Int32 → Option (hy_S × Int32)) (σ : hy_S) (s0 : Int32) (s1 : Int32) (x1 : Int32) (x3 : Int32) : Option (hy_S × Int32) := k36 σ x1 (s1 + s0) (x3 + 1)
noncomputable def fX10_vessels_72 (k36 : hy_S → Int32 → Int32 → Int32 → Option (hy_S × Int32)) (σ : hy_S) (s0 : Int32) (x1 : Int32) (x3 : Int32) : Option (hy_S × Int32) := fX10_vessels_73 k36 σ 0 s0 x1 x3
noncomputable def fX10_vessels_68 (k36 : hy_S → Int32 → Int32 → Int32 → Option (hy_S × Int32)) (σ : hy_S) (s0 : Int32) (x1 : Int32) (x3 : Int32) : Option (hy_S × Int32) := fX10_vessels_73 k36 σ 1 s0 x1 x3
noncomputable def fX10_vessels_36 : Nat → hy_S → Int32 → Int32 → Int32 → Option (hy_S × Int32)
  | 0, _, _, _, _ => none
  | n + 1, σ, x1, x2, x3 => (if (σ.2 9) ≤ x3 then some (σ, x2) else hy_ga σ 22 60 x3 (fun v2 => (if v2 = x3 then (if x1 < 0 then fX10_vessels_68 (fX10_vessels_36 n) σ x2 x1 x3 else hy_bd (fX10_stampOf σ x3) (fun σ7 v8 => (if v8 = x1 then fX10_vessels_68 (fX10_vessels_36 n) σ7 x2 x1 x3 else fX10_vessels_72 (fX10_vessels_36 n) σ7 x2 x1 x3))) else fX10_vessels_72 (fX10_vessels_36 n) σ x2 x1 x3)))
noncomputable def fX10_vessels_23 (σ : hy_S) (s0 : Int32) (x1 : Int32) : Option (hy_S × Int32) := hy_bd (fX10_throwsIf σ s0 1) (fun σ1 v2 => (if v2 = 0 then fX10_vessels_36 hy_fu σ1 x1 0 0 else some (σ1, 0)))
noncomputable def fX10_vessels_22 (σ : hy_S) (x1 : Int32) : Option (hy_S × Int32) := fX10_vessels_23 σ 0 x1
noncomputable def fX10_vessels (σ : hy_S) (x1 : Int32) : Option (hy_S × Int32) := hy_pf σ 0 0 (fun σ1 => (if x1 = (-1) then fX10_vessels_22 σ1 x1 else hy_bd (fX10_noStamp σ1 x1) (fun σ4 v5 => (if v5 = 0 then fX10_vessels_22 σ4 x1 else fX10_vessels_23 σ4 1 x1))))
set_option maxHeartbeats 4000000 in
set_option maxRecDepth 100000 in
theorem bX10_vessels_73 (hA : ∀ q : Nat, s.heap.size ≤ q → A q) (B : hy_B RX10 cX10_vessels 4 wsX10_vessels G A p s m args c) (hR : 2 ≤ R.frames ∧ 42 ≤ R.locals) {o : hy_S × Int32}  {k36 : hy_S → Int32 → Int32 → Int32 → Option (hy_S × Int32)} (hk36 : ∀ (σ : hy_S) (x1 : Int32) (x2 : Int32) (x3 : Int32) (H : Heap) (locs : List Loc) (ls : Array Slot), k36 σ x1 x2 x3 = some o → hy_w mw G A s σ H locs → lv_has ls 4 [(0, .ref (G.2.2.2.2.1 0)), (1, .int x1), (2, .int x2), (3, .int x3)] → W p l e R s m args below meth c H locs 0 0 Q (F0 m 36 ls [])) (hret : ∀ (σ : hy_S) (v : Int32) (pc : Nat) (H : Heap) (locs : List Loc) (ls : Array Slot), o = (σ, v) → hy_w mw G A s σ H locs → decode cX10_vessels pc = .ok (.ireturn, 1) → W p l e R s m args below meth c H locs 0 0 Q (F0 m pc ls [.int v])) (σ : hy_S) (s0 : Int32) (s1 : Int32) (x1 : Int32) (x3 : Int32) (H : Heap) (locs : List Loc) (ls : Array Slot) (hf : fX10_vessels_73 k36 σ s0 s1 x1 x3 = some o) (w : hy_w mw G A s σ H locs) (hl : lv_has ls 4 [(0, .ref (G.2.2.2.2.1 0)), (1, .int x1), (3, .int x3)]) : W p l e R s m args below meth c H locs 0 0 Q (F0 m 73 ls [.int s0, .int s1]) := by
  unfold fX10_vessels_73 at hf
  refine lv_iadd B.1.1 B.1.2.1 dX10_vessels_73 ?_
  refine lv_istore_n (lv' := [(2, .int (s1 + s0)), (0, .ref (G.2.2.2.2.1 0)), (1, .int x1), (3, .int x3)]) B.1.1 B.1.2.1 dX10_vessels_74 rfl hl (by decide) rfl (fun ls hl => ?_)
  refine lv_iinc (v := (x3 + 1)) (lv' := [(3, .int (x3 + 1)), (2, .int (s1 + s0)), (0, .ref (G.2.2.2.2.1 0)), (1, .int x1)]) B.1.1 B.1.2.1 dX10_vessels_75 hl (k := 3) rfl rfl (by decide) rfl (fun ls hl => ?_)
  refine lv_goto (tgt := 36) B.1.1 B.1.2.1 dX10_vessels_78 (by decide) ?_
  exact hk36 _ _ _ _ _ _ _ hf w (lv_sub hl [2, 3, 1, 0] rfl)
set_option maxHeartbeats 4000000 in
set_option maxRecDepth 100000 in
theorem bX10_vessels_72 (hA : ∀ q : Nat, s.heap.size ≤ q → A q) (B : hy_B RX10 cX10_vessels 4 wsX10_vessels G A p s m args c) (hR : 2 ≤ R.frames ∧ 42 ≤ R.locals) {o : hy_S × Int32}  {k36 : hy_S → Int32 → Int32 → Int32 → Option (hy_S × Int32)} (hk36 : ∀ (σ : hy_S) (x1 : Int32) (x2 : Int32) (x3 : Int32) (H : Heap) (locs : List Loc) (ls : Array Slot), k36 σ x1 x2 x3 = some o → hy_w mw G A s σ H locs → lv_has ls 4 [(0, .ref (G.2.2.2.2.1 0)), (1, .int x1), (2, .int x2), (3, .int x3)] → W p l e R s m args below meth c H locs 0 0 Q (F0 m 36 ls [])) (hret : ∀ (σ : hy_S) (v : Int32) (pc : Nat) (H : Heap) (locs : List Loc) (ls : Array Slot), o = (σ, v) → hy_w mw G A s σ H locs → decode cX10_vessels pc = .ok (.ireturn, 1) → W p l e R s m args below meth c H locs 0 0 Q (F0 m pc ls [.int v])) (σ : hy_S) (s0 : Int32) (x1 : Int32) (x3 : Int32) (H : Heap) (locs : List Loc) (ls : Array Slot) (hf : fX10_vessels_72 k36 σ s0 x1 x3 = some o) (w : hy_w mw G A s σ H locs) (hl : lv_has ls 4 [(0, .ref (G.2.2.2.2.1 0)), (1, .int x1), (3, .int x3)]) : W p l e R s m args below meth c H locs 0 0 Q (F0 m 72 ls [.int s0]) := by
  unfold fX10_vessels_72 at hf
  refine lv_iconst (v := 0) B.1.1 B.1.2.1 dX10_vessels_72 (by decide) ?_
  exact bX10_vessels_73 hA B hR hk36 hret _ _ _ _ _ _ _ _ hf w (lv_sub hl [0, 1, 2] rfl)
set_option maxHeartbeats 4000000 in
set_option maxRecDepth 100000 in
theorem bX10_vessels_68 (hA : ∀ q : Nat, s.heap.size ≤ q → A q) (B : hy_B RX10 cX10_vessels 4 wsX10_vessels G A p s m args c) (hR : 2 ≤ R.frames ∧ 42 ≤ R.locals) {o : hy_S × Int32}  {k36 : hy_S → Int32 → Int32 → Int32 → Option (hy_S × Int32)} (hk36 : ∀ (σ : hy_S) (x1 : Int32) (x2 : Int32) (x3 : Int32) (H : Heap) (locs : List Loc) (ls : Array Slot), k36 σ x1 x2 x3 = some o → hy_w mw G A s σ H locs → lv_has ls 4 [(0, .ref (G.2.2.2.2.1 0)), (1, .int x1), (2, .int x2), (3, .int x3)] → W p l e R s m args below meth c H locs 0 0 Q (F0 m 36 ls [])) (hret : ∀ (σ : hy_S) (v : Int32) (pc : Nat) (H : Heap) (locs : List Loc) (ls : Array Slot), o = (σ, v) → hy_w mw G A s σ H locs → decode cX10_vessels pc = .ok (.ireturn, 1) → W p l e R s m args below meth c H locs 0 0 Q (F0 m pc ls [.int v])) (σ : hy_S) (s0 : Int32) (x1 : Int32) (x3 : Int32) (H : Heap) (locs : List Loc) (ls : Array Slot) (hf : fX10_vessels_68 k36 σ s0 x1 x3 = some o) (w : hy_w mw G A s σ H locs) (hl : lv_has ls 4 [(0, .ref (G.2.2.2.2.1 0)), (1, .int x1), (3, .int x3)]) : W p l e R s m args below meth c H locs 0 0 Q (F0 m 68 ls [.int s0]) := by
  unfold fX10_vessels_68 at hf
  refine lv_iconst (v := 1) B.1.1 B.1.2.1 dX10_vessels_68 (by decide) ?_
  refine lv_goto (tgt := 73) B.1.1 B.1.2.1 dX10_vessels_69 (by decide) ?_
  exact bX10_vessels_73 hA B hR hk36 hret _ _ _ _ _ _ _ _ hf w (lv_sub hl [0, 1, 2] rfl)
set_option maxHeartbeats 4000000 in
set_option maxRecDepth 100000 in
theorem bX10_vessels_36 (hA : ∀ q : Nat, s.heap.size ≤ q → A q) (B : hy_B RX10 cX10_vessels 4 wsX10_vessels G A p s m args c) (hR : 2 ≤ R.frames ∧ 42 ≤ R.locals) {o : hy_S × Int32}  (hret : ∀ (σ : hy_S) (v : Int32) (pc : Nat) (H : Heap) (locs : List Loc) (ls : Array Slot), o = (σ, v) → hy_w mw G A s σ H locs → decode cX10_vessels pc = .ok (.ireturn, 1) → W p l e R s m args below meth c H locs 0 0 Q (F0 m pc ls [.int v])) : ∀ (n : Nat) (σ : hy_S) (x1 : Int32) (x2 : Int32) (x3 : Int32) (H : Heap) (locs : List Loc) (ls : Array Slot), fX10_vessels_36 n σ x1 x2 x3 = some o → hy_w mw G A s σ H locs → lv_has ls 4 [(0, .ref (G.2.2.2.2.1 0)), (1, .int x1), (2, .int x2), (3, .int x3)] → W p l e R s m args below meth c H locs 0 0 Q (F0 m 36 ls []) := by
  intro n
  induction n with
  | zero => intro σ x1 x2 x3 H locs ls hf; cases hf
  | succ n hk36 =>
    intro σ x1 x2 x3 H locs ls hf w hl
    unfold fX10_vessels_36 at hf
    refine lv_iload_n B.1.1 B.1.2.1 dX10_vessels_36 rfl (lv_at hl 3 rfl) ?_
    refine lv_aload_n B.1.1 B.1.2.1 dX10_vessels_37 rfl (lv_at hl 0 rfl) ?_
    refine hy_get (k := 32) (v := .int (σ.2 9)) B w (mwq_0 G) rfl in_X10_vessels_X10 (by decide) (by decide +kernel) rfl dX10_vessels_38 ?_
    refine lv_icmp_ge (tgt := 81) B.1.1 B.1.2.1 dX10_vessels_41 (by decide) (fun c1 => ?_) (fun c1 => ?_)
    · rw [if_pos c1] at hf
      refine lv_iload_n B.1.1 B.1.2.1 dX10_vessels_81 rfl (lv_at hl 2 rfl) ?_
      exact hret _ _ _ _ _ _ (Option.some.inj hf).symm w dX10_vessels_82
    · rw [if_neg c1] at hf
      refine lv_iload_n B.1.1 B.1.2.1 dX10_vessels_44 rfl (lv_at hl 2 rfl) ?_
      refine lv_aload_n B.1.1 B.1.2.1 dX10_vessels_45 rfl (lv_at hl 0 rfl) ?_
      refine hy_get (k := 31) (v := .ref (G.2.2.2.2.1 23)) B w (mwq_0 G) rfl in_X10_vessels_X10 (by decide) (by decide +kernel) rfl dX10_vessels_46 ?_
      refine lv_iload_n B.1.1 B.1.2.1 dX10_vessels_49 rfl (lv_at hl 3 rfl) ?_
      obtain ⟨h4, v2, e3, hf⟩ := hy_ga_some hf
      refine hy_iald B w (mwq_23 G) h4 e3 dX10_vessels_50 ?_
      refine lv_iload_n B.1.1 B.1.2.1 dX10_vessels_51 rfl (lv_at hl 3 rfl) ?_
      refine lv_icmp_ne (tgt := 72) B.1.1 B.1.2.1 dX10_vessels_52 (by decide) (fun c5 => ?_) (fun c5 => ?_)
      · rw [if_neg c5] at hf
        exact bX10_vessels_72 hA B hR hk36 hret _ _ _ _ _ _ _ hf w (lv_sub hl [0, 1, 3] rfl)
      · rw [if_pos c5] at hf
        refine lv_iload_n B.1.1 B.1.2.1 dX10_vessels_55 rfl (lv_at hl 1 rfl) ?_
        refine lv_if_lt (tgt := 68) B.1.1 B.1.2.1 dX10_vessels_56 (by decide) (fun c6 => ?_) (fun c6 => ?_)
        · rw [if_pos c6] at hf
          exact bX10_vessels_68 hA B hR hk36 hret _ _ _ _ _ _ _ hf w (lv_sub hl [0, 1, 3] rfl)
        · rw [if_neg c6] at hf
          refine lv_aload_n B.1.1 B.1.2.1 dX10_vessels_59 rfl (lv_at hl 0 rfl) ?_
          refine lv_iload_n B.1.1 B.1.2.1 dX10_vessels_60 rfl (lv_at hl 3 rfl) ?_
          obtain ⟨σ7, v8, h9, hf⟩ := hy_bd_some hf
          refine hy_cv (As := [.int x3]) (rest := [.int x2]) (o := (σ7, v8)) mw_fix hA B w (fun sz => mX10_stampOf l G sz σ x3 _ h9) (cwV 1 B.1.2.2.2.2 gX10_vessels_X10_stampOf rfl rfl rfl (by decide +kernel) ⟨by have := hR.1; show 0 + 1 ≤ _; omega, by have := hR.2; show 8 + (4 + 11) + 0 ≤ _; omega⟩) rfl (mwq_0 G σ) rfl hl.1 rfl (Nat.le_of_ble_eq_true rfl) dX10_vessels_61 ⟨Nat.zero_le _, Nat.zero_le _⟩ (fun H locs w => ?_)
          refine lv_iload_n B.1.1 B.1.2.1 dX10_vessels_64 rfl (lv_at hl 1 rfl) ?_
          refine lv_icmp_ne (tgt := 72) B.1.1 B.1.2.1 dX10_vessels_65 (by decide) (fun c10 => ?_) (fun c10 => ?_)
          · rw [if_neg c10] at hf
            exact bX10_vessels_72 hA B hR hk36 hret _ _ _ _ _ _ _ hf w (lv_sub hl [0, 1, 3] rfl)
          · rw [if_pos c10] at hf
            exact bX10_vessels_68 hA B hR hk36 hret _ _ _ _ _ _ _ hf w (lv_sub hl [0, 1, 3] rfl)
set_option maxHeartbeats 4000000 in
set_option maxRecDepth 100000 in
theorem bX10_vessels_23 (hA : ∀ q : Nat, s.heap.size ≤ q → A q) (B : hy_B RX10 cX10_vessels 4 wsX10_vessels G A p s m args c) (hR : 2 ≤ R.frames ∧ 42 ≤ R.locals) {o : hy_S × Int32}  (hret : ∀ (σ : hy_S) (v : Int32) (pc : Nat) (H : Heap) (locs : List Loc) (ls : Array Slot), o = (σ, v) → hy_w mw G A s σ H locs → decode cX10_vessels pc = .ok (.ireturn, 1) → W p l e R s m args below meth c H locs 0 0 Q (F0 m pc ls [.int v])) (σ : hy_S) (s0 : Int32) (x1 : Int32) (H : Heap) (locs : List Loc) (ls : Array Slot) (hf : fX10_vessels_23 σ s0 x1 = some o) (w : hy_w mw G A s σ H locs) (hl : lv_has ls 4 [(0, .ref (G.2.2.2.2.1 0)), (1, .int x1)]) : W p l e R s m args below meth c H locs 0 0 Q (F0 m 23 ls [.int s0, .ref (G.2.2.2.2.1 0)]) := by
  unfold fX10_vessels_23 at hf
  refine lv_iconst (v := 1) B.1.1 B.1.2.1 dX10_vessels_23 (by decide) ?_
  obtain ⟨σ1, v2, h3, hf⟩ := hy_bd_some hf
  refine hy_cv (As := [.int s0, .int 1]) (rest := []) (o := (σ1, v2)) mw_fix hA B w (fun sz => mX10_throwsIf l G sz σ s0 1 _ h3) (cwV 2 B.1.2.2.2.2 gX10_vessels_X10_throwsIf rfl rfl rfl (by decide +kernel) ⟨by have := hR.1; show 0 + 1 ≤ _; omega, by have := hR.2; show 8 + (3 + 11) + 0 ≤ _; omega⟩) rfl (mwq_0 G σ) rfl hl.1 rfl (Nat.le_of_ble_eq_true rfl) dX10_vessels_24 ⟨Nat.zero_le _, Nat.zero_le _⟩ (fun H locs w => ?_)
  refine lv_if_eq (tgt := 32) B.1.1 B.1.2.1 dX10_vessels_27 (by decide) (fun c4 => ?_) (fun c4 => ?_)
  · rw [if_pos c4] at hf
    refine lv_iconst (v := 0) B.1.1 B.1.2.1 dX10_vessels_32 (by decide) ?_
    refine lv_istore_n (lv' := [(2, .int 0), (0, .ref (G.2.2.2.2.1 0)), (1, .int x1)]) B.1.1 B.1.2.1 dX10_vessels_33 rfl hl (by decide) rfl (fun ls hl => ?_)
    refine lv_iconst (v := 0) B.1.1 B.1.2.1 dX10_vessels_34 (by decide) ?_
    refine lv_istore_n (lv' := [(3, .int 0), (2, .int 0), (0, .ref (G.2.2.2.2.1 0)), (1, .int x1)]) B.1.1 B.1.2.1 dX10_vessels_35 rfl hl (by decide) rfl (fun ls hl => ?_)
    exact bX10_vessels_36 hA B hR  hret _ _ _ _ _ _ _ _ hf w (lv_sub hl [2, 3, 1, 0] rfl)
  · rw [if_neg c4] at hf
    refine lv_iconst (v := 0) B.1.1 B.1.2.1 dX10_vessels_30 (by decide) ?_
    exact hret _ _ _ _ _ _ (Option.some.inj hf).symm w dX10_vessels_31
set_option maxHeartbeats 4000000 in
set_option maxRecDepth 100000 in
theorem bX10_vessels_22 (hA : ∀ q : Nat, s.heap.size ≤ q → A q) (B : hy_B RX10 cX10_vessels 4 wsX10_vessels G A p s m args c) (hR : 2 ≤ R.frames ∧ 42 ≤ R.locals) {o : hy_S × Int32}  (hret : ∀ (σ : hy_S) (v : Int32) (pc : Nat) (H : Heap) (locs : List Loc) (ls : Array Slot), o = (σ, v) → hy_w mw G A s σ H locs → decode cX10_vessels pc = .ok (.ireturn, 1) → W p l e R s m args below meth c H locs 0 0 Q (F0 m pc ls [.int v])) (σ : hy_S) (x1 : Int32) (H : Heap) (locs : List Loc) (ls : Array Slot) (hf : fX10_vessels_22 σ x1 = some o) (w : hy_w mw G A s σ H locs) (hl : lv_has ls 4 [(0, .ref (G.2.2.2.2.1 0)), (1, .int x1)]) : W p l e R s m args below meth c H locs 0 0 Q (F0 m 22 ls [.ref (G.2.2.2.2.1 0)]) := by
  unfold fX10_vessels_22 at hf
  refine lv_iconst (v := 0) B.1.1 B.1.2.1 dX10_vessels_22 (by decide) ?_
  exact bX10_vessels_23 hA B hR  hret _ _ _ _ _ _ hf w (lv_sub hl [0, 1] rfl)
set_option maxHeartbeats 4000000 in
set_option maxRecDepth 100000 in
theorem bX10_vessels_0 (hA : ∀ q : Nat, s.heap.size ≤ q → A q) (B : hy_B RX10 cX10_vessels 4 wsX10_vessels G A p s m args c) (hR : 2 ≤ R.frames ∧ 42 ≤ R.locals) {o : hy_S × Int32}  (hret : ∀ (σ : hy_S) (v : Int32) (pc : Nat) (H : Heap) (locs : List Loc) (ls : Array Slot), o = (σ, v) → hy_w mw G A s σ H locs → decode cX10_vessels pc = .ok (.ireturn, 1) → W p l e R s m args below meth c H locs 0 0 Q (F0 m pc ls [.int v])) (σ : hy_S) (x1 : Int32) (H : Heap) (locs : List Loc) (ls : Array Slot) (hf : fX10_vessels σ x1 = some o) (w : hy_w mw G A s σ H locs) (hl : lv_has ls 4 [(0, .ref (G.2.2.2.2.1 0)), (1, .int x1)]) : W p l e R s m args below meth c H locs 0 0 Q (F0 m 0 ls []) := by
  unfold fX10_vessels at hf
  refine lv_aload_n B.1.1 B.1.2.1 dX10_vessels_0 rfl (lv_at hl 0 rfl) ?_
  refine lv_iconst (v := 0) B.1.1 B.1.2.1 dX10_vessels_1 (by decide) ?_
  obtain ⟨σ1, e2, hf⟩ := hy_pf_some hf
  refine hy_put (k := 0) B w (mwq_0 G) rfl in_X10_vessels_X10 tyX10 tyX10_ok nmX10 (by decide) (by decide +kernel) rfl rfl (by show 0 < 43; decide) (mwp_0 G) e2 dX10_vessels_2 (fun H locs w => ?_)
  refine lv_aload_n B.1.1 B.1.2.1 dX10_vessels_5 rfl (lv_at hl 0 rfl) ?_
  refine lv_iload_n B.1.1 B.1.2.1 dX10_vessels_6 rfl (lv_at hl 1 rfl) ?_
  refine lv_iconst (v := (-1)) B.1.1 B.1.2.1 dX10_vessels_7 (by decide) ?_
  refine lv_icmp_eq (tgt := 22) B.1.1 B.1.2.1 dX10_vessels_8 (by decide) (fun c3 => ?_) (fun c3 => ?_)
  · rw [if_pos c3] at hf
    exact bX10_vessels_22 hA B hR  hret _ _ _ _ _ hf w (lv_sub hl [0, 1] rfl)
  · rw [if_neg c3] at hf
    refine lv_iload_n B.1.1 B.1.2.1 dX10_vessels_11 rfl (lv_at hl 1 rfl) ?_
    obtain ⟨σ4, v5, h6, hf⟩ := hy_bd_some hf
    refine hy_cs (As := [.int x1]) (rest := [.ref (G.2.2.2.2.1 0)]) (o := (σ4, v5)) mw_fix hA B w (fun sz => mX10_noStamp l G sz σ1 x1 _ h6) (cwS 1 B.1.2.2.2.2 gX10_vessels_X10_noStamp rfl rfl rfl (by decide +kernel) ⟨by have := hR.1; show 1 + 1 ≤ _; omega, by have := hR.2; show 8 + (1 + 11) + 22 ≤ _; omega⟩) rfl hl.1 rfl (Nat.le_of_ble_eq_true rfl) dX10_vessels_12 ⟨Nat.zero_le _, Nat.zero_le _⟩ (fun H locs w => ?_)
    refine lv_if_eq (tgt := 22) B.1.1 B.1.2.1 dX10_vessels_15 (by decide) (fun c7 => ?_) (fun c7 => ?_)
    · rw [if_pos c7] at hf
      exact bX10_vessels_22 hA B hR  hret _ _ _ _ _ hf w (lv_sub hl [0, 1] rfl)
    · rw [if_neg c7] at hf
      refine lv_iconst (v := 1) B.1.1 B.1.2.1 dX10_vessels_18 (by decide) ?_
      refine lv_goto (tgt := 23) B.1.1 B.1.2.1 dX10_vessels_19 (by decide) ?_
      exact bX10_vessels_23 hA B hR  hret _ _ _ _ _ _ hf w (lv_sub hl [0, 1] rfl)
set_option maxHeartbeats 4000000 in
set_option maxRecDepth 100000 in
theorem mX10_vessels (l : Launch) (G : hy_G) (sz : Nat) (σ : hy_S) (x1 : Int32) (o : hy_S × Int32) (hf : fX10_vessels σ x1 = some o) : hy_M l yX10_vessels wsX10_vessels ({ frames := 2, cells := 0, slots := 0, locals := 42 }) mw G σ sz [.ref (G.2.2.2.2.1 0), .int x1] o := by
  refine Met.ofW (cc := cX10_vessels) (maxL := 4) (ret := (some .int)) (by decide +kernel) rfl ?_
  intro p e s m args below meth c s₁ B hml hv
  obtain ⟨rfl, hsz, hP, hK, hD0, hN⟩ := hv
  have hx := B.exec
  have hb := B.bytes
  have hr := B.returns
  have hts := atoms_spec (ws := wsX10_vessels) B.pre
  have hown : s.vm.findClass RX10 = some m.cls := findClass_of_methodNamed B.named
  have hlocks := B.notSynchronized
  subst hsz
  have hD := hD0.self (sz := s.heap.size)
  have hA : ∀ q : Nat, s.heap.size ≤ q → va_A (mw G σ) s.heap.size q := fun q h => Or.inr h
  have hS : va_S (va_A (mw G σ) s.heap.size) s.heap s.heap [] := va_S.rf
  have hl := lv_entry ([.ref (G.2.2.2.2.1 0), .int x1]) (n := 4) (Nat.le_of_ble_eq_true rfl)
  rw [lg_entry_eq]
  generalize (lg_sl ([.ref (G.2.2.2.2.1 0), .int x1]) ++ List.replicate (4 - (lg_sl ([.ref (G.2.2.2.2.1 0), .int x1])).length) Slot.unset).toArray = ls at hl ⊢
  have hl : lv_has ls 4 [(0, .ref (G.2.2.2.2.1 0)), (1, .int x1)] := hl
  refine bX10_vessels_0 (A := va_A (mw G σ) s.heap.size) hA ⟨⟨hx, hb, hml, hown, hts⟩, hK, hN⟩ ⟨Nat.le_of_ble_eq_true rfl, Nat.le_of_ble_eq_true rfl⟩ (o := o) (fun τ v pc H locs ls ho w d => ?_) σ x1 _ _ _ hf ⟨hP, hD, hS⟩ hl
  exact W.iret hx hb hr (fun t ht hW => ⟨⟨v, τ, rfl, ⟨by rw [ho], by rw [ho]⟩, by have h9 := w.1; rw [← ht] at h9; exact h9⟩, w.2.2.F ht⟩) w.2.2.2.2 d
theorem in_X10_vessel_X10 : ∀ w ∈ u_ws RX10 TX10 43, w ∈ wsX10_vessel := fun _ h => xt1 (xr (h))
noncomputable def fX10_vessel_84 (k53 : hy_S → Int32 → Int32 → Int32 → Option (hy_S × Int32)) (σ : hy_S) (s0 : Int32) (s1 : Int32) (x1 : Int32) (x4 : Int32) : Option (hy_S × Int32) := k53 σ x1 (s1 + s0) (x4 + 1)
noncomputable def fX10_vessel_53 : Nat → hy_S → Int32 → Int32 → Int32 → Option (hy_S × Int32)
  | 0, _, _, _, _ => none
  | n + 1, σ, x1, x3, x4 => (if (σ.2 9) ≤ x4 then some (σ, x3) else hy_ga σ 22 60 x4 (fun v2 => hy_ga σ 22 60 x1 (fun v5 => (if v2 = v5 then fX10_vessel_84 (fX10_vessel_53 n) σ 1 x3 x1 x4 else fX10_vessel_84 (fX10_vessel_53 n) σ 0 x3 x1 x4))))
noncomputable def fX10_vessel (σ : hy_S) (x1 : Int32) (x2 : Int32) : Option (hy_S × Int32) := hy_pf σ 0 0 (fun σ1 => hy_bd (fX10_noSherd σ1 x1) (fun σ3 v4 => hy_bd (fX10_throwsIf σ3 v4 1) (fun σ6 v7 => (if v7 = 0 then (if x2 = 0 then fX10_vessel_53 hy_fu σ6 x1 0 0 else (if x2 = 1 then hy_ga σ6 22 60 x1 (fun v12 => hy_bd (fX10_stampOf σ6 v12) (fun σ15 v16 => some (σ15, v16))) else (if x2 = 2 then hy_ga σ6 22 60 x1 (fun v19 => some (σ6, v19)) else hy_pf σ6 0 2 (fun σ22 => some (σ22, 0))))) else some (σ6, 0)))))
set_option maxHeartbeats 4000000 in
set_option maxRecDepth 100000 in
theorem bX10_vessel_84 (hA : ∀ q : Nat, s.heap.size ≤ q → A q) (B : hy_B RX10 cX10_vessel 5 wsX10_vessel G A p s m args c) (hR : 2 ≤ R.frames ∧ 43 ≤ R.locals) {o : hy_S × Int32}  {k53 : hy_S → Int32 → Int32 → Int32 → Option (hy_S × Int32)} (hk53 : ∀ (σ : hy_S) (x1 : Int32) (x3 : Int32) (x4 : Int32) (H : Heap) (locs : List Loc) (ls : Array Slot), k53 σ x1 x3 x4 = some o → hy_w mw G A s σ H locs → lv_has ls 5 [(0, .ref (G.2.2.2.2.1 0)), (1, .int x1), (3, .int x3), (4, .int x4)] → W p l e R s m args below meth c H locs 0 0 Q (F0 m 53 ls [])) (hret : ∀ (σ : hy_S) (v : Int32) (pc : Nat) (H : Heap) (locs : List Loc) (ls : Array Slot), o = (σ, v) → hy_w mw G A s σ H locs → decode cX10_vessel pc = .ok (.ireturn, 1) → W p l e R s m args below meth c H locs 0 0 Q (F0 m pc ls [.int v])) (σ : hy_S) (s0 : Int32) (s1 : Int32) (x1 : Int32) (x4 : Int32) (H : Heap) (locs : List Loc) (ls : Array Slot) (hf : fX10_vessel_84 k53 σ s0 s1 x1 x4 = some o) (w : hy_w mw G A s σ H locs) (hl : lv_has ls 5 [(0, .ref (G.2.2.2.2.1 0)), (1, .int x1), (4, .int x4)]) : W p l e R s m args below meth c H locs 0 0 Q (F0 m 84 ls [.int s0, .int s1]) := by
  unfold fX10_vessel_84 at hf
  refine lv_iadd B.1.1 B.1.2.1 dX10_vessel_84 ?_
  refine lv_istore_n (lv' := [(3, .int (s1 + s0)), (0, .ref (G.2.2.2.2.1 0)), (1, .int x1), (4, .int x4)]) B.1.1 B.1.2.1 dX10_vessel_85 rfl hl (by decide) rfl (fun ls hl => ?_)
  refine lv_iinc (v := (x4 + 1)) (lv' := [(4, .int (x4 + 1)), (3, .int (s1 + s0)), (0, .ref (G.2.2.2.2.1 0)), (1, .int x1)]) B.1.1 B.1.2.1 dX10_vessel_86 hl (k := 3) rfl rfl (by decide) rfl (fun ls hl => ?_)
  refine lv_goto (tgt := 53) B.1.1 B.1.2.1 dX10_vessel_89 (by decide) ?_
  exact hk53 _ _ _ _ _ _ _ hf w (lv_sub hl [2, 3, 1, 0] rfl)
set_option maxHeartbeats 4000000 in
set_option maxRecDepth 100000 in
theorem bX10_vessel_53 (hA : ∀ q : Nat, s.heap.size ≤ q → A q) (B : hy_B RX10 cX10_vessel 5 wsX10_vessel G A p s m args c) (hR : 2 ≤ R.frames ∧ 43 ≤ R.locals) {o : hy_S × Int32}  (hret : ∀ (σ : hy_S) (v : Int32) (pc : Nat) (H : Heap) (locs : List Loc) (ls : Array Slot), o = (σ, v) → hy_w mw G A s σ H locs → decode cX10_vessel pc = .ok (.ireturn, 1) → W p l e R s m args below meth c H locs 0 0 Q (F0 m pc ls [.int v])) : ∀ (n : Nat) (σ : hy_S) (x1 : Int32) (x3 : Int32) (x4 : Int32) (H : Heap) (locs : List Loc) (ls : Array Slot), fX10_vessel_53 n σ x1 x3 x4 = some o → hy_w mw G A s σ H locs → lv_has ls 5 [(0, .ref (G.2.2.2.2.1 0)), (1, .int x1), (3, .int x3), (4, .int x4)] → W p l e R s m args below meth c H locs 0 0 Q (F0 m 53 ls []) := by
  intro n
  induction n with
  | zero => intro σ x1 x3 x4 H locs ls hf; cases hf
  | succ n hk53 =>
    intro σ x1 x3 x4 H locs ls hf w hl
    unfold fX10_vessel_53 at hf
    refine lv_iload B.1.1 B.1.2.1 dX10_vessel_53 (lv_at hl 3 rfl) ?_
    refine lv_aload_n B.1.1 B.1.2.1 dX10_vessel_55 rfl (lv_at hl 0 rfl) ?_
    refine hy_get (k := 32) (v := .int (σ.2 9)) B w (mwq_0 G) rfl in_X10_vessel_X10 (by decide) (by decide +kernel) rfl dX10_vessel_56 ?_
    refine lv_icmp_ge (tgt := 92) B.1.1 B.1.2.1 dX10_vessel_59 (by decide) (fun c1 => ?_) (fun c1 => ?_)
    · rw [if_pos c1] at hf
      refine lv_iload_n B.1.1 B.1.2.1 dX10_vessel_92 rfl (lv_at hl 2 rfl) ?_
      exact hret _ _ _ _ _ _ (Option.some.inj hf).symm w dX10_vessel_93
    · rw [if_neg c1] at hf
      refine lv_iload_n B.1.1 B.1.2.1 dX10_vessel_62 rfl (lv_at hl 2 rfl) ?_
      refine lv_aload_n B.1.1 B.1.2.1 dX10_vessel_63 rfl (lv_at hl 0 rfl) ?_
      refine hy_get (k := 31) (v := .ref (G.2.2.2.2.1 23)) B w (mwq_0 G) rfl in_X10_vessel_X10 (by decide) (by decide +kernel) rfl dX10_vessel_64 ?_
      refine lv_iload B.1.1 B.1.2.1 dX10_vessel_67 (lv_at hl 3 rfl) ?_
      obtain ⟨h4, v2, e3, hf⟩ := hy_ga_some hf
      refine hy_iald B w (mwq_23 G) h4 e3 dX10_vessel_69 ?_
      refine lv_aload_n B.1.1 B.1.2.1 dX10_vessel_70 rfl (lv_at hl 0 rfl) ?_
      refine hy_get (k := 31) (v := .ref (G.2.2.2.2.1 23)) B w (mwq_0 G) rfl in_X10_vessel_X10 (by decide) (by decide +kernel) rfl dX10_vessel_71 ?_
      refine lv_iload_n B.1.1 B.1.2.1 dX10_vessel_74 rfl (lv_at hl 1 rfl) ?_
      obtain ⟨h7, v5, e6, hf⟩ := hy_ga_some hf
      refine hy_iald B w (mwq_23 G) h7 e6 dX10_vessel_75 ?_
      refine lv_icmp_ne (tgt := 83) B.1.1 B.1.2.1 dX10_vessel_76 (by decide) (fun c8 => ?_) (fun c8 => ?_)
      · rw [if_neg c8] at hf
        refine lv_iconst (v := 0) B.1.1 B.1.2.1 dX10_vessel_83 (by decide) ?_
        exact bX10_vessel_84 hA B hR hk53 hret _ _ _ _ _ _ _ _ hf w (lv_sub hl [0, 1, 3] rfl)
      · rw [if_pos c8] at hf
        refine lv_iconst (v := 1) B.1.1 B.1.2.1 dX10_vessel_79 (by decide) ?_
        refine lv_goto (tgt := 84) B.1.1 B.1.2.1 dX10_vessel_80 (by decide) ?_
        exact bX10_vessel_84 hA B hR hk53 hret _ _ _ _ _ _ _ _ hf w (lv_sub hl [0, 1, 3] rfl)
set_option maxHeartbeats 4000000 in
set_option maxRecDepth 100000 in
theorem bX10_vessel_0 (hA : ∀ q : Nat, s.heap.size ≤ q → A q) (B : hy_B RX10 cX10_vessel 5 wsX10_vessel G A p s m args c) (hR : 2 ≤ R.frames ∧ 43 ≤ R.locals) {o : hy_S × Int32}  (hret : ∀ (σ : hy_S) (v : Int32) (pc : Nat) (H : Heap) (locs : List Loc) (ls : Array Slot), o = (σ, v) → hy_w mw G A s σ H locs → decode cX10_vessel pc = .ok (.ireturn, 1) → W p l e R s m args below meth c H locs 0 0 Q (F0 m pc ls [.int v])) (σ : hy_S) (x1 : Int32) (x2 : Int32) (H : Heap) (locs : List Loc) (ls : Array Slot) (hf : fX10_vessel σ x1 x2 = some o) (w : hy_w mw G A s σ H locs) (hl : lv_has ls 5 [(0, .ref (G.2.2.2.2.1 0)), (1, .int x1), (2, .int x2)]) : W p l e R s m args below meth c H locs 0 0 Q (F0 m 0 ls []) := by
  unfold fX10_vessel at hf
  refine lv_aload_n B.1.1 B.1.2.1 dX10_vessel_0 rfl (lv_at hl 0 rfl) ?_
  refine lv_iconst (v := 0) B.1.1 B.1.2.1 dX10_vessel_1 (by decide) ?_
  obtain ⟨σ1, e2, hf⟩ := hy_pf_some hf
  refine hy_put (k := 0) B w (mwq_0 G) rfl in_X10_vessel_X10 tyX10 tyX10_ok nmX10 (by decide) (by decide +kernel) rfl rfl (by show 0 < 43; decide) (mwp_0 G) e2 dX10_vessel_2 (fun H locs w => ?_)
  refine lv_aload_n B.1.1 B.1.2.1 dX10_vessel_5 rfl (lv_at hl 0 rfl) ?_
  refine lv_aload_n B.1.1 B.1.2.1 dX10_vessel_6 rfl (lv_at hl 0 rfl) ?_
  refine lv_iload_n B.1.1 B.1.2.1 dX10_vessel_7 rfl (lv_at hl 1 rfl) ?_
  obtain ⟨σ3, v4, h5, hf⟩ := hy_bd_some hf
  refine hy_cv (As := [.int x1]) (rest := [.ref (G.2.2.2.2.1 0)]) (o := (σ3, v4)) mw_fix hA B w (fun sz => mX10_noSherd l G sz σ1 x1 _ h5) (cwV 1 B.1.2.2.2.2 gX10_vessel_X10_noSherd rfl rfl rfl (by decide +kernel) ⟨by have := hR.1; show 1 + 1 ≤ _; omega, by have := hR.2; show 8 + (2 + 11) + 22 ≤ _; omega⟩) rfl (mwq_0 G σ1) rfl hl.1 rfl (Nat.le_of_ble_eq_true rfl) dX10_vessel_8 ⟨Nat.zero_le _, Nat.zero_le _⟩ (fun H locs w => ?_)
  refine lv_iconst (v := 1) B.1.1 B.1.2.1 dX10_vessel_11 (by decide) ?_
  obtain ⟨σ6, v7, h8, hf⟩ := hy_bd_some hf
  refine hy_cv (As := [.int v4, .int 1]) (rest := []) (o := (σ6, v7)) mw_fix hA B w (fun sz => mX10_throwsIf l G sz σ3 v4 1 _ h8) (cwV 2 B.1.2.2.2.2 gX10_vessel_X10_throwsIf rfl rfl rfl (by decide +kernel) ⟨by have := hR.1; show 0 + 1 ≤ _; omega, by have := hR.2; show 8 + (3 + 11) + 0 ≤ _; omega⟩) rfl (mwq_0 G σ3) rfl hl.1 rfl (Nat.le_of_ble_eq_true rfl) dX10_vessel_12 ⟨Nat.zero_le _, Nat.zero_le _⟩ (fun H locs w => ?_)
  refine lv_if_eq (tgt := 20) B.1.1 B.1.2.1 dX10_vessel_15 (by decide) (fun c9 => ?_) (fun c9 => ?_)
  · rw [if_pos c9] at hf
    refine lv_iload_n B.1.1 B.1.2.1 dX10_vessel_20 rfl (lv_at hl 2 rfl) ?_
    by_cases c10 : x2 = 0
    · rw [if_pos c10] at hf
      have c10e : Int32.toInt x2 = 0 := by rw [c10]; rfl
      refine lv_tableIn (tgt := 48) B.1.1 B.1.2.1 dX10_vessel_21 (by rw [c10e]; decide) (by rw [c10e]; decide) (by rw [c10e]; rfl) (by decide) ?_
      refine lv_iconst (v := 0) B.1.1 B.1.2.1 dX10_vessel_48 (by decide) ?_
      refine lv_istore_n (lv' := [(3, .int 0), (0, .ref (G.2.2.2.2.1 0)), (1, .int x1), (2, .int x2)]) B.1.1 B.1.2.1 dX10_vessel_49 rfl hl (by decide) rfl (fun ls hl => ?_)
      refine lv_iconst (v := 0) B.1.1 B.1.2.1 dX10_vessel_50 (by decide) ?_
      refine lv_istore (lv' := [(4, .int 0), (3, .int 0), (0, .ref (G.2.2.2.2.1 0)), (1, .int x1), (2, .int x2)]) B.1.1 B.1.2.1 dX10_vessel_51 hl (by decide) rfl (fun ls hl => ?_)
      exact bX10_vessel_53 hA B hR  hret _ _ _ _ _ _ _ _ hf w (lv_sub hl [2, 3, 1, 0] rfl)
    · rw [if_neg c10] at hf
      by_cases c11 : x2 = 1
      · rw [if_pos c11] at hf
        have c11e : Int32.toInt x2 = 1 := by rw [c11]; rfl
        refine lv_tableIn (tgt := 94) B.1.1 B.1.2.1 dX10_vessel_21 (by rw [c11e]; decide) (by rw [c11e]; decide) (by rw [c11e]; rfl) (by decide) ?_
        refine lv_aload_n B.1.1 B.1.2.1 dX10_vessel_94 rfl (lv_at hl 0 rfl) ?_
        refine lv_aload_n B.1.1 B.1.2.1 dX10_vessel_95 rfl (lv_at hl 0 rfl) ?_
        refine hy_get (k := 31) (v := .ref (G.2.2.2.2.1 23)) B w (mwq_0 G) rfl in_X10_vessel_X10 (by decide) (by decide +kernel) rfl dX10_vessel_96 ?_
        refine lv_iload_n B.1.1 B.1.2.1 dX10_vessel_99 rfl (lv_at hl 1 rfl) ?_
        obtain ⟨h14, v12, e13, hf⟩ := hy_ga_some hf
        refine hy_iald B w (mwq_23 G) h14 e13 dX10_vessel_100 ?_
        obtain ⟨σ15, v16, h17, hf⟩ := hy_bd_some hf
        refine hy_cv (As := [.int v12]) (rest := []) (o := (σ15, v16)) mw_fix hA B w (fun sz => mX10_stampOf l G sz σ6 v12 _ h17) (cwV 1 B.1.2.2.2.2 gX10_vessel_X10_stampOf rfl rfl rfl (by decide +kernel) ⟨by have := hR.1; show 0 + 1 ≤ _; omega, by have := hR.2; show 8 + (4 + 11) + 0 ≤ _; omega⟩) rfl (mwq_0 G σ6) rfl hl.1 rfl (Nat.le_of_ble_eq_true rfl) dX10_vessel_101 ⟨Nat.zero_le _, Nat.zero_le _⟩ (fun H locs w => ?_)
        exact hret _ _ _ _ _ _ (Option.some.inj hf).symm w dX10_vessel_104
      · rw [if_neg c11] at hf
        by_cases c18 : x2 = 2
        · rw [if_pos c18] at hf
          have c18e : Int32.toInt x2 = 2 := by rw [c18]; rfl
          refine lv_tableIn (tgt := 105) B.1.1 B.1.2.1 dX10_vessel_21 (by rw [c18e]; decide) (by rw [c18e]; decide) (by rw [c18e]; rfl) (by decide) ?_
          refine lv_aload_n B.1.1 B.1.2.1 dX10_vessel_105 rfl (lv_at hl 0 rfl) ?_
          refine hy_get (k := 31) (v := .ref (G.2.2.2.2.1 23)) B w (mwq_0 G) rfl in_X10_vessel_X10 (by decide) (by decide +kernel) rfl dX10_vessel_106 ?_
          refine lv_iload_n B.1.1 B.1.2.1 dX10_vessel_109 rfl (lv_at hl 1 rfl) ?_
          obtain ⟨h21, v19, e20, hf⟩ := hy_ga_some hf
          refine hy_iald B w (mwq_23 G) h21 e20 dX10_vessel_110 ?_
          exact hret _ _ _ _ _ _ (Option.some.inj hf).symm w dX10_vessel_111
        · rw [if_neg c18] at hf
          have c10t := lv_neT (a := 0) c10 rfl
          have c11t := lv_neT (a := 1) c11 rfl
          have c18t := lv_neT (a := 2) c18 rfl
          refine lv_tableOut (tgt := 112) B.1.1 B.1.2.1 dX10_vessel_21 (by omega) (by decide) ?_
          refine lv_aload_n B.1.1 B.1.2.1 dX10_vessel_112 rfl (lv_at hl 0 rfl) ?_
          refine lv_iconst (v := 2) B.1.1 B.1.2.1 dX10_vessel_113 (by decide) ?_
          obtain ⟨σ22, e23, hf⟩ := hy_pf_some hf
          refine hy_put (k := 0) B w (mwq_0 G) rfl in_X10_vessel_X10 tyX10 tyX10_ok nmX10 (by decide) (by decide +kernel) rfl rfl (by show 0 < 43; decide) (mwp_0 G) e23 dX10_vessel_114 (fun H locs w => ?_)
          refine lv_iconst (v := 0) B.1.1 B.1.2.1 dX10_vessel_117 (by decide) ?_
          exact hret _ _ _ _ _ _ (Option.some.inj hf).symm w dX10_vessel_118
  · rw [if_neg c9] at hf
    refine lv_iconst (v := 0) B.1.1 B.1.2.1 dX10_vessel_18 (by decide) ?_
    exact hret _ _ _ _ _ _ (Option.some.inj hf).symm w dX10_vessel_19
set_option maxHeartbeats 4000000 in
set_option maxRecDepth 100000 in
theorem mX10_vessel (l : Launch) (G : hy_G) (sz : Nat) (σ : hy_S) (x1 : Int32) (x2 : Int32) (o : hy_S × Int32) (hf : fX10_vessel σ x1 x2 = some o) : hy_M l yX10_vessel wsX10_vessel ({ frames := 2, cells := 0, slots := 0, locals := 43 }) mw G σ sz [.ref (G.2.2.2.2.1 0), .int x1, .int x2] o := by
  refine Met.ofW (cc := cX10_vessel) (maxL := 5) (ret := (some .int)) (by decide +kernel) rfl ?_
  intro p e s m args below meth c s₁ B hml hv
  obtain ⟨rfl, hsz, hP, hK, hD0, hN⟩ := hv
  have hx := B.exec
  have hb := B.bytes
  have hr := B.returns
  have hts := atoms_spec (ws := wsX10_vessel) B.pre
  have hown : s.vm.findClass RX10 = some m.cls := findClass_of_methodNamed B.named
  have hlocks := B.notSynchronized
  subst hsz
  have hD := hD0.self (sz := s.heap.size)
  have hA : ∀ q : Nat, s.heap.size ≤ q → va_A (mw G σ) s.heap.size q := fun q h => Or.inr h
  have hS : va_S (va_A (mw G σ) s.heap.size) s.heap s.heap [] := va_S.rf
  have hl := lv_entry ([.ref (G.2.2.2.2.1 0), .int x1, .int x2]) (n := 5) (Nat.le_of_ble_eq_true rfl)
  rw [lg_entry_eq]
  generalize (lg_sl ([.ref (G.2.2.2.2.1 0), .int x1, .int x2]) ++ List.replicate (5 - (lg_sl ([.ref (G.2.2.2.2.1 0), .int x1, .int x2])).length) Slot.unset).toArray = ls at hl ⊢
  have hl : lv_has ls 5 [(0, .ref (G.2.2.2.2.1 0)), (1, .int x1), (2, .int x2)] := hl
  refine bX10_vessel_0 (A := va_A (mw G σ) s.heap.size) hA ⟨⟨hx, hb, hml, hown, hts⟩, hK, hN⟩ ⟨Nat.le_of_ble_eq_true rfl, Nat.le_of_ble_eq_true rfl⟩ (o := o) (fun τ v pc H locs ls ho w d => ?_) σ x1 x2 _ _ _ hf ⟨hP, hD, hS⟩ hl
  exact W.iret hx hb hr (fun t ht hW => ⟨⟨v, τ, rfl, ⟨by rw [ho], by rw [ho]⟩, by have h9 := w.1; rw [← ht] at h9; exact h9⟩, w.2.2.F ht⟩) w.2.2.2.2 d
theorem in_X10_tells_X10 : ∀ w ∈ u_ws RX10 TX10 43, w ∈ wsX10_tells := fun _ h => xt1 (xr (h))
noncomputable def fX10_tells_15 (σ : hy_S) (s0 : Int32) (x1 : Int32) (x2 : Int32) (x3 : Int32) : Option (hy_S × Int32) := hy_bd (fX10_throwsIf σ s0 3) (fun σ1 v2 => (if v2 = 0 then hy_pa σ1 23 60 (σ1.2 10) x1 (fun σ5 => hy_pa σ5 24 60 (σ5.2 10) x2 (fun σ8 => hy_pa σ8 25 60 (σ8.2 10) x3 (fun σ11 => hy_pa σ11 26 60 (σ11.2 10) (σ11.2 11) (fun σ14 => hy_pa σ14 27 60 (σ14.2 10) (-1) (fun σ17 => hy_pf σ17 10 ((σ17.2 10) + 1) (fun σ20 => some (σ20, ((σ20.2 10) - 1)))))))) else some (σ1, 0)))
noncomputable def fX10_tells (σ : hy_S) (x1 : Int32) (x2 : Int32) (x3 : Int32) : Option (hy_S × Int32) := (if (σ.2 10) = 60 then fX10_tells_15 σ 1 x1 x2 x3 else fX10_tells_15 σ 0 x1 x2 x3)
set_option maxHeartbeats 4000000 in
set_option maxRecDepth 100000 in
theorem bX10_tells_15 (hA : ∀ q : Nat, s.heap.size ≤ q → A q) (B : hy_B RX10 cX10_tells 4 wsX10_tells G A p s m args c) (hR : 1 ≤ R.frames ∧ 22 ≤ R.locals) {o : hy_S × Int32}  (hret : ∀ (σ : hy_S) (v : Int32) (pc : Nat) (H : Heap) (locs : List Loc) (ls : Array Slot), o = (σ, v) → hy_w mw G A s σ H locs → decode cX10_tells pc = .ok (.ireturn, 1) → W p l e R s m args below meth c H locs 0 0 Q (F0 m pc ls [.int v])) (σ : hy_S) (s0 : Int32) (x1 : Int32) (x2 : Int32) (x3 : Int32) (H : Heap) (locs : List Loc) (ls : Array Slot) (hf : fX10_tells_15 σ s0 x1 x2 x3 = some o) (w : hy_w mw G A s σ H locs) (hl : lv_has ls 4 [(0, .ref (G.2.2.2.2.1 0)), (1, .int x1), (2, .int x2), (3, .int x3)]) : W p l e R s m args below meth c H locs 0 0 Q (F0 m 15 ls [.int s0, .ref (G.2.2.2.2.1 0)]) := by
  unfold fX10_tells_15 at hf
  refine lv_iconst (v := 3) B.1.1 B.1.2.1 dX10_tells_15 (by decide) ?_
  obtain ⟨σ1, v2, h3, hf⟩ := hy_bd_some hf
  refine hy_cv (As := [.int s0, .int 3]) (rest := []) (o := (σ1, v2)) mw_fix hA B w (fun sz => mX10_throwsIf l G sz σ s0 3 _ h3) (cwV 2 B.1.2.2.2.2 gX10_tells_X10_throwsIf rfl rfl rfl (by decide +kernel) ⟨by have := hR.1; show 0 + 1 ≤ _; omega, by have := hR.2; show 8 + (3 + 11) + 0 ≤ _; omega⟩) rfl (mwq_0 G σ) rfl hl.1 rfl (Nat.le_of_ble_eq_true rfl) dX10_tells_16 ⟨Nat.zero_le _, Nat.zero_le _⟩ (fun H locs w => ?_)
  refine lv_if_eq (tgt := 24) B.1.1 B.1.2.1 dX10_tells_19 (by decide) (fun c4 => ?_) (fun c4 => ?_)
  · rw [if_pos c4] at hf
    refine lv_aload_n B.1.1 B.1.2.1 dX10_tells_24 rfl (lv_at hl 0 rfl) ?_
    refine hy_get (k := 33) (v := .ref (G.2.2.2.2.1 24)) B w (mwq_0 G) rfl in_X10_tells_X10 (by decide) (by decide +kernel) rfl dX10_tells_25 ?_
    refine lv_aload_n B.1.1 B.1.2.1 dX10_tells_28 rfl (lv_at hl 0 rfl) ?_
    refine hy_get (k := 38) (v := .int (σ1.2 10)) B w (mwq_0 G) rfl in_X10_tells_X10 (by decide) (by decide +kernel) rfl dX10_tells_29 ?_
    refine lv_iload_n B.1.1 B.1.2.1 dX10_tells_32 rfl (lv_at hl 1 rfl) ?_
    obtain ⟨h7, σ5, e6, hf⟩ := hy_pa_some hf
    refine hy_iast B w (mwq_24 G) (mws_24 G) h7 e6 dX10_tells_33 (fun H locs w => ?_)
    refine lv_aload_n B.1.1 B.1.2.1 dX10_tells_34 rfl (lv_at hl 0 rfl) ?_
    refine hy_get (k := 34) (v := .ref (G.2.2.2.2.1 25)) B w (mwq_0 G) rfl in_X10_tells_X10 (by decide) (by decide +kernel) rfl dX10_tells_35 ?_
    refine lv_aload_n B.1.1 B.1.2.1 dX10_tells_38 rfl (lv_at hl 0 rfl) ?_
    refine hy_get (k := 38) (v := .int (σ5.2 10)) B w (mwq_0 G) rfl in_X10_tells_X10 (by decide) (by decide +kernel) rfl dX10_tells_39 ?_
    refine lv_iload_n B.1.1 B.1.2.1 dX10_tells_42 rfl (lv_at hl 2 rfl) ?_
    obtain ⟨h10, σ8, e9, hf⟩ := hy_pa_some hf
    refine hy_iast B w (mwq_25 G) (mws_25 G) h10 e9 dX10_tells_43 (fun H locs w => ?_)
    refine lv_aload_n B.1.1 B.1.2.1 dX10_tells_44 rfl (lv_at hl 0 rfl) ?_
    refine hy_get (k := 35) (v := .ref (G.2.2.2.2.1 26)) B w (mwq_0 G) rfl in_X10_tells_X10 (by decide) (by decide +kernel) rfl dX10_tells_45 ?_
    refine lv_aload_n B.1.1 B.1.2.1 dX10_tells_48 rfl (lv_at hl 0 rfl) ?_
    refine hy_get (k := 38) (v := .int (σ8.2 10)) B w (mwq_0 G) rfl in_X10_tells_X10 (by decide) (by decide +kernel) rfl dX10_tells_49 ?_
    refine lv_iload_n B.1.1 B.1.2.1 dX10_tells_52 rfl (lv_at hl 3 rfl) ?_
    obtain ⟨h13, σ11, e12, hf⟩ := hy_pa_some hf
    refine hy_iast B w (mwq_26 G) (mws_26 G) h13 e12 dX10_tells_53 (fun H locs w => ?_)
    refine lv_aload_n B.1.1 B.1.2.1 dX10_tells_54 rfl (lv_at hl 0 rfl) ?_
    refine hy_get (k := 36) (v := .ref (G.2.2.2.2.1 27)) B w (mwq_0 G) rfl in_X10_tells_X10 (by decide) (by decide +kernel) rfl dX10_tells_55 ?_
    refine lv_aload_n B.1.1 B.1.2.1 dX10_tells_58 rfl (lv_at hl 0 rfl) ?_
    refine hy_get (k := 38) (v := .int (σ11.2 10)) B w (mwq_0 G) rfl in_X10_tells_X10 (by decide) (by decide +kernel) rfl dX10_tells_59 ?_
    refine lv_aload_n B.1.1 B.1.2.1 dX10_tells_62 rfl (lv_at hl 0 rfl) ?_
    refine hy_get (k := 39) (v := .int (σ11.2 11)) B w (mwq_0 G) rfl in_X10_tells_X10 (by decide) (by decide +kernel) rfl dX10_tells_63 ?_
    obtain ⟨h16, σ14, e15, hf⟩ := hy_pa_some hf
    refine hy_iast B w (mwq_27 G) (mws_27 G) h16 e15 dX10_tells_66 (fun H locs w => ?_)
    refine lv_aload_n B.1.1 B.1.2.1 dX10_tells_67 rfl (lv_at hl 0 rfl) ?_
    refine hy_get (k := 37) (v := .ref (G.2.2.2.2.1 28)) B w (mwq_0 G) rfl in_X10_tells_X10 (by decide) (by decide +kernel) rfl dX10_tells_68 ?_
    refine lv_aload_n B.1.1 B.1.2.1 dX10_tells_71 rfl (lv_at hl 0 rfl) ?_
    refine hy_get (k := 38) (v := .int (σ14.2 10)) B w (mwq_0 G) rfl in_X10_tells_X10 (by decide) (by decide +kernel) rfl dX10_tells_72 ?_
    refine lv_iconst (v := (-1)) B.1.1 B.1.2.1 dX10_tells_75 (by decide) ?_
    obtain ⟨h19, σ17, e18, hf⟩ := hy_pa_some hf
    refine hy_iast B w (mwq_28 G) (mws_28 G) h19 e18 dX10_tells_76 (fun H locs w => ?_)
    refine lv_aload_n B.1.1 B.1.2.1 dX10_tells_77 rfl (lv_at hl 0 rfl) ?_
    refine lv_dup B.1.1 B.1.2.1 dX10_tells_78 rfl ?_
    refine hy_get (k := 38) (v := .int (σ17.2 10)) B w (mwq_0 G) rfl in_X10_tells_X10 (by decide) (by decide +kernel) rfl dX10_tells_79 ?_
    refine lv_iconst (v := 1) B.1.1 B.1.2.1 dX10_tells_82 (by decide) ?_
    refine lv_iadd B.1.1 B.1.2.1 dX10_tells_83 ?_
    obtain ⟨σ20, e21, hf⟩ := hy_pf_some hf
    refine hy_put (k := 38) B w (mwq_0 G) rfl in_X10_tells_X10 tyX10 tyX10_ok nmX10 (by decide) (by decide +kernel) rfl rfl (by show 38 < 43; decide) (mwp_10 G) e21 dX10_tells_84 (fun H locs w => ?_)
    refine lv_aload_n B.1.1 B.1.2.1 dX10_tells_87 rfl (lv_at hl 0 rfl) ?_
    refine hy_get (k := 38) (v := .int (σ20.2 10)) B w (mwq_0 G) rfl in_X10_tells_X10 (by decide) (by decide +kernel) rfl dX10_tells_88 ?_
    refine lv_iconst (v := 1) B.1.1 B.1.2.1 dX10_tells_91 (by decide) ?_
    refine lv_isub B.1.1 B.1.2.1 dX10_tells_92 ?_
    exact hret _ _ _ _ _ _ (Option.some.inj hf).symm w dX10_tells_93
  · rw [if_neg c4] at hf
    refine lv_iconst (v := 0) B.1.1 B.1.2.1 dX10_tells_22 (by decide) ?_
    exact hret _ _ _ _ _ _ (Option.some.inj hf).symm w dX10_tells_23
set_option maxHeartbeats 4000000 in
set_option maxRecDepth 100000 in
theorem bX10_tells_0 (hA : ∀ q : Nat, s.heap.size ≤ q → A q) (B : hy_B RX10 cX10_tells 4 wsX10_tells G A p s m args c) (hR : 1 ≤ R.frames ∧ 22 ≤ R.locals) {o : hy_S × Int32}  (hret : ∀ (σ : hy_S) (v : Int32) (pc : Nat) (H : Heap) (locs : List Loc) (ls : Array Slot), o = (σ, v) → hy_w mw G A s σ H locs → decode cX10_tells pc = .ok (.ireturn, 1) → W p l e R s m args below meth c H locs 0 0 Q (F0 m pc ls [.int v])) (σ : hy_S) (x1 : Int32) (x2 : Int32) (x3 : Int32) (H : Heap) (locs : List Loc) (ls : Array Slot) (hf : fX10_tells σ x1 x2 x3 = some o) (w : hy_w mw G A s σ H locs) (hl : lv_has ls 4 [(0, .ref (G.2.2.2.2.1 0)), (1, .int x1), (2, .int x2), (3, .int x3)]) : W p l e R s m args below meth c H locs 0 0 Q (F0 m 0 ls []) := by
  unfold fX10_tells at hf
  refine lv_aload_n B.1.1 B.1.2.1 dX10_tells_0 rfl (lv_at hl 0 rfl) ?_
  refine lv_aload_n B.1.1 B.1.2.1 dX10_tells_1 rfl (lv_at hl 0 rfl) ?_
  refine hy_get (k := 38) (v := .int (σ.2 10)) B w (mwq_0 G) rfl in_X10_tells_X10 (by decide) (by decide +kernel) rfl dX10_tells_2 ?_
  refine lv_bipush (v := 60) B.1.1 B.1.2.1 dX10_tells_5 (by decide) ?_
  refine lv_icmp_ne (tgt := 14) B.1.1 B.1.2.1 dX10_tells_7 (by decide) (fun c1 => ?_) (fun c1 => ?_)
  · rw [if_neg c1] at hf
    refine lv_iconst (v := 0) B.1.1 B.1.2.1 dX10_tells_14 (by decide) ?_
    exact bX10_tells_15 hA B hR  hret _ _ _ _ _ _ _ _ hf w (lv_sub hl [0, 1, 2, 3] rfl)
  · rw [if_pos c1] at hf
    refine lv_iconst (v := 1) B.1.1 B.1.2.1 dX10_tells_10 (by decide) ?_
    refine lv_goto (tgt := 15) B.1.1 B.1.2.1 dX10_tells_11 (by decide) ?_
    exact bX10_tells_15 hA B hR  hret _ _ _ _ _ _ _ _ hf w (lv_sub hl [0, 1, 2, 3] rfl)
set_option maxHeartbeats 4000000 in
set_option maxRecDepth 100000 in
theorem mX10_tells (l : Launch) (G : hy_G) (sz : Nat) (σ : hy_S) (x1 : Int32) (x2 : Int32) (x3 : Int32) (o : hy_S × Int32) (hf : fX10_tells σ x1 x2 x3 = some o) : hy_M l yX10_tells wsX10_tells ({ frames := 1, cells := 0, slots := 0, locals := 22 }) mw G σ sz [.ref (G.2.2.2.2.1 0), .int x1, .int x2, .int x3] o := by
  refine Met.ofW (cc := cX10_tells) (maxL := 4) (ret := (some .int)) (by decide +kernel) rfl ?_
  intro p e s m args below meth c s₁ B hml hv
  obtain ⟨rfl, hsz, hP, hK, hD0, hN⟩ := hv
  have hx := B.exec
  have hb := B.bytes
  have hr := B.returns
  have hts := atoms_spec (ws := wsX10_tells) B.pre
  have hown : s.vm.findClass RX10 = some m.cls := findClass_of_methodNamed B.named
  have hlocks := B.notSynchronized
  subst hsz
  have hD := hD0.self (sz := s.heap.size)
  have hA : ∀ q : Nat, s.heap.size ≤ q → va_A (mw G σ) s.heap.size q := fun q h => Or.inr h
  have hS : va_S (va_A (mw G σ) s.heap.size) s.heap s.heap [] := va_S.rf
  have hl := lv_entry ([.ref (G.2.2.2.2.1 0), .int x1, .int x2, .int x3]) (n := 4) (Nat.le_of_ble_eq_true rfl)
  rw [lg_entry_eq]
  generalize (lg_sl ([.ref (G.2.2.2.2.1 0), .int x1, .int x2, .int x3]) ++ List.replicate (4 - (lg_sl ([.ref (G.2.2.2.2.1 0), .int x1, .int x2, .int x3])).length) Slot.unset).toArray = ls at hl ⊢
  have hl : lv_has ls 4 [(0, .ref (G.2.2.2.2.1 0)), (1, .int x1), (2, .int x2), (3, .int x3)] := hl
  refine bX10_tells_0 (A := va_A (mw G σ) s.heap.size) hA ⟨⟨hx, hb, hml, hown, hts⟩, hK, hN⟩ ⟨Nat.le_of_ble_eq_true rfl, Nat.le_of_ble_eq_true rfl⟩ (o := o) (fun τ v pc H locs ls ho w d => ?_) σ x1 x2 x3 _ _ _ hf ⟨hP, hD, hS⟩ hl
  exact W.iret hx hb hr (fun t ht hW => ⟨⟨v, τ, rfl, ⟨by rw [ho], by rw [ho]⟩, by have h9 := w.1; rw [← ht] at h9; exact h9⟩, w.2.2.F ht⟩) w.2.2.2.2 d
theorem in_X10_tell_X10 : ∀ w ∈ u_ws RX10 TX10 43, w ∈ wsX10_tell := fun _ h => xt1 (xr (h))
noncomputable def fX10_tell_56 (σ : hy_S) (s0 : Int32) (x1 : Int32) (x2 : Int32) (x3 : Int32) : Option (hy_S × Int32) := hy_bd (fX10_throwsIf σ s0 2) (fun σ1 v2 => (if v2 = 0 then hy_bd (fX10_tells σ1 x1 x2 x3) (fun σ5 v6 => some (σ5, v6)) else some (σ1, 0)))
noncomputable def fX10_tell_51 (σ : hy_S) (x1 : Int32) (x2 : Int32) (x3 : Int32) : Option (hy_S × Int32) := fX10_tell_56 σ 1 x1 x2 x3
noncomputable def fX10_tell_25 (σ : hy_S) (s0 : Int32) (x1 : Int32) (x2 : Int32) (x3 : Int32) : Option (hy_S × Int32) := hy_bd (fX10_throwsIf σ s0 1) (fun σ1 v2 => (if v2 = 0 then (if x1 = x2 then fX10_tell_51 σ1 x1 x2 x3 else hy_bd (fX10_in σ1 x3 (-500) 500) (fun σ6 v7 => (if v7 = 0 then fX10_tell_51 σ6 x1 x2 x3 else fX10_tell_56 σ6 0 x1 x2 x3))) else some (σ1, 0)))
noncomputable def fX10_tell_20 (σ : hy_S) (x1 : Int32) (x2 : Int32) (x3 : Int32) : Option (hy_S × Int32) := fX10_tell_25 σ 1 x1 x2 x3
noncomputable def fX10_tell (σ : hy_S) (x1 : Int32) (x2 : Int32) (x3 : Int32) : Option (hy_S × Int32) := hy_pf σ 0 0 (fun σ1 => hy_bd (fX10_noStamp σ1 x1) (fun σ3 v4 => (if v4 = 0 then hy_bd (fX10_noStamp σ3 x2) (fun σ7 v8 => (if v8 = 0 then fX10_tell_25 σ7 0 x1 x2 x3 else fX10_tell_20 σ7 x1 x2 x3)) else fX10_tell_20 σ3 x1 x2 x3)))
set_option maxHeartbeats 4000000 in
set_option maxRecDepth 100000 in
theorem bX10_tell_56 (hA : ∀ q : Nat, s.heap.size ≤ q → A q) (B : hy_B RX10 cX10_tell 4 wsX10_tell G A p s m args c) (hR : 2 ≤ R.frames ∧ 45 ≤ R.locals) {o : hy_S × Int32}  (hret : ∀ (σ : hy_S) (v : Int32) (pc : Nat) (H : Heap) (locs : List Loc) (ls : Array Slot), o = (σ, v) → hy_w mw G A s σ H locs → decode cX10_tell pc = .ok (.ireturn, 1) → W p l e R s m args below meth c H locs 0 0 Q (F0 m pc ls [.int v])) (σ : hy_S) (s0 : Int32) (x1 : Int32) (x2 : Int32) (x3 : Int32) (H : Heap) (locs : List Loc) (ls : Array Slot) (hf : fX10_tell_56 σ s0 x1 x2 x3 = some o) (w : hy_w mw G A s σ H locs) (hl : lv_has ls 4 [(0, .ref (G.2.2.2.2.1 0)), (1, .int x1), (2, .int x2), (3, .int x3)]) : W p l e R s m args below meth c H locs 0 0 Q (F0 m 56 ls [.int s0, .ref (G.2.2.2.2.1 0)]) := by
  unfold fX10_tell_56 at hf
  refine lv_iconst (v := 2) B.1.1 B.1.2.1 dX10_tell_56 (by decide) ?_
  obtain ⟨σ1, v2, h3, hf⟩ := hy_bd_some hf
  refine hy_cv (As := [.int s0, .int 2]) (rest := []) (o := (σ1, v2)) mw_fix hA B w (fun sz => mX10_throwsIf l G sz σ s0 2 _ h3) (cwV 2 B.1.2.2.2.2 gX10_tell_X10_throwsIf rfl rfl rfl (by decide +kernel) ⟨by have := hR.1; show 0 + 1 ≤ _; omega, by have := hR.2; show 8 + (3 + 11) + 0 ≤ _; omega⟩) rfl (mwq_0 G σ) rfl hl.1 rfl (Nat.le_of_ble_eq_true rfl) dX10_tell_57 ⟨Nat.zero_le _, Nat.zero_le _⟩ (fun H locs w => ?_)
  refine lv_if_eq (tgt := 65) B.1.1 B.1.2.1 dX10_tell_60 (by decide) (fun c4 => ?_) (fun c4 => ?_)
  · rw [if_pos c4] at hf
    refine lv_aload_n B.1.1 B.1.2.1 dX10_tell_65 rfl (lv_at hl 0 rfl) ?_
    refine lv_iload_n B.1.1 B.1.2.1 dX10_tell_66 rfl (lv_at hl 1 rfl) ?_
    refine lv_iload_n B.1.1 B.1.2.1 dX10_tell_67 rfl (lv_at hl 2 rfl) ?_
    refine lv_iload_n B.1.1 B.1.2.1 dX10_tell_68 rfl (lv_at hl 3 rfl) ?_
    obtain ⟨σ5, v6, h7, hf⟩ := hy_bd_some hf
    refine hy_cv (As := [.int x1, .int x2, .int x3]) (rest := []) (o := (σ5, v6)) mw_fix hA B w (fun sz => mX10_tells l G sz σ1 x1 x2 x3 _ h7) (cwV 3 B.1.2.2.2.2 gX10_tell_X10_tells rfl rfl rfl (by decide +kernel) ⟨by have := hR.1; show 1 + 1 ≤ _; omega, by have := hR.2; show 8 + (4 + 11) + 22 ≤ _; omega⟩) rfl (mwq_0 G σ1) rfl hl.1 rfl (Nat.le_of_ble_eq_true rfl) dX10_tell_69 ⟨Nat.zero_le _, Nat.zero_le _⟩ (fun H locs w => ?_)
    exact hret _ _ _ _ _ _ (Option.some.inj hf).symm w dX10_tell_72
  · rw [if_neg c4] at hf
    refine lv_iconst (v := 0) B.1.1 B.1.2.1 dX10_tell_63 (by decide) ?_
    exact hret _ _ _ _ _ _ (Option.some.inj hf).symm w dX10_tell_64
set_option maxHeartbeats 4000000 in
set_option maxRecDepth 100000 in
theorem bX10_tell_51 (hA : ∀ q : Nat, s.heap.size ≤ q → A q) (B : hy_B RX10 cX10_tell 4 wsX10_tell G A p s m args c) (hR : 2 ≤ R.frames ∧ 45 ≤ R.locals) {o : hy_S × Int32}  (hret : ∀ (σ : hy_S) (v : Int32) (pc : Nat) (H : Heap) (locs : List Loc) (ls : Array Slot), o = (σ, v) → hy_w mw G A s σ H locs → decode cX10_tell pc = .ok (.ireturn, 1) → W p l e R s m args below meth c H locs 0 0 Q (F0 m pc ls [.int v])) (σ : hy_S) (x1 : Int32) (x2 : Int32) (x3 : Int32) (H : Heap) (locs : List Loc) (ls : Array Slot) (hf : fX10_tell_51 σ x1 x2 x3 = some o) (w : hy_w mw G A s σ H locs) (hl : lv_has ls 4 [(0, .ref (G.2.2.2.2.1 0)), (1, .int x1), (2, .int x2), (3, .int x3)]) : W p l e R s m args below meth c H locs 0 0 Q (F0 m 51 ls [.ref (G.2.2.2.2.1 0)]) := by
  unfold fX10_tell_51 at hf
  refine lv_iconst (v := 1) B.1.1 B.1.2.1 dX10_tell_51 (by decide) ?_
  refine lv_goto (tgt := 56) B.1.1 B.1.2.1 dX10_tell_52 (by decide) ?_
  exact bX10_tell_56 hA B hR  hret _ _ _ _ _ _ _ _ hf w (lv_sub hl [0, 1, 2, 3] rfl)
set_option maxHeartbeats 4000000 in
set_option maxRecDepth 100000 in
theorem bX10_tell_25 (hA : ∀ q : Nat, s.heap.size ≤ q → A q) (B : hy_B RX10 cX10_tell 4 wsX10_tell G A p s m args c) (hR : 2 ≤ R.frames ∧ 45 ≤ R.locals) {o : hy_S × Int32}  (hret : ∀ (σ : hy_S) (v : Int32) (pc : Nat) (H : Heap) (locs : List Loc) (ls : Array Slot), o = (σ, v) → hy_w mw G A s σ H locs → decode cX10_tell pc = .ok (.ireturn, 1) → W p l e R s m args below meth c H locs 0 0 Q (F0 m pc ls [.int v])) (σ : hy_S) (s0 : Int32) (x1 : Int32) (x2 : Int32) (x3 : Int32) (H : Heap) (locs : List Loc) (ls : Array Slot) (hf : fX10_tell_25 σ s0 x1 x2 x3 = some o) (w : hy_w mw G A s σ H locs) (hl : lv_has ls 4 [(0, .ref (G.2.2.2.2.1 0)), (1, .int x1), (2, .int x2), (3, .int x3)]) : W p l e R s m args below meth c H locs 0 0 Q (F0 m 25 ls [.int s0, .ref (G.2.2.2.2.1 0)]) := by
  unfold fX10_tell_25 at hf
  refine lv_iconst (v := 1) B.1.1 B.1.2.1 dX10_tell_25 (by decide) ?_
  obtain ⟨σ1, v2, h3, hf⟩ := hy_bd_some hf
  refine hy_cv (As := [.int s0, .int 1]) (rest := []) (o := (σ1, v2)) mw_fix hA B w (fun sz => mX10_throwsIf l G sz σ s0 1 _ h3) (cwV 2 B.1.2.2.2.2 gX10_tell_X10_throwsIf rfl rfl rfl (by decide +kernel) ⟨by have := hR.1; show 0 + 1 ≤ _; omega, by have := hR.2; show 8 + (3 + 11) + 0 ≤ _; omega⟩) rfl (mwq_0 G σ) rfl hl.1 rfl (Nat.le_of_ble_eq_true rfl) dX10_tell_26 ⟨Nat.zero_le _, Nat.zero_le _⟩ (fun H locs w => ?_)
  refine lv_if_ne (tgt := 63) B.1.1 B.1.2.1 dX10_tell_29 (by decide) (fun c4 => ?_) (fun c4 => ?_)
  · rw [if_neg c4] at hf
    refine lv_iconst (v := 0) B.1.1 B.1.2.1 dX10_tell_63 (by decide) ?_
    exact hret _ _ _ _ _ _ (Option.some.inj hf).symm w dX10_tell_64
  · rw [if_pos c4] at hf
    refine lv_aload_n B.1.1 B.1.2.1 dX10_tell_32 rfl (lv_at hl 0 rfl) ?_
    refine lv_iload_n B.1.1 B.1.2.1 dX10_tell_33 rfl (lv_at hl 1 rfl) ?_
    refine lv_iload_n B.1.1 B.1.2.1 dX10_tell_34 rfl (lv_at hl 2 rfl) ?_
    refine lv_icmp_eq (tgt := 51) B.1.1 B.1.2.1 dX10_tell_35 (by decide) (fun c5 => ?_) (fun c5 => ?_)
    · rw [if_pos c5] at hf
      exact bX10_tell_51 hA B hR  hret _ _ _ _ _ _ _ hf w (lv_sub hl [0, 1, 2, 3] rfl)
    · rw [if_neg c5] at hf
      refine lv_iload_n B.1.1 B.1.2.1 dX10_tell_38 rfl (lv_at hl 3 rfl) ?_
      refine lv_sipush (v := (-500)) B.1.1 B.1.2.1 dX10_tell_39 (by decide) ?_
      refine lv_sipush (v := 500) B.1.1 B.1.2.1 dX10_tell_42 (by decide) ?_
      obtain ⟨σ6, v7, h8, hf⟩ := hy_bd_some hf
      refine hy_cs (As := [.int x3, .int (-500), .int 500]) (rest := [.ref (G.2.2.2.2.1 0)]) (o := (σ6, v7)) mw_fix hA B w (fun sz => mX10_in l G sz σ1 x3 (-500) 500 _ h8) (cwS 3 B.1.2.2.2.2 gX10_tell_X10_in rfl rfl rfl (by decide +kernel) ⟨by have := hR.1; show 0 + 1 ≤ _; omega, by have := hR.2; show 8 + (3 + 11) + 0 ≤ _; omega⟩) rfl hl.1 rfl (Nat.le_of_ble_eq_true rfl) dX10_tell_45 ⟨Nat.zero_le _, Nat.zero_le _⟩ (fun H locs w => ?_)
      refine lv_if_ne (tgt := 55) B.1.1 B.1.2.1 dX10_tell_48 (by decide) (fun c9 => ?_) (fun c9 => ?_)
      · rw [if_neg c9] at hf
        refine lv_iconst (v := 0) B.1.1 B.1.2.1 dX10_tell_55 (by decide) ?_
        exact bX10_tell_56 hA B hR  hret _ _ _ _ _ _ _ _ hf w (lv_sub hl [0, 1, 2, 3] rfl)
      · rw [if_pos c9] at hf
        exact bX10_tell_51 hA B hR  hret _ _ _ _ _ _ _ hf w (lv_sub hl [0, 1, 2, 3] rfl)
set_option maxHeartbeats 4000000 in
set_option maxRecDepth 100000 in
theorem bX10_tell_20 (hA : ∀ q : Nat, s.heap.size ≤ q → A q) (B : hy_B RX10 cX10_tell 4 wsX10_tell G A p s m args c) (hR : 2 ≤ R.frames ∧ 45 ≤ R.locals) {o : hy_S × Int32}  (hret : ∀ (σ : hy_S) (v : Int32) (pc : Nat) (H : Heap) (locs : List Loc) (ls : Array Slot), o = (σ, v) → hy_w mw G A s σ H locs → decode cX10_tell pc = .ok (.ireturn, 1) → W p l e R s m args below meth c H locs 0 0 Q (F0 m pc ls [.int v])) (σ : hy_S) (x1 : Int32) (x2 : Int32) (x3 : Int32) (H : Heap) (locs : List Loc) (ls : Array Slot) (hf : fX10_tell_20 σ x1 x2 x3 = some o) (w : hy_w mw G A s σ H locs) (hl : lv_has ls 4 [(0, .ref (G.2.2.2.2.1 0)), (1, .int x1), (2, .int x2), (3, .int x3)]) : W p l e R s m args below meth c H locs 0 0 Q (F0 m 20 ls [.ref (G.2.2.2.2.1 0)]) := by
  unfold fX10_tell_20 at hf
  refine lv_iconst (v := 1) B.1.1 B.1.2.1 dX10_tell_20 (by decide) ?_
  refine lv_goto (tgt := 25) B.1.1 B.1.2.1 dX10_tell_21 (by decide) ?_
  exact bX10_tell_25 hA B hR  hret _ _ _ _ _ _ _ _ hf w (lv_sub hl [0, 1, 2, 3] rfl)
set_option maxHeartbeats 4000000 in
set_option maxRecDepth 100000 in
theorem bX10_tell_0 (hA : ∀ q : Nat, s.heap.size ≤ q → A q) (B : hy_B RX10 cX10_tell 4 wsX10_tell G A p s m args c) (hR : 2 ≤ R.frames ∧ 45 ≤ R.locals) {o : hy_S × Int32}  (hret : ∀ (σ : hy_S) (v : Int32) (pc : Nat) (H : Heap) (locs : List Loc) (ls : Array Slot), o = (σ, v) → hy_w mw G A s σ H locs → decode cX10_tell pc = .ok (.ireturn, 1) → W p l e R s m args below meth c H locs 0 0 Q (F0 m pc ls [.int v])) (σ : hy_S) (x1 : Int32) (x2 : Int32) (x3 : Int32) (H : Heap) (locs : List Loc) (ls : Array Slot) (hf : fX10_tell σ x1 x2 x3 = some o) (w : hy_w mw G A s σ H locs) (hl : lv_has ls 4 [(0, .ref (G.2.2.2.2.1 0)), (1, .int x1), (2, .int x2), (3, .int x3)]) : W p l e R s m args below meth c H locs 0 0 Q (F0 m 0 ls []) := by
  unfold fX10_tell at hf
  refine lv_aload_n B.1.1 B.1.2.1 dX10_tell_0 rfl (lv_at hl 0 rfl) ?_
  refine lv_iconst (v := 0) B.1.1 B.1.2.1 dX10_tell_1 (by decide) ?_
  obtain ⟨σ1, e2, hf⟩ := hy_pf_some hf
  refine hy_put (k := 0) B w (mwq_0 G) rfl in_X10_tell_X10 tyX10 tyX10_ok nmX10 (by decide) (by decide +kernel) rfl rfl (by show 0 < 43; decide) (mwp_0 G) e2 dX10_tell_2 (fun H locs w => ?_)
  refine lv_aload_n B.1.1 B.1.2.1 dX10_tell_5 rfl (lv_at hl 0 rfl) ?_
  refine lv_iload_n B.1.1 B.1.2.1 dX10_tell_6 rfl (lv_at hl 1 rfl) ?_
  obtain ⟨σ3, v4, h5, hf⟩ := hy_bd_some hf
  refine hy_cs (As := [.int x1]) (rest := [.ref (G.2.2.2.2.1 0)]) (o := (σ3, v4)) mw_fix hA B w (fun sz => mX10_noStamp l G sz σ1 x1 _ h5) (cwS 1 B.1.2.2.2.2 gX10_tell_X10_noStamp rfl rfl rfl (by decide +kernel) ⟨by have := hR.1; show 1 + 1 ≤ _; omega, by have := hR.2; show 8 + (1 + 11) + 22 ≤ _; omega⟩) rfl hl.1 rfl (Nat.le_of_ble_eq_true rfl) dX10_tell_7 ⟨Nat.zero_le _, Nat.zero_le _⟩ (fun H locs w => ?_)
  refine lv_if_ne (tgt := 20) B.1.1 B.1.2.1 dX10_tell_10 (by decide) (fun c6 => ?_) (fun c6 => ?_)
  · rw [if_neg c6] at hf
    exact bX10_tell_20 hA B hR  hret _ _ _ _ _ _ _ hf w (lv_sub hl [0, 1, 2, 3] rfl)
  · rw [if_pos c6] at hf
    refine lv_iload_n B.1.1 B.1.2.1 dX10_tell_13 rfl (lv_at hl 2 rfl) ?_
    obtain ⟨σ7, v8, h9, hf⟩ := hy_bd_some hf
    refine hy_cs (As := [.int x2]) (rest := [.ref (G.2.2.2.2.1 0)]) (o := (σ7, v8)) mw_fix hA B w (fun sz => mX10_noStamp l G sz σ3 x2 _ h9) (cwS 1 B.1.2.2.2.2 gX10_tell_X10_noStamp rfl rfl rfl (by decide +kernel) ⟨by have := hR.1; show 1 + 1 ≤ _; omega, by have := hR.2; show 8 + (1 + 11) + 22 ≤ _; omega⟩) rfl hl.1 rfl (Nat.le_of_ble_eq_true rfl) dX10_tell_14 ⟨Nat.zero_le _, Nat.zero_le _⟩ (fun H locs w => ?_)
    refine lv_if_eq (tgt := 24) B.1.1 B.1.2.1 dX10_tell_17 (by decide) (fun c10 => ?_) (fun c10 => ?_)
    · rw [if_pos c10] at hf
      refine lv_iconst (v := 0) B.1.1 B.1.2.1 dX10_tell_24 (by decide) ?_
      exact bX10_tell_25 hA B hR  hret _ _ _ _ _ _ _ _ hf w (lv_sub hl [0, 1, 2, 3] rfl)
    · rw [if_neg c10] at hf
      exact bX10_tell_20 hA B hR  hret _ _ _ _ _ _ _ hf w (lv_sub hl [0, 1, 2, 3] rfl)
set_option maxHeartbeats 4000000 in
set_option maxRecDepth 100000 in
theorem mX10_tell (l : Launch) (G : hy_G) (sz : Nat) (σ : hy_S) (x1 : Int32) (x2 : Int32) (x3 : Int32) (o : hy_S × Int32) (hf : fX10_tell σ x1 x2 x3 = some o) : hy_M l yX10_tell wsX10_tell ({ frames := 2, cells := 0, slots := 0, locals := 45 }) mw G σ sz [.ref (G.2.2.2.2.1 0), .int x1, .int x2, .int x3] o := by
  refine Met.ofW (cc := cX10_tell) (maxL := 4) (ret := (some .int)) (by decide +kernel) rfl ?_
  intro p e s m args below meth c s₁ B hml hv
  obtain ⟨rfl, hsz, hP, hK, hD0, hN⟩ := hv
  have hx := B.exec
  have hb := B.bytes
  have hr := B.returns
  have hts := atoms_spec (ws := wsX10_tell) B.pre
  have hown : s.vm.findClass RX10 = some m.cls := findClass_of_methodNamed B.named
  have hlocks := B.notSynchronized
  subst hsz
  have hD := hD0.self (sz := s.heap.size)
  have hA : ∀ q : Nat, s.heap.size ≤ q → va_A (mw G σ) s.heap.size q := fun q h => Or.inr h
  have hS : va_S (va_A (mw G σ) s.heap.size) s.heap s.heap [] := va_S.rf
  have hl := lv_entry ([.ref (G.2.2.2.2.1 0), .int x1, .int x2, .int x3]) (n := 4) (Nat.le_of_ble_eq_true rfl)
  rw [lg_entry_eq]
  generalize (lg_sl ([.ref (G.2.2.2.2.1 0), .int x1, .int x2, .int x3]) ++ List.replicate (4 - (lg_sl ([.ref (G.2.2.2.2.1 0), .int x1, .int x2, .int x3])).length) Slot.unset).toArray = ls at hl ⊢
  have hl : lv_has ls 4 [(0, .ref (G.2.2.2.2.1 0)), (1, .int x1), (2, .int x2), (3, .int x3)] := hl
  refine bX10_tell_0 (A := va_A (mw G σ) s.heap.size) hA ⟨⟨hx, hb, hml, hown, hts⟩, hK, hN⟩ ⟨Nat.le_of_ble_eq_true rfl, Nat.le_of_ble_eq_true rfl⟩ (o := o) (fun τ v pc H locs ls ho w d => ?_) σ x1 x2 x3 _ _ _ hf ⟨hP, hD, hS⟩ hl
  exact W.iret hx hb hr (fun t ht hW => ⟨⟨v, τ, rfl, ⟨by rw [ho], by rw [ho]⟩, by have h9 := w.1; rw [← ht] at h9; exact h9⟩, w.2.2.F ht⟩) w.2.2.2.2 d
theorem in_X10_bound_X10 : ∀ w ∈ u_ws RX10 TX10 43, w ∈ wsX10_bound := fun _ h => xt1 (xr (h))
noncomputable def fX10_bound_34 (σ : hy_S) (s0 : Int32) (x1 : Int32) (x2 : Int32) (x3 : Int32) : Option (hy_S × Int32) := hy_bd (fX10_throwsIf σ s0 2) (fun σ1 v2 => (if v2 = 0 then (if x3 = 0 then hy_bd (fX10_tells σ1 12 x1 x2) (fun σ6 v7 => some (σ6, v7)) else hy_bd (fX10_tells σ1 x1 12 (-x2)) (fun σ9 v10 => some (σ9, v10))) else some (σ1, 0)))
noncomputable def fX10_bound (σ : hy_S) (x1 : Int32) (x2 : Int32) (x3 : Int32) : Option (hy_S × Int32) := hy_pf σ 0 0 (fun σ1 => hy_bd (fX10_noStamp σ1 x1) (fun σ3 v4 => hy_bd (fX10_throwsIf σ3 v4 1) (fun σ6 v7 => (if v7 = 0 then hy_bd (fX10_in σ6 x2 0 1000) (fun σ10 v11 => (if v11 = 0 then fX10_bound_34 σ10 1 x1 x2 x3 else fX10_bound_34 σ10 0 x1 x2 x3)) else some (σ6, 0)))))
set_option maxHeartbeats 4000000 in
set_option maxRecDepth 100000 in
theorem bX10_bound_34 (hA : ∀ q : Nat, s.heap.size ≤ q → A q) (B : hy_B RX10 cX10_bound 4 wsX10_bound G A p s m args c) (hR : 2 ≤ R.frames ∧ 45 ≤ R.locals) {o : hy_S × Int32}  (hret : ∀ (σ : hy_S) (v : Int32) (pc : Nat) (H : Heap) (locs : List Loc) (ls : Array Slot), o = (σ, v) → hy_w mw G A s σ H locs → decode cX10_bound pc = .ok (.ireturn, 1) → W p l e R s m args below meth c H locs 0 0 Q (F0 m pc ls [.int v])) (σ : hy_S) (s0 : Int32) (x1 : Int32) (x2 : Int32) (x3 : Int32) (H : Heap) (locs : List Loc) (ls : Array Slot) (hf : fX10_bound_34 σ s0 x1 x2 x3 = some o) (w : hy_w mw G A s σ H locs) (hl : lv_has ls 4 [(0, .ref (G.2.2.2.2.1 0)), (1, .int x1), (2, .int x2), (3, .int x3)]) : W p l e R s m args below meth c H locs 0 0 Q (F0 m 34 ls [.int s0, .ref (G.2.2.2.2.1 0)]) := by
  unfold fX10_bound_34 at hf
  refine lv_iconst (v := 2) B.1.1 B.1.2.1 dX10_bound_34 (by decide) ?_
  obtain ⟨σ1, v2, h3, hf⟩ := hy_bd_some hf
  refine hy_cv (As := [.int s0, .int 2]) (rest := []) (o := (σ1, v2)) mw_fix hA B w (fun sz => mX10_throwsIf l G sz σ s0 2 _ h3) (cwV 2 B.1.2.2.2.2 gX10_bound_X10_throwsIf rfl rfl rfl (by decide +kernel) ⟨by have := hR.1; show 0 + 1 ≤ _; omega, by have := hR.2; show 8 + (3 + 11) + 0 ≤ _; omega⟩) rfl (mwq_0 G σ) rfl hl.1 rfl (Nat.le_of_ble_eq_true rfl) dX10_bound_35 ⟨Nat.zero_le _, Nat.zero_le _⟩ (fun H locs w => ?_)
  refine lv_if_eq (tgt := 43) B.1.1 B.1.2.1 dX10_bound_38 (by decide) (fun c4 => ?_) (fun c4 => ?_)
  · rw [if_pos c4] at hf
    refine lv_iload_n B.1.1 B.1.2.1 dX10_bound_43 rfl (lv_at hl 3 rfl) ?_
    refine lv_if_eq (tgt := 59) B.1.1 B.1.2.1 dX10_bound_44 (by decide) (fun c5 => ?_) (fun c5 => ?_)
    · rw [if_pos c5] at hf
      refine lv_aload_n B.1.1 B.1.2.1 dX10_bound_59 rfl (lv_at hl 0 rfl) ?_
      refine lv_bipush (v := 12) B.1.1 B.1.2.1 dX10_bound_60 (by decide) ?_
      refine lv_iload_n B.1.1 B.1.2.1 dX10_bound_62 rfl (lv_at hl 1 rfl) ?_
      refine lv_iload_n B.1.1 B.1.2.1 dX10_bound_63 rfl (lv_at hl 2 rfl) ?_
      obtain ⟨σ6, v7, h8, hf⟩ := hy_bd_some hf
      refine hy_cv (As := [.int 12, .int x1, .int x2]) (rest := []) (o := (σ6, v7)) mw_fix hA B w (fun sz => mX10_tells l G sz σ1 12 x1 x2 _ h8) (cwV 3 B.1.2.2.2.2 gX10_bound_X10_tells rfl rfl rfl (by decide +kernel) ⟨by have := hR.1; show 1 + 1 ≤ _; omega, by have := hR.2; show 8 + (4 + 11) + 22 ≤ _; omega⟩) rfl (mwq_0 G σ1) rfl hl.1 rfl (Nat.le_of_ble_eq_true rfl) dX10_bound_64 ⟨Nat.zero_le _, Nat.zero_le _⟩ (fun H locs w => ?_)
      exact hret _ _ _ _ _ _ (Option.some.inj hf).symm w dX10_bound_67
    · rw [if_neg c5] at hf
      refine lv_aload_n B.1.1 B.1.2.1 dX10_bound_47 rfl (lv_at hl 0 rfl) ?_
      refine lv_iload_n B.1.1 B.1.2.1 dX10_bound_48 rfl (lv_at hl 1 rfl) ?_
      refine lv_bipush (v := 12) B.1.1 B.1.2.1 dX10_bound_49 (by decide) ?_
      refine lv_iload_n B.1.1 B.1.2.1 dX10_bound_51 rfl (lv_at hl 2 rfl) ?_
      refine lv_ineg B.1.1 B.1.2.1 dX10_bound_52 ?_
      obtain ⟨σ9, v10, h11, hf⟩ := hy_bd_some hf
      refine hy_cv (As := [.int x1, .int 12, .int (-x2)]) (rest := []) (o := (σ9, v10)) mw_fix hA B w (fun sz => mX10_tells l G sz σ1 x1 12 (-x2) _ h11) (cwV 3 B.1.2.2.2.2 gX10_bound_X10_tells rfl rfl rfl (by decide +kernel) ⟨by have := hR.1; show 1 + 1 ≤ _; omega, by have := hR.2; show 8 + (4 + 11) + 22 ≤ _; omega⟩) rfl (mwq_0 G σ1) rfl hl.1 rfl (Nat.le_of_ble_eq_true rfl) dX10_bound_53 ⟨Nat.zero_le _, Nat.zero_le _⟩ (fun H locs w => ?_)
      refine lv_goto (tgt := 67) B.1.1 B.1.2.1 dX10_bound_56 (by decide) ?_
      exact hret _ _ _ _ _ _ (Option.some.inj hf).symm w dX10_bound_67
  · rw [if_neg c4] at hf
    refine lv_iconst (v := 0) B.1.1 B.1.2.1 dX10_bound_41 (by decide) ?_
    exact hret _ _ _ _ _ _ (Option.some.inj hf).symm w dX10_bound_42
set_option maxHeartbeats 4000000 in
set_option maxRecDepth 100000 in
theorem bX10_bound_0 (hA : ∀ q : Nat, s.heap.size ≤ q → A q) (B : hy_B RX10 cX10_bound 4 wsX10_bound G A p s m args c) (hR : 2 ≤ R.frames ∧ 45 ≤ R.locals) {o : hy_S × Int32}  (hret : ∀ (σ : hy_S) (v : Int32) (pc : Nat) (H : Heap) (locs : List Loc) (ls : Array Slot), o = (σ, v) → hy_w mw G A s σ H locs → decode cX10_bound pc = .ok (.ireturn, 1) → W p l e R s m args below meth c H locs 0 0 Q (F0 m pc ls [.int v])) (σ : hy_S) (x1 : Int32) (x2 : Int32) (x3 : Int32) (H : Heap) (locs : List Loc) (ls : Array Slot) (hf : fX10_bound σ x1 x2 x3 = some o) (w : hy_w mw G A s σ H locs) (hl : lv_has ls 4 [(0, .ref (G.2.2.2.2.1 0)), (1, .int x1), (2, .int x2), (3, .int x3)]) : W p l e R s m args below meth c H locs 0 0 Q (F0 m 0 ls []) := by
  unfold fX10_bound at hf
  refine lv_aload_n B.1.1 B.1.2.1 dX10_bound_0 rfl (lv_at hl 0 rfl) ?_
  refine lv_iconst (v := 0) B.1.1 B.1.2.1 dX10_bound_1 (by decide) ?_
  obtain ⟨σ1, e2, hf⟩ := hy_pf_some hf
  refine hy_put (k := 0) B w (mwq_0 G) rfl in_X10_bound_X10 tyX10 tyX10_ok nmX10 (by decide) (by decide +kernel) rfl rfl (by show 0 < 43; decide) (mwp_0 G) e2 dX10_bound_2 (fun H locs w => ?_)
  refine lv_aload_n B.1.1 B.1.2.1 dX10_bound_5 rfl (lv_at hl 0 rfl) ?_
  refine lv_iload_n B.1.1 B.1.2.1 dX10_bound_6 rfl (lv_at hl 1 rfl) ?_
  obtain ⟨σ3, v4, h5, hf⟩ := hy_bd_some hf
  refine hy_cs (As := [.int x1]) (rest := [.ref (G.2.2.2.2.1 0)]) (o := (σ3, v4)) mw_fix hA B w (fun sz => mX10_noStamp l G sz σ1 x1 _ h5) (cwS 1 B.1.2.2.2.2 gX10_bound_X10_noStamp rfl rfl rfl (by decide +kernel) ⟨by have := hR.1; show 1 + 1 ≤ _; omega, by have := hR.2; show 8 + (1 + 11) + 22 ≤ _; omega⟩) rfl hl.1 rfl (Nat.le_of_ble_eq_true rfl) dX10_bound_7 ⟨Nat.zero_le _, Nat.zero_le _⟩ (fun H locs w => ?_)
  refine lv_iconst (v := 1) B.1.1 B.1.2.1 dX10_bound_10 (by decide) ?_
  obtain ⟨σ6, v7, h8, hf⟩ := hy_bd_some hf
  refine hy_cv (As := [.int v4, .int 1]) (rest := []) (o := (σ6, v7)) mw_fix hA B w (fun sz => mX10_throwsIf l G sz σ3 v4 1 _ h8) (cwV 2 B.1.2.2.2.2 gX10_bound_X10_throwsIf rfl rfl rfl (by decide +kernel) ⟨by have := hR.1; show 0 + 1 ≤ _; omega, by have := hR.2; show 8 + (3 + 11) + 0 ≤ _; omega⟩) rfl (mwq_0 G σ3) rfl hl.1 rfl (Nat.le_of_ble_eq_true rfl) dX10_bound_11 ⟨Nat.zero_le _, Nat.zero_le _⟩ (fun H locs w => ?_)
  refine lv_if_ne (tgt := 41) B.1.1 B.1.2.1 dX10_bound_14 (by decide) (fun c9 => ?_) (fun c9 => ?_)
  · rw [if_neg c9] at hf
    refine lv_iconst (v := 0) B.1.1 B.1.2.1 dX10_bound_41 (by decide) ?_
    exact hret _ _ _ _ _ _ (Option.some.inj hf).symm w dX10_bound_42
  · rw [if_pos c9] at hf
    refine lv_aload_n B.1.1 B.1.2.1 dX10_bound_17 rfl (lv_at hl 0 rfl) ?_
    refine lv_iload_n B.1.1 B.1.2.1 dX10_bound_18 rfl (lv_at hl 2 rfl) ?_
    refine lv_iconst (v := 0) B.1.1 B.1.2.1 dX10_bound_19 (by decide) ?_
    refine lv_sipush (v := 1000) B.1.1 B.1.2.1 dX10_bound_20 (by decide) ?_
    obtain ⟨σ10, v11, h12, hf⟩ := hy_bd_some hf
    refine hy_cs (As := [.int x2, .int 0, .int 1000]) (rest := [.ref (G.2.2.2.2.1 0)]) (o := (σ10, v11)) mw_fix hA B w (fun sz => mX10_in l G sz σ6 x2 0 1000 _ h12) (cwS 3 B.1.2.2.2.2 gX10_bound_X10_in rfl rfl rfl (by decide +kernel) ⟨by have := hR.1; show 0 + 1 ≤ _; omega, by have := hR.2; show 8 + (3 + 11) + 0 ≤ _; omega⟩) rfl hl.1 rfl (Nat.le_of_ble_eq_true rfl) dX10_bound_23 ⟨Nat.zero_le _, Nat.zero_le _⟩ (fun H locs w => ?_)
    refine lv_if_ne (tgt := 33) B.1.1 B.1.2.1 dX10_bound_26 (by decide) (fun c13 => ?_) (fun c13 => ?_)
    · rw [if_neg c13] at hf
      refine lv_iconst (v := 0) B.1.1 B.1.2.1 dX10_bound_33 (by decide) ?_
      exact bX10_bound_34 hA B hR  hret _ _ _ _ _ _ _ _ hf w (lv_sub hl [0, 1, 2, 3] rfl)
    · rw [if_pos c13] at hf
      refine lv_iconst (v := 1) B.1.1 B.1.2.1 dX10_bound_29 (by decide) ?_
      refine lv_goto (tgt := 34) B.1.1 B.1.2.1 dX10_bound_30 (by decide) ?_
      exact bX10_bound_34 hA B hR  hret _ _ _ _ _ _ _ _ hf w (lv_sub hl [0, 1, 2, 3] rfl)
set_option maxHeartbeats 4000000 in
set_option maxRecDepth 100000 in
theorem mX10_bound (l : Launch) (G : hy_G) (sz : Nat) (σ : hy_S) (x1 : Int32) (x2 : Int32) (x3 : Int32) (o : hy_S × Int32) (hf : fX10_bound σ x1 x2 x3 = some o) : hy_M l yX10_bound wsX10_bound ({ frames := 2, cells := 0, slots := 0, locals := 45 }) mw G σ sz [.ref (G.2.2.2.2.1 0), .int x1, .int x2, .int x3] o := by
  refine Met.ofW (cc := cX10_bound) (maxL := 4) (ret := (some .int)) (by decide +kernel) rfl ?_
  intro p e s m args below meth c s₁ B hml hv
  obtain ⟨rfl, hsz, hP, hK, hD0, hN⟩ := hv
  have hx := B.exec
  have hb := B.bytes
  have hr := B.returns
  have hts := atoms_spec (ws := wsX10_bound) B.pre
  have hown : s.vm.findClass RX10 = some m.cls := findClass_of_methodNamed B.named
  have hlocks := B.notSynchronized
  subst hsz
  have hD := hD0.self (sz := s.heap.size)
  have hA : ∀ q : Nat, s.heap.size ≤ q → va_A (mw G σ) s.heap.size q := fun q h => Or.inr h
  have hS : va_S (va_A (mw G σ) s.heap.size) s.heap s.heap [] := va_S.rf
  have hl := lv_entry ([.ref (G.2.2.2.2.1 0), .int x1, .int x2, .int x3]) (n := 4) (Nat.le_of_ble_eq_true rfl)
  rw [lg_entry_eq]
  generalize (lg_sl ([.ref (G.2.2.2.2.1 0), .int x1, .int x2, .int x3]) ++ List.replicate (4 - (lg_sl ([.ref (G.2.2.2.2.1 0), .int x1, .int x2, .int x3])).length) Slot.unset).toArray = ls at hl ⊢
  have hl : lv_has ls 4 [(0, .ref (G.2.2.2.2.1 0)), (1, .int x1), (2, .int x2), (3, .int x3)] := hl
  refine bX10_bound_0 (A := va_A (mw G σ) s.heap.size) hA ⟨⟨hx, hb, hml, hown, hts⟩, hK, hN⟩ ⟨Nat.le_of_ble_eq_true rfl, Nat.le_of_ble_eq_true rfl⟩ (o := o) (fun τ v pc H locs ls ho w d => ?_) σ x1 x2 x3 _ _ _ hf ⟨hP, hD, hS⟩ hl
  exact W.iret hx hb hr (fun t ht hW => ⟨⟨v, τ, rfl, ⟨by rw [ho], by rw [ho]⟩, by have h9 := w.1; rw [← ht] at h9; exact h9⟩, w.2.2.F ht⟩) w.2.2.2.2 d
theorem in_X10_undo_X10 : ∀ w ∈ u_ws RX10 TX10 43, w ∈ wsX10_undo := fun _ h => xt1 (xr (h))
noncomputable def fX10_undo_25 (σ : hy_S) (s0 : Int32) (x1 : Int32) : Option (hy_S × Int32) := hy_bd (fX10_throwsIf σ s0 1) (fun σ1 v2 => (if v2 = 0 then hy_ga σ1 27 60 x1 (fun v5 => (if v5 < 0 then hy_pa σ1 27 60 x1 (σ1.2 11) (fun σ9 => some (σ9, 1)) else some (σ1, 0))) else some (σ1, 0)))
noncomputable def fX10_undo (σ : hy_S) (x1 : Int32) : Option (hy_S × Int32) := hy_pf σ 0 0 (fun σ1 => hy_bd (fX10_in σ1 x1 0 ((σ1.2 10) - 1)) (fun σ3 v4 => (if v4 = 0 then fX10_undo_25 σ3 1 x1 else fX10_undo_25 σ3 0 x1)))
set_option maxHeartbeats 4000000 in
set_option maxRecDepth 100000 in
theorem bX10_undo_25 (hA : ∀ q : Nat, s.heap.size ≤ q → A q) (B : hy_B RX10 cX10_undo 2 wsX10_undo G A p s m args c) (hR : 1 ≤ R.frames ∧ 22 ≤ R.locals) {o : hy_S × Int32}  (hret : ∀ (σ : hy_S) (v : Int32) (pc : Nat) (H : Heap) (locs : List Loc) (ls : Array Slot), o = (σ, v) → (v = 0 ∨ v = 1) → hy_w mw G A s σ H locs → decode cX10_undo pc = .ok (.ireturn, 1) → W p l e R s m args below meth c H locs 0 0 Q (F0 m pc ls [.int v])) (σ : hy_S) (s0 : Int32) (x1 : Int32) (H : Heap) (locs : List Loc) (ls : Array Slot) (hf : fX10_undo_25 σ s0 x1 = some o) (w : hy_w mw G A s σ H locs) (hl : lv_has ls 2 [(0, .ref (G.2.2.2.2.1 0)), (1, .int x1)]) : W p l e R s m args below meth c H locs 0 0 Q (F0 m 25 ls [.int s0, .ref (G.2.2.2.2.1 0)]) := by
  unfold fX10_undo_25 at hf
  refine lv_iconst (v := 1) B.1.1 B.1.2.1 dX10_undo_25 (by decide) ?_
  obtain ⟨σ1, v2, h3, hf⟩ := hy_bd_some hf
  refine hy_cv (As := [.int s0, .int 1]) (rest := []) (o := (σ1, v2)) mw_fix hA B w (fun sz => mX10_throwsIf l G sz σ s0 1 _ h3) (cwV 2 B.1.2.2.2.2 gX10_undo_X10_throwsIf rfl rfl rfl (by decide +kernel) ⟨by have := hR.1; show 0 + 1 ≤ _; omega, by have := hR.2; show 8 + (3 + 11) + 0 ≤ _; omega⟩) rfl (mwq_0 G σ) rfl hl.1 rfl (Nat.le_of_ble_eq_true rfl) dX10_undo_26 ⟨Nat.zero_le _, Nat.zero_le _⟩ (fun H locs w => ?_)
  refine lv_if_ne (tgt := 41) B.1.1 B.1.2.1 dX10_undo_29 (by decide) (fun c4 => ?_) (fun c4 => ?_)
  · rw [if_neg c4] at hf
    refine lv_iconst (v := 0) B.1.1 B.1.2.1 dX10_undo_41 (by decide) ?_
    exact hret _ _ _ _ _ _ (Option.some.inj hf).symm (Or.inl rfl) w dX10_undo_42
  · rw [if_pos c4] at hf
    refine lv_aload_n B.1.1 B.1.2.1 dX10_undo_32 rfl (lv_at hl 0 rfl) ?_
    refine hy_get (k := 37) (v := .ref (G.2.2.2.2.1 28)) B w (mwq_0 G) rfl in_X10_undo_X10 (by decide) (by decide +kernel) rfl dX10_undo_33 ?_
    refine lv_iload_n B.1.1 B.1.2.1 dX10_undo_36 rfl (lv_at hl 1 rfl) ?_
    obtain ⟨h7, v5, e6, hf⟩ := hy_ga_some hf
    refine hy_iald B w (mwq_28 G) h7 e6 dX10_undo_37 ?_
    refine lv_if_lt (tgt := 43) B.1.1 B.1.2.1 dX10_undo_38 (by decide) (fun c8 => ?_) (fun c8 => ?_)
    · rw [if_pos c8] at hf
      refine lv_aload_n B.1.1 B.1.2.1 dX10_undo_43 rfl (lv_at hl 0 rfl) ?_
      refine hy_get (k := 37) (v := .ref (G.2.2.2.2.1 28)) B w (mwq_0 G) rfl in_X10_undo_X10 (by decide) (by decide +kernel) rfl dX10_undo_44 ?_
      refine lv_iload_n B.1.1 B.1.2.1 dX10_undo_47 rfl (lv_at hl 1 rfl) ?_
      refine lv_aload_n B.1.1 B.1.2.1 dX10_undo_48 rfl (lv_at hl 0 rfl) ?_
      refine hy_get (k := 39) (v := .int (σ1.2 11)) B w (mwq_0 G) rfl in_X10_undo_X10 (by decide) (by decide +kernel) rfl dX10_undo_49 ?_
      obtain ⟨h11, σ9, e10, hf⟩ := hy_pa_some hf
      refine hy_iast B w (mwq_28 G) (mws_28 G) h11 e10 dX10_undo_52 (fun H locs w => ?_)
      refine lv_iconst (v := 1) B.1.1 B.1.2.1 dX10_undo_53 (by decide) ?_
      exact hret _ _ _ _ _ _ (Option.some.inj hf).symm (Or.inr rfl) w dX10_undo_54
    · rw [if_neg c8] at hf
      refine lv_iconst (v := 0) B.1.1 B.1.2.1 dX10_undo_41 (by decide) ?_
      exact hret _ _ _ _ _ _ (Option.some.inj hf).symm (Or.inl rfl) w dX10_undo_42
set_option maxHeartbeats 4000000 in
set_option maxRecDepth 100000 in
theorem bX10_undo_0 (hA : ∀ q : Nat, s.heap.size ≤ q → A q) (B : hy_B RX10 cX10_undo 2 wsX10_undo G A p s m args c) (hR : 1 ≤ R.frames ∧ 22 ≤ R.locals) {o : hy_S × Int32}  (hret : ∀ (σ : hy_S) (v : Int32) (pc : Nat) (H : Heap) (locs : List Loc) (ls : Array Slot), o = (σ, v) → (v = 0 ∨ v = 1) → hy_w mw G A s σ H locs → decode cX10_undo pc = .ok (.ireturn, 1) → W p l e R s m args below meth c H locs 0 0 Q (F0 m pc ls [.int v])) (σ : hy_S) (x1 : Int32) (H : Heap) (locs : List Loc) (ls : Array Slot) (hf : fX10_undo σ x1 = some o) (w : hy_w mw G A s σ H locs) (hl : lv_has ls 2 [(0, .ref (G.2.2.2.2.1 0)), (1, .int x1)]) : W p l e R s m args below meth c H locs 0 0 Q (F0 m 0 ls []) := by
  unfold fX10_undo at hf
  refine lv_aload_n B.1.1 B.1.2.1 dX10_undo_0 rfl (lv_at hl 0 rfl) ?_
  refine lv_iconst (v := 0) B.1.1 B.1.2.1 dX10_undo_1 (by decide) ?_
  obtain ⟨σ1, e2, hf⟩ := hy_pf_some hf
  refine hy_put (k := 0) B w (mwq_0 G) rfl in_X10_undo_X10 tyX10 tyX10_ok nmX10 (by decide) (by decide +kernel) rfl rfl (by show 0 < 43; decide) (mwp_0 G) e2 dX10_undo_2 (fun H locs w => ?_)
  refine lv_aload_n B.1.1 B.1.2.1 dX10_undo_5 rfl (lv_at hl 0 rfl) ?_
  refine lv_iload_n B.1.1 B.1.2.1 dX10_undo_6 rfl (lv_at hl 1 rfl) ?_
  refine lv_iconst (v := 0) B.1.1 B.1.2.1 dX10_undo_7 (by decide) ?_
  refine lv_aload_n B.1.1 B.1.2.1 dX10_undo_8 rfl (lv_at hl 0 rfl) ?_
  refine hy_get (k := 38) (v := .int (σ1.2 10)) B w (mwq_0 G) rfl in_X10_undo_X10 (by decide) (by decide +kernel) rfl dX10_undo_9 ?_
  refine lv_iconst (v := 1) B.1.1 B.1.2.1 dX10_undo_12 (by decide) ?_
  refine lv_isub B.1.1 B.1.2.1 dX10_undo_13 ?_
  obtain ⟨σ3, v4, h5, hf⟩ := hy_bd_some hf
  refine hy_cs (As := [.int x1, .int 0, .int ((σ1.2 10) - 1)]) (rest := [.ref (G.2.2.2.2.1 0)]) (o := (σ3, v4)) mw_fix hA B w (fun sz => mX10_in l G sz σ1 x1 0 ((σ1.2 10) - 1) _ h5) (cwS 3 B.1.2.2.2.2 gX10_undo_X10_in rfl rfl rfl (by decide +kernel) ⟨by have := hR.1; show 0 + 1 ≤ _; omega, by have := hR.2; show 8 + (3 + 11) + 0 ≤ _; omega⟩) rfl hl.1 rfl (Nat.le_of_ble_eq_true rfl) dX10_undo_14 ⟨Nat.zero_le _, Nat.zero_le _⟩ (fun H locs w => ?_)
  refine lv_if_ne (tgt := 24) B.1.1 B.1.2.1 dX10_undo_17 (by decide) (fun c6 => ?_) (fun c6 => ?_)
  · rw [if_neg c6] at hf
    refine lv_iconst (v := 0) B.1.1 B.1.2.1 dX10_undo_24 (by decide) ?_
    exact bX10_undo_25 hA B hR  hret _ _ _ _ _ _ hf w (lv_sub hl [0, 1] rfl)
  · rw [if_pos c6] at hf
    refine lv_iconst (v := 1) B.1.1 B.1.2.1 dX10_undo_20 (by decide) ?_
    refine lv_goto (tgt := 25) B.1.1 B.1.2.1 dX10_undo_21 (by decide) ?_
    exact bX10_undo_25 hA B hR  hret _ _ _ _ _ _ hf w (lv_sub hl [0, 1] rfl)
set_option maxHeartbeats 4000000 in
set_option maxRecDepth 100000 in
theorem mX10_undo (l : Launch) (G : hy_G) (sz : Nat) (σ : hy_S) (x1 : Int32) (o : hy_S × Int32) (hf : fX10_undo σ x1 = some o) : hy_M l yX10_undo wsX10_undo ({ frames := 1, cells := 0, slots := 0, locals := 22 }) mw G σ sz [.ref (G.2.2.2.2.1 0), .int x1] o := by
  refine Met.ofW (cc := cX10_undo) (maxL := 2) (ret := (some .boolean)) (by decide +kernel) rfl ?_
  intro p e s m args below meth c s₁ B hml hv
  obtain ⟨rfl, hsz, hP, hK, hD0, hN⟩ := hv
  have hx := B.exec
  have hb := B.bytes
  have hr := B.returns
  have hts := atoms_spec (ws := wsX10_undo) B.pre
  have hown : s.vm.findClass RX10 = some m.cls := findClass_of_methodNamed B.named
  have hlocks := B.notSynchronized
  subst hsz
  have hD := hD0.self (sz := s.heap.size)
  have hA : ∀ q : Nat, s.heap.size ≤ q → va_A (mw G σ) s.heap.size q := fun q h => Or.inr h
  have hS : va_S (va_A (mw G σ) s.heap.size) s.heap s.heap [] := va_S.rf
  have hl := lv_entry ([.ref (G.2.2.2.2.1 0), .int x1]) (n := 2) (Nat.le_of_ble_eq_true rfl)
  rw [lg_entry_eq]
  generalize (lg_sl ([.ref (G.2.2.2.2.1 0), .int x1]) ++ List.replicate (2 - (lg_sl ([.ref (G.2.2.2.2.1 0), .int x1])).length) Slot.unset).toArray = ls at hl ⊢
  have hl : lv_has ls 2 [(0, .ref (G.2.2.2.2.1 0)), (1, .int x1)] := hl
  refine bX10_undo_0 (A := va_A (mw G σ) s.heap.size) hA ⟨⟨hx, hb, hml, hown, hts⟩, hK, hN⟩ ⟨Nat.le_of_ble_eq_true rfl, Nat.le_of_ble_eq_true rfl⟩ (o := o) (fun τ v pc H locs ls ho hz w d => ?_) σ x1 _ _ _ hf ⟨hP, hD, hS⟩ hl
  exact W.zret hx hb hr (hy_bool hz) (fun t ht hW => ⟨⟨v, τ, rfl, ⟨by rw [ho], by rw [ho]⟩, by have h9 := w.1; rw [← ht] at h9; exact h9⟩, w.2.2.F ht⟩) w.2.2.2.2 d
theorem in_X10_days_X10 : ∀ w ∈ u_ws RX10 TX10 43, w ∈ wsX10_days := fun _ h => xt1 (xr (h))
noncomputable def fX10_days_22 (σ : hy_S) (s0 : Int32) (x1 : Int32) : Option (hy_S × Int32) := hy_bd (fX10_throwsIf σ s0 1) (fun σ1 v2 => (if v2 = 0 then hy_pf σ1 11 ((σ1.2 11) + x1) (fun σ5 => some (σ5, (σ5.2 11))) else some (σ1, 0)))
noncomputable def fX10_days (σ : hy_S) (x1 : Int32) : Option (hy_S × Int32) := hy_pf σ 0 0 (fun σ1 => hy_bd (fX10_in σ1 x1 0 1000) (fun σ3 v4 => (if v4 = 0 then fX10_days_22 σ3 1 x1 else fX10_days_22 σ3 0 x1)))
set_option maxHeartbeats 4000000 in
set_option maxRecDepth 100000 in
theorem bX10_days_22 (hA : ∀ q : Nat, s.heap.size ≤ q → A q) (B : hy_B RX10 cX10_days 2 wsX10_days G A p s m args c) (hR : 1 ≤ R.frames ∧ 22 ≤ R.locals) {o : hy_S × Int32}  (hret : ∀ (σ : hy_S) (v : Int32) (pc : Nat) (H : Heap) (locs : List Loc) (ls : Array Slot), o = (σ, v) → hy_w mw G A s σ H locs → decode cX10_days pc = .ok (.ireturn, 1) → W p l e R s m args below meth c H locs 0 0 Q (F0 m pc ls [.int v])) (σ : hy_S) (s0 : Int32) (x1 : Int32) (H : Heap) (locs : List Loc) (ls : Array Slot) (hf : fX10_days_22 σ s0 x1 = some o) (w : hy_w mw G A s σ H locs) (hl : lv_has ls 2 [(0, .ref (G.2.2.2.2.1 0)), (1, .int x1)]) : W p l e R s m args below meth c H locs 0 0 Q (F0 m 22 ls [.int s0, .ref (G.2.2.2.2.1 0)]) := by
  unfold fX10_days_22 at hf
  refine lv_iconst (v := 1) B.1.1 B.1.2.1 dX10_days_22 (by decide) ?_
  obtain ⟨σ1, v2, h3, hf⟩ := hy_bd_some hf
  refine hy_cv (As := [.int s0, .int 1]) (rest := []) (o := (σ1, v2)) mw_fix hA B w (fun sz => mX10_throwsIf l G sz σ s0 1 _ h3) (cwV 2 B.1.2.2.2.2 gX10_days_X10_throwsIf rfl rfl rfl (by decide +kernel) ⟨by have := hR.1; show 0 + 1 ≤ _; omega, by have := hR.2; show 8 + (3 + 11) + 0 ≤ _; omega⟩) rfl (mwq_0 G σ) rfl hl.1 rfl (Nat.le_of_ble_eq_true rfl) dX10_days_23 ⟨Nat.zero_le _, Nat.zero_le _⟩ (fun H locs w => ?_)
  refine lv_if_eq (tgt := 31) B.1.1 B.1.2.1 dX10_days_26 (by decide) (fun c4 => ?_) (fun c4 => ?_)
  · rw [if_pos c4] at hf
    refine lv_aload_n B.1.1 B.1.2.1 dX10_days_31 rfl (lv_at hl 0 rfl) ?_
    refine lv_dup B.1.1 B.1.2.1 dX10_days_32 rfl ?_
    refine hy_get (k := 39) (v := .int (σ1.2 11)) B w (mwq_0 G) rfl in_X10_days_X10 (by decide) (by decide +kernel) rfl dX10_days_33 ?_
    refine lv_iload_n B.1.1 B.1.2.1 dX10_days_36 rfl (lv_at hl 1 rfl) ?_
    refine lv_iadd B.1.1 B.1.2.1 dX10_days_37 ?_
    obtain ⟨σ5, e6, hf⟩ := hy_pf_some hf
    refine hy_put (k := 39) B w (mwq_0 G) rfl in_X10_days_X10 tyX10 tyX10_ok nmX10 (by decide) (by decide +kernel) rfl rfl (by show 39 < 43; decide) (mwp_11 G) e6 dX10_days_38 (fun H locs w => ?_)
    refine lv_aload_n B.1.1 B.1.2.1 dX10_days_41 rfl (lv_at hl 0 rfl) ?_
    refine hy_get (k := 39) (v := .int (σ5.2 11)) B w (mwq_0 G) rfl in_X10_days_X10 (by decide) (by decide +kernel) rfl dX10_days_42 ?_
    exact hret _ _ _ _ _ _ (Option.some.inj hf).symm w dX10_days_45
  · rw [if_neg c4] at hf
    refine lv_iconst (v := 0) B.1.1 B.1.2.1 dX10_days_29 (by decide) ?_
    exact hret _ _ _ _ _ _ (Option.some.inj hf).symm w dX10_days_30
set_option maxHeartbeats 4000000 in
set_option maxRecDepth 100000 in
theorem bX10_days_0 (hA : ∀ q : Nat, s.heap.size ≤ q → A q) (B : hy_B RX10 cX10_days 2 wsX10_days G A p s m args c) (hR : 1 ≤ R.frames ∧ 22 ≤ R.locals) {o : hy_S × Int32}  (hret : ∀ (σ : hy_S) (v : Int32) (pc : Nat) (H : Heap) (locs : List Loc) (ls : Array Slot), o = (σ, v) → hy_w mw G A s σ H locs → decode cX10_days pc = .ok (.ireturn, 1) → W p l e R s m args below meth c H locs 0 0 Q (F0 m pc ls [.int v])) (σ : hy_S) (x1 : Int32) (H : Heap) (locs : List Loc) (ls : Array Slot) (hf : fX10_days σ x1 = some o) (w : hy_w mw G A s σ H locs) (hl : lv_has ls 2 [(0, .ref (G.2.2.2.2.1 0)), (1, .int x1)]) : W p l e R s m args below meth c H locs 0 0 Q (F0 m 0 ls []) := by
  unfold fX10_days at hf
  refine lv_aload_n B.1.1 B.1.2.1 dX10_days_0 rfl (lv_at hl 0 rfl) ?_
  refine lv_iconst (v := 0) B.1.1 B.1.2.1 dX10_days_1 (by decide) ?_
  obtain ⟨σ1, e2, hf⟩ := hy_pf_some hf
  refine hy_put (k := 0) B w (mwq_0 G) rfl in_X10_days_X10 tyX10 tyX10_ok nmX10 (by decide) (by decide +kernel) rfl rfl (by show 0 < 43; decide) (mwp_0 G) e2 dX10_days_2 (fun H locs w => ?_)
  refine lv_aload_n B.1.1 B.1.2.1 dX10_days_5 rfl (lv_at hl 0 rfl) ?_
  refine lv_iload_n B.1.1 B.1.2.1 dX10_days_6 rfl (lv_at hl 1 rfl) ?_
  refine lv_iconst (v := 0) B.1.1 B.1.2.1 dX10_days_7 (by decide) ?_
  refine lv_sipush (v := 1000) B.1.1 B.1.2.1 dX10_days_8 (by decide) ?_
  obtain ⟨σ3, v4, h5, hf⟩ := hy_bd_some hf
  refine hy_cs (As := [.int x1, .int 0, .int 1000]) (rest := [.ref (G.2.2.2.2.1 0)]) (o := (σ3, v4)) mw_fix hA B w (fun sz => mX10_in l G sz σ1 x1 0 1000 _ h5) (cwS 3 B.1.2.2.2.2 gX10_days_X10_in rfl rfl rfl (by decide +kernel) ⟨by have := hR.1; show 0 + 1 ≤ _; omega, by have := hR.2; show 8 + (3 + 11) + 0 ≤ _; omega⟩) rfl hl.1 rfl (Nat.le_of_ble_eq_true rfl) dX10_days_11 ⟨Nat.zero_le _, Nat.zero_le _⟩ (fun H locs w => ?_)
  refine lv_if_ne (tgt := 21) B.1.1 B.1.2.1 dX10_days_14 (by decide) (fun c6 => ?_) (fun c6 => ?_)
  · rw [if_neg c6] at hf
    refine lv_iconst (v := 0) B.1.1 B.1.2.1 dX10_days_21 (by decide) ?_
    exact bX10_days_22 hA B hR  hret _ _ _ _ _ _ hf w (lv_sub hl [0, 1] rfl)
  · rw [if_pos c6] at hf
    refine lv_iconst (v := 1) B.1.1 B.1.2.1 dX10_days_17 (by decide) ?_
    refine lv_goto (tgt := 22) B.1.1 B.1.2.1 dX10_days_18 (by decide) ?_
    exact bX10_days_22 hA B hR  hret _ _ _ _ _ _ hf w (lv_sub hl [0, 1] rfl)
set_option maxHeartbeats 4000000 in
set_option maxRecDepth 100000 in
theorem mX10_days (l : Launch) (G : hy_G) (sz : Nat) (σ : hy_S) (x1 : Int32) (o : hy_S × Int32) (hf : fX10_days σ x1 = some o) : hy_M l yX10_days wsX10_days ({ frames := 1, cells := 0, slots := 0, locals := 22 }) mw G σ sz [.ref (G.2.2.2.2.1 0), .int x1] o := by
  refine Met.ofW (cc := cX10_days) (maxL := 2) (ret := (some .int)) (by decide +kernel) rfl ?_
  intro p e s m args below meth c s₁ B hml hv
  obtain ⟨rfl, hsz, hP, hK, hD0, hN⟩ := hv
  have hx := B.exec
  have hb := B.bytes
  have hr := B.returns
  have hts := atoms_spec (ws := wsX10_days) B.pre
  have hown : s.vm.findClass RX10 = some m.cls := findClass_of_methodNamed B.named
  have hlocks := B.notSynchronized
  subst hsz
  have hD := hD0.self (sz := s.heap.size)
  have hA : ∀ q : Nat, s.heap.size ≤ q → va_A (mw G σ) s.heap.size q := fun q h => Or.inr h
  have hS : va_S (va_A (mw G σ) s.heap.size) s.heap s.heap [] := va_S.rf
  have hl := lv_entry ([.ref (G.2.2.2.2.1 0), .int x1]) (n := 2) (Nat.le_of_ble_eq_true rfl)
  rw [lg_entry_eq]
  generalize (lg_sl ([.ref (G.2.2.2.2.1 0), .int x1]) ++ List.replicate (2 - (lg_sl ([.ref (G.2.2.2.2.1 0), .int x1])).length) Slot.unset).toArray = ls at hl ⊢
  have hl : lv_has ls 2 [(0, .ref (G.2.2.2.2.1 0)), (1, .int x1)] := hl
  refine bX10_days_0 (A := va_A (mw G σ) s.heap.size) hA ⟨⟨hx, hb, hml, hown, hts⟩, hK, hN⟩ ⟨Nat.le_of_ble_eq_true rfl, Nat.le_of_ble_eq_true rfl⟩ (o := o) (fun τ v pc H locs ls ho w d => ?_) σ x1 _ _ _ hf ⟨hP, hD, hS⟩ hl
  exact W.iret hx hb hr (fun t ht hW => ⟨⟨v, τ, rfl, ⟨by rw [ho], by rw [ho]⟩, by have h9 := w.1; rw [← ht] at h9; exact h9⟩, w.2.2.F ht⟩) w.2.2.2.2 d
end HM3
