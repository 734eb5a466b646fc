section HN1
variable {p : Program} {l : Launch} {e : Env} {R : Room} {s : State} {m : MethodId} {args : Array Value} {below : List Frame} {meth : Method} {c : Code} {Q : State → Prop} {G : hy_G} {A : Nat → Prop} {Qc : Array Value → State → Outcome → State → Prop}
noncomputable def fX3_wordOf (σ : hy_S) (x0 : Int32) : Option (hy_S × Int32) := (if x0 = 0 then some (σ, 0) else (if x0 = 1 then some (σ, 1) else (if x0 = 2 then some (σ, 2) else (if x0 = 3 then some (σ, 3) else some (σ, 4)))))
set_option maxHeartbeats 4000000 in
set_option maxRecDepth 100000 in
theorem bX3_wordOf_0 (hA : ∀ q : Nat, s.heap.size ≤ q → A q) (B : hy_B RX3 cX3_wordOf 1 wsX3_wordOf G A p s m args c) (hR : 0 ≤ R.frames ∧ 0 ≤ R.locals) {o : hy_S × Int32}  (hret : ∀ (σ : hy_S) (v : Int32) (pc : Nat) (H : Heap) (locs : List Loc) (ls : Array Slot), o = (σ, v) → hy_w cw G A s σ H locs → decode cX3_wordOf pc = .ok (.areturn, 1) → W p l e R s m args below meth c H locs 0 0 Q (F0 m pc ls [.ref (G.2.2.2.2.2.1 (Int32.toNatClampNeg v))])) (σ : hy_S) (x0 : Int32) (H : Heap) (locs : List Loc) (ls : Array Slot) (hf : fX3_wordOf σ x0 = some o) (w : hy_w cw G A s σ H locs) (hl : lv_has ls 1 [(0, .int x0)]) : W p l e R s m args below meth c H locs 0 0 Q (F0 m 0 ls []) := by
  unfold fX3_wordOf at hf
  refine lv_iload_n B.1.1 B.1.2.1 dX3_wordOf_0 rfl (lv_at hl 0 rfl) ?_
  by_cases c1 : x0 = 0
  · rw [if_pos c1] at hf
    have c1e : Int32.toInt x0 = 0 := by rw [c1]; rfl
    refine lv_tableIn (tgt := 32) B.1.1 B.1.2.1 dX3_wordOf_1 (by rw [c1e]; decide) (by rw [c1e]; decide) (by rw [c1e]; rfl) (by decide) ?_
    refine va_ldcS B.1.1 B.1.2.1 B.1.2.2.2.1 (B.2.2.1.2.2.2.2.2 (RX3, 37, "jar", 0) (by decide +kernel)) dX3_wordOf_32 ?_
    exact hret _ _ _ _ _ _ (Option.some.inj hf).symm w dX3_wordOf_34
  · rw [if_neg c1] at hf
    by_cases c2 : x0 = 1
    · rw [if_pos c2] at hf
      have c2e : Int32.toInt x0 = 1 := by rw [c2]; rfl
      refine lv_tableIn (tgt := 35) B.1.1 B.1.2.1 dX3_wordOf_1 (by rw [c2e]; decide) (by rw [c2e]; decide) (by rw [c2e]; rfl) (by decide) ?_
      refine va_ldcS B.1.1 B.1.2.1 B.1.2.2.2.1 (B.2.2.1.2.2.2.2.2 (RX3, 39, "oil", 1) (by decide +kernel)) dX3_wordOf_35 ?_
      exact hret _ _ _ _ _ _ (Option.some.inj hf).symm w dX3_wordOf_37
    · rw [if_neg c2] at hf
      by_cases c3 : x0 = 2
      · rw [if_pos c3] at hf
        have c3e : Int32.toInt x0 = 2 := by rw [c3]; rfl
        refine lv_tableIn (tgt := 38) B.1.1 B.1.2.1 dX3_wordOf_1 (by rw [c3e]; decide) (by rw [c3e]; decide) (by rw [c3e]; rfl) (by decide) ?_
        refine va_ldcS B.1.1 B.1.2.1 B.1.2.2.2.1 (B.2.2.1.2.2.2.2.2 (RX3, 41, "maker", 2) (by decide +kernel)) dX3_wordOf_38 ?_
        exact hret _ _ _ _ _ _ (Option.some.inj hf).symm w dX3_wordOf_40
      · rw [if_neg c3] at hf
        by_cases c4 : x0 = 3
        · rw [if_pos c4] at hf
          have c4e : Int32.toInt x0 = 3 := by rw [c4]; rfl
          refine lv_tableIn (tgt := 41) B.1.1 B.1.2.1 dX3_wordOf_1 (by rw [c4e]; decide) (by rw [c4e]; decide) (by rw [c4e]; rfl) (by decide) ?_
          refine va_ldcS B.1.1 B.1.2.1 B.1.2.2.2.1 (B.2.2.1.2.2.2.2.2 (RX3, 43, "year", 3) (by decide +kernel)) dX3_wordOf_41 ?_
          exact hret _ _ _ _ _ _ (Option.some.inj hf).symm w dX3_wordOf_43
        · rw [if_neg c4] at hf
          have c1t := lv_neT (a := 0) c1 rfl
          have c2t := lv_neT (a := 1) c2 rfl
          have c3t := lv_neT (a := 2) c3 rfl
          have c4t := lv_neT (a := 3) c4 rfl
          refine lv_tableOut (tgt := 44) B.1.1 B.1.2.1 dX3_wordOf_1 (by omega) (by decide) ?_
          refine va_ldcS B.1.1 B.1.2.1 B.1.2.2.2.1 (B.2.2.1.2.2.2.2.2 (RX3, 45, "due", 4) (by decide +kernel)) dX3_wordOf_44 ?_
          exact hret _ _ _ _ _ _ (Option.some.inj hf).symm w dX3_wordOf_46
set_option maxHeartbeats 4000000 in
set_option maxRecDepth 100000 in
theorem mX3_wordOf (l : Launch) (G : hy_G) (sz : Nat) (σ : hy_S) (x0 : Int32) (o : hy_S × Int32) (hf : fX3_wordOf σ x0 = some o) : hy_Mr l yX3_wordOf wsX3_wordOf ({ frames := 0, cells := 0, slots := 0, locals := 0 }) cw G σ sz [.int x0] o := by
  refine Met.ofW (cc := cX3_wordOf) (maxL := 1) (ret := (some (.object "java/lang/String"))) (by decide +kernel) rfl ?_
  intro p e s m args below meth c s₁ B hml hv
  obtain ⟨rfl, hsz, hP, hK, hD0, hN⟩ := hv
  have hx := B.exec
  have hb := B.bytes
  have hr := B.returns
  have hts := atoms_spec (ws := wsX3_wordOf) B.pre
  have hown : s.vm.findClass RX3 = some m.cls := findClass_of_methodNamed B.named
  have hlocks := B.notSynchronized
  subst hsz
  have hD := hD0.self (sz := s.heap.size)
  have hA : ∀ q : Nat, s.heap.size ≤ q → va_A (cw G σ) s.heap.size q := fun q h => Or.inr h
  have hS : va_S (va_A (cw G σ) s.heap.size) s.heap s.heap [] := va_S.rf
  have hl := lv_entry ([.int x0]) (n := 1) (Nat.le_of_ble_eq_true rfl)
  rw [lg_entry_eq]
  generalize (lg_sl ([.int x0]) ++ List.replicate (1 - (lg_sl ([.int x0])).length) Slot.unset).toArray = ls at hl ⊢
  have hl : lv_has ls 1 [(0, .int x0)] := hl
  refine bX3_wordOf_0 (A := va_A (cw G σ) s.heap.size) hA ⟨⟨hx, hb, hml, hown, hts⟩, hK, hN⟩ ⟨Nat.le_of_ble_eq_true rfl, Nat.le_of_ble_eq_true rfl⟩ (o := o) (fun τ v pc H locs ls ho w d => ?_) σ x0 _ _ _ hf ⟨hP, hD, hS⟩ hl
  exact W.aret hx hb hr (Or.inl ⟨_, rfl⟩) (Or.inr ⟨_, rfl⟩) (fun t ht hW => ⟨⟨τ, _, rfl, by rw [ho], by rw [ho], by have h9 := w.1; rw [← ht] at h9; exact h9⟩, w.2.2.F ht⟩) w.2.2.2.2 d
theorem in_X7_reads_X7 : ∀ w ∈ u_ws RX7 TX7 2, w ∈ wsX7_reads := fun _ h => xt1 (xr (h))
noncomputable def fX7_reads_15 : Nat → hy_S → Int32 → Int32 → Int32 → Int32 → Option (hy_S × Int32)
  | 0, _, _, _, _, _ => none
  | n + 1, σ, x1, x2, x3, x4 => (if x2 ≤ x4 then some (σ, 1) else hy_ga σ 0 400 x4 (fun v2 => hy_ck ((Int32.toNatClampNeg x3) < 5 ∧ ¬ ((x4 - x1) < 0 ∨ hy_sl.getD (Int32.toNatClampNeg x3) 0 ≤ Int32.toNatClampNeg (x4 - x1))) ((if v2 = (hy_chr (Int32.toNatClampNeg x3) (x4 - x1)) then (fX7_reads_15 n) σ x1 x2 x3 (x4 + 1) else some (σ, 0)))))
noncomputable def fX7_reads (σ : hy_S) (x1 : Int32) (x2 : Int32) (x3 : Int32) : Option (hy_S × Int32) := hy_ck ((Int32.toNatClampNeg x3) < 5) ((if (x2 - x1) = (hy_len (Int32.toNatClampNeg x3)) then fX7_reads_15 hy_fu σ x1 x2 x3 x1 else some (σ, 0)))
set_option maxHeartbeats 4000000 in
set_option maxRecDepth 100000 in
theorem bX7_reads_15 (hA : ∀ q : Nat, s.heap.size ≤ q → A q) (B : hy_B RX7 cX7_reads 5 wsX7_reads G A p s m args c) (hR : 4 ≤ R.frames ∧ 85 ≤ R.locals) {o : hy_S × Int32}  (hret : ∀ (σ : hy_S) (v : Int32) (pc : Nat) (H : Heap) (locs : List Loc) (ls : Array Slot), o = (σ, v) → (v = 0 ∨ v = 1) → hy_w cw G A s σ H locs → decode cX7_reads pc = .ok (.ireturn, 1) → W p l e R s m args below meth c H locs 0 0 Q (F0 m pc ls [.int v])) : ∀ (n : Nat) (σ : hy_S) (x1 : Int32) (x2 : Int32) (x3 : Int32) (x4 : Int32) (H : Heap) (locs : List Loc) (ls : Array Slot), fX7_reads_15 n σ x1 x2 x3 x4 = some o → hy_w cw G A s σ H locs → lv_has ls 5 [(0, .ref (G.2.2.2.1 1)), (1, .int x1), (2, .int x2), (3, .ref (G.2.2.2.2.2.1 (Int32.toNatClampNeg x3))), (4, .int x4)] → W p l e R s m args below meth c H locs 0 0 Q (F0 m 15 ls []) := by
  intro n
  induction n with
  | zero => intro σ x1 x2 x3 x4 H locs ls hf; cases hf
  | succ n hk15 =>
    intro σ x1 x2 x3 x4 H locs ls hf w hl
    unfold fX7_reads_15 at hf
    refine lv_iload B.1.1 B.1.2.1 dX7_reads_15 (lv_at hl 4 rfl) ?_
    refine lv_iload_n B.1.1 B.1.2.1 dX7_reads_17 rfl (lv_at hl 2 rfl) ?_
    refine lv_icmp_ge (tgt := 47) B.1.1 B.1.2.1 dX7_reads_18 (by decide) (fun c1 => ?_) (fun c1 => ?_)
    · rw [if_pos c1] at hf
      refine lv_iconst (v := 1) B.1.1 B.1.2.1 dX7_reads_47 (by decide) ?_
      exact hret _ _ _ _ _ _ (Option.some.inj hf).symm (Or.inr rfl) w dX7_reads_48
    · rw [if_neg c1] at hf
      refine lv_aload_n B.1.1 B.1.2.1 dX7_reads_21 rfl (lv_at hl 0 rfl) ?_
      refine hy_get (k := 0) (v := .ref (G.2.2.2.1 10)) B w (cwq_1 G) rfl in_X7_reads_X7 (by decide) (by decide +kernel) rfl dX7_reads_22 ?_
      refine lv_iload B.1.1 B.1.2.1 dX7_reads_25 (lv_at hl 4 rfl) ?_
      obtain ⟨h4, v2, e3, hf⟩ := hy_ga_some hf
      refine hy_bald B w (cwq_10 G) h4 e3 dX7_reads_27 ?_
      refine lv_aload_n B.1.1 B.1.2.1 dX7_reads_28 rfl (lv_at hl 3 rfl) ?_
      refine lv_iload B.1.1 B.1.2.1 dX7_reads_29 (lv_at hl 4 rfl) ?_
      refine lv_iload_n B.1.1 B.1.2.1 dX7_reads_31 rfl (lv_at hl 1 rfl) ?_
      refine lv_isub B.1.1 B.1.2.1 dX7_reads_32 ?_
      obtain ⟨c5, hf⟩ := hy_ck_some hf
      refine hy_cvR (As := [.int (x4 - x1)]) (rest := [.int v2]) (o := (σ, (hy_chr (Int32.toNatClampNeg x3) (x4 - x1)))) cw_fix hA B w c5.1 (fun sz => mJ_charAt l cw cw_fix G sz σ (Int32.toNatClampNeg x3) c5.1 (x4 - x1) c5.2) (cwV 1 B.1.2.2.2.2 gX7_reads_J0_charAt_5068e rfl rfl rfl (by decide +kernel) ⟨by have := hR.1; show 3 + 1 ≤ _; omega, by have := hR.2; show 8 + (2 + 11) + 64 ≤ _; omega⟩) rfl hl.1 rfl (Nat.le_of_ble_eq_true rfl) dX7_reads_33 ⟨Nat.zero_le _, Nat.zero_le _⟩ (fun H locs w => ?_)
      refine lv_icmp_eq (tgt := 41) B.1.1 B.1.2.1 dX7_reads_36 (by decide) (fun c6 => ?_) (fun c6 => ?_)
      · rw [if_pos c6] at hf
        refine lv_iinc (v := (x4 + 1)) (lv' := [(4, .int (x4 + 1)), (0, .ref (G.2.2.2.1 1)), (1, .int x1), (2, .int x2), (3, .ref (G.2.2.2.2.2.1 (Int32.toNatClampNeg x3)))]) B.1.1 B.1.2.1 dX7_reads_41 hl (k := 4) rfl rfl (by decide) rfl (fun ls hl => ?_)
        refine lv_goto (tgt := 15) B.1.1 B.1.2.1 dX7_reads_44 (by decide) ?_
        exact hk15 _ _ _ _ _ _ _ _ hf w (lv_sub hl [1, 2, 3, 4, 0] rfl)
      · rw [if_neg c6] at hf
        refine lv_iconst (v := 0) B.1.1 B.1.2.1 dX7_reads_39 (by decide) ?_
        exact hret _ _ _ _ _ _ (Option.some.inj hf).symm (Or.inl rfl) w dX7_reads_40
set_option maxHeartbeats 4000000 in
set_option maxRecDepth 100000 in
theorem bX7_reads_0 (hA : ∀ q : Nat, s.heap.size ≤ q → A q) (B : hy_B RX7 cX7_reads 5 wsX7_reads G A p s m args c) (hR : 4 ≤ R.frames ∧ 85 ≤ R.locals) {o : hy_S × Int32}  (hret : ∀ (σ : hy_S) (v : Int32) (pc : Nat) (H : Heap) (locs : List Loc) (ls : Array Slot), o = (σ, v) → (v = 0 ∨ v = 1) → hy_w cw G A s σ H locs → decode cX7_reads pc = .ok (.ireturn, 1) → W p l e R s m args below meth c H locs 0 0 Q (F0 m pc ls [.int v])) (σ : hy_S) (x1 : Int32) (x2 : Int32) (x3 : Int32) (H : Heap) (locs : List Loc) (ls : Array Slot) (hf : fX7_reads σ x1 x2 x3 = some o) (w : hy_w cw G A s σ H locs) (hl : lv_has ls 5 [(0, .ref (G.2.2.2.1 1)), (1, .int x1), (2, .int x2), (3, .ref (G.2.2.2.2.2.1 (Int32.toNatClampNeg x3)))]) : W p l e R s m args below meth c H locs 0 0 Q (F0 m 0 ls []) := by
  unfold fX7_reads at hf
  refine lv_iload_n B.1.1 B.1.2.1 dX7_reads_0 rfl (lv_at hl 2 rfl) ?_
  refine lv_iload_n B.1.1 B.1.2.1 dX7_reads_1 rfl (lv_at hl 1 rfl) ?_
  refine lv_isub B.1.1 B.1.2.1 dX7_reads_2 ?_
  refine lv_aload_n B.1.1 B.1.2.1 dX7_reads_3 rfl (lv_at hl 3 rfl) ?_
  obtain ⟨c1, hf⟩ := hy_ck_some hf
  refine hy_cvR (As := []) (rest := [.int (x2 - x1)]) (o := (σ, (hy_len (Int32.toNatClampNeg x3)))) cw_fix hA B w c1 (fun sz => mJ_length l cw cw_fix G sz σ (Int32.toNatClampNeg x3) c1) (cwV 0 B.1.2.2.2.2 gX7_reads_J0_length_8abf5 rfl rfl rfl (by decide +kernel) ⟨by have := hR.1; show 1 + 1 ≤ _; omega, by have := hR.2; show 8 + (1 + 11) + 20 ≤ _; omega⟩) rfl hl.1 rfl (Nat.le_of_ble_eq_true rfl) dX7_reads_4 ⟨Nat.zero_le _, Nat.zero_le _⟩ (fun H locs w => ?_)
  refine lv_icmp_eq (tgt := 12) B.1.1 B.1.2.1 dX7_reads_7 (by decide) (fun c2 => ?_) (fun c2 => ?_)
  · rw [if_pos c2] at hf
    refine lv_iload_n B.1.1 B.1.2.1 dX7_reads_12 rfl (lv_at hl 1 rfl) ?_
    refine lv_istore (lv' := [(4, .int x1), (0, .ref (G.2.2.2.1 1)), (1, .int x1), (2, .int x2), (3, .ref (G.2.2.2.2.2.1 (Int32.toNatClampNeg x3)))]) B.1.1 B.1.2.1 dX7_reads_13 hl (by decide) rfl (fun ls hl => ?_)
    exact bX7_reads_15 hA B hR  hret _ _ _ _ _ _ _ _ _ hf w (lv_sub hl [1, 2, 3, 4, 0] rfl)
  · rw [if_neg c2] at hf
    refine lv_iconst (v := 0) B.1.1 B.1.2.1 dX7_reads_10 (by decide) ?_
    exact hret _ _ _ _ _ _ (Option.some.inj hf).symm (Or.inl rfl) w dX7_reads_11
set_option maxHeartbeats 4000000 in
set_option maxRecDepth 100000 in
theorem mX7_reads (l : Launch) (G : hy_G) (sz : Nat) (σ : hy_S) (x1 : Int32) (x2 : Int32) (x3 : Int32) (o : hy_S × Int32) (hf : fX7_reads σ x1 x2 x3 = some o) : hy_M l yX7_reads wsX7_reads ({ frames := 4, cells := 0, slots := 0, locals := 85 }) cw G σ sz [.ref (G.2.2.2.1 1), .int x1, .int x2, .ref (G.2.2.2.2.2.1 (Int32.toNatClampNeg x3))] o := by
  refine Met.ofW (cc := cX7_reads) (maxL := 5) (ret := (some .boolean)) (by decide +kernel) rfl ?_
  intro p e s m args below meth c s₁ B hml hv
  obtain ⟨rfl, hsz, hP, hK, hD0, hN⟩ := hv
  have hx := B.exec
  have hb := B.bytes
  have hr := B.returns
  have hts := atoms_spec (ws := wsX7_reads) B.pre
  have hown : s.vm.findClass RX7 = some m.cls := findClass_of_methodNamed B.named
  have hlocks := B.notSynchronized
  subst hsz
  have hD := hD0.self (sz := s.heap.size)
  have hA : ∀ q : Nat, s.heap.size ≤ q → va_A (cw G σ) s.heap.size q := fun q h => Or.inr h
  have hS : va_S (va_A (cw G σ) s.heap.size) s.heap s.heap [] := va_S.rf
  have hl := lv_entry ([.ref (G.2.2.2.1 1), .int x1, .int x2, .ref (G.2.2.2.2.2.1 (Int32.toNatClampNeg x3))]) (n := 5) (Nat.le_of_ble_eq_true rfl)
  rw [lg_entry_eq]
  generalize (lg_sl ([.ref (G.2.2.2.1 1), .int x1, .int x2, .ref (G.2.2.2.2.2.1 (Int32.toNatClampNeg x3))]) ++ List.replicate (5 - (lg_sl ([.ref (G.2.2.2.1 1), .int x1, .int x2, .ref (G.2.2.2.2.2.1 (Int32.toNatClampNeg x3))])).length) Slot.unset).toArray = ls at hl ⊢
  have hl : lv_has ls 5 [(0, .ref (G.2.2.2.1 1)), (1, .int x1), (2, .int x2), (3, .ref (G.2.2.2.2.2.1 (Int32.toNatClampNeg x3)))] := hl
  refine bX7_reads_0 (A := va_A (cw G σ) s.heap.size) hA ⟨⟨hx, hb, hml, hown, hts⟩, hK, hN⟩ ⟨Nat.le_of_ble_eq_true rfl, Nat.le_of_ble_eq_true rfl⟩ (o := o) (fun τ v pc H locs ls ho hz w d => ?_) σ x1 x2 x3 _ _ _ hf ⟨hP, hD, hS⟩ hl
  exact W.zret hx hb hr (hy_bool hz) (fun t ht hW => ⟨⟨v, τ, rfl, ⟨by rw [ho], by rw [ho]⟩, by have h9 := w.1; rw [← ht] at h9; exact h9⟩, w.2.2.F ht⟩) w.2.2.2.2 d
theorem in_X3_readFrom_X3 : ∀ w ∈ u_ws RX3 TX3 1, w ∈ wsX3_readFrom := fun _ h => xt1 (xl (xr (h)))
noncomputable def fX3_readFrom_82 (k4 : hy_S → Int32 → Int32 → Option (hy_S × Int32)) (σ : hy_S) (x2 : Int32) : Option (hy_S × Int32) := some (σ, x2)
noncomputable def fX3_readFrom_4 : Nat → hy_S → Int32 → Int32 → Option (hy_S × Int32)
  | 0, _, _, _ => none
  | n + 1, σ, x2, x3 => (if 5 ≤ x3 then hy_bd (fX7_past σ x2 32 32) (fun σ2 v3 => hy_bd (fX7_endsAt σ2 v3) (fun σ5 v6 => (if v6 = 0 then some (σ5, v3) else some (σ5, (-1))))) else hy_bd (fX7_past σ x2 32 32) (fun σ9 v10 => hy_bd (fX7_past σ9 v10 97 122) (fun σ12 v13 => hy_bd (fX3_wordOf σ12 x3) (fun σ15 v16 => hy_bd (fX7_reads σ15 v10 v13 v16) (fun σ18 v19 => (if v19 = 0 then some (σ18, v10) else hy_bd (fX7_past σ18 v13 32 32) (fun σ22 v23 => hy_bd (fX7_past σ22 v23 48 57) (fun σ25 v26 => (if v26 = v23 then fX3_readFrom_82 (fX3_readFrom_4 n) σ25 v23 else (if (v26 - v23) ≤ 5 then hy_bd (fX7_digitsFrom σ25 v23 v26) (fun σ30 v31 => hy_pa σ30 1 5 x3 v31 (fun σ33 => (fX3_readFrom_4 n) σ33 v26 (x3 + 1))) else fX3_readFrom_82 (fX3_readFrom_4 n) σ25 v23))))))))))
noncomputable def fX3_readFrom (σ : hy_S) : Option (hy_S × Int32) := fX3_readFrom_4 hy_fu σ 0 0
set_option maxHeartbeats 4000000 in
set_option maxRecDepth 100000 in
theorem bX3_readFrom_82 (hA : ∀ q : Nat, s.heap.size ≤ q → A q) (B : hy_B RX3 cX3_readFrom 6 wsX3_readFrom G A p s m args c) (hR : 5 ≤ R.frames ∧ 109 ≤ R.locals) {o : hy_S × Int32}  {k4 : hy_S → Int32 → Int32 → Option (hy_S × Int32)} (hk4 : ∀ (σ : hy_S) (x2 : Int32) (x3 : Int32) (H : Heap) (locs : List Loc) (ls : Array Slot), k4 σ x2 x3 = some o → hy_w cw G A s σ H locs → lv_has ls 6 [(0, .ref (G.2.2.2.1 2)), (1, .ref (G.2.2.2.1 1)), (2, .int x2), (3, .int x3)] → W p l e R s m args below meth c H locs 0 0 Q (F0 m 4 ls [])) (hret : ∀ (σ : hy_S) (v : Int32) (pc : Nat) (H : Heap) (locs : List Loc) (ls : Array Slot), o = (σ, v) → hy_w cw G A s σ H locs → decode cX3_readFrom pc = .ok (.ireturn, 1) → W p l e R s m args below meth c H locs 0 0 Q (F0 m pc ls [.int v])) (σ : hy_S) (x2 : Int32) (H : Heap) (locs : List Loc) (ls : Array Slot) (hf : fX3_readFrom_82 k4 σ x2 = some o) (w : hy_w cw G A s σ H locs) (hl : lv_has ls 6 [(2, .int x2)]) : W p l e R s m args below meth c H locs 0 0 Q (F0 m 82 ls []) := by
  unfold fX3_readFrom_82 at hf
  refine lv_iload_n B.1.1 B.1.2.1 dX3_readFrom_82 rfl (lv_at hl 0 rfl) ?_
  exact hret _ _ _ _ _ _ (Option.some.inj hf).symm w dX3_readFrom_83
set_option maxHeartbeats 4000000 in
set_option maxRecDepth 100000 in
theorem bX3_readFrom_4 (hA : ∀ q : Nat, s.heap.size ≤ q → A q) (B : hy_B RX3 cX3_readFrom 6 wsX3_readFrom G A p s m args c) (hR : 5 ≤ R.frames ∧ 109 ≤ R.locals) {o : hy_S × Int32}  (hret : ∀ (σ : hy_S) (v : Int32) (pc : Nat) (H : Heap) (locs : List Loc) (ls : Array Slot), o = (σ, v) → hy_w cw G A s σ H locs → decode cX3_readFrom pc = .ok (.ireturn, 1) → W p l e R s m args below meth c H locs 0 0 Q (F0 m pc ls [.int v])) : ∀ (n : Nat) (σ : hy_S) (x2 : Int32) (x3 : Int32) (H : Heap) (locs : List Loc) (ls : Array Slot), fX3_readFrom_4 n σ x2 x3 = some o → hy_w cw G A s σ H locs → lv_has ls 6 [(0, .ref (G.2.2.2.1 2)), (1, .ref (G.2.2.2.1 1)), (2, .int x2), (3, .int x3)] → W p l e R s m args below meth c H locs 0 0 Q (F0 m 4 ls []) := by
  intro n
  induction n with
  | zero => intro σ x2 x3 H locs ls hf; cases hf
  | succ n hk4 =>
    intro σ x2 x3 H locs ls hf w hl
    unfold fX3_readFrom_4 at hf
    refine lv_iload_n B.1.1 B.1.2.1 dX3_readFrom_4 rfl (lv_at hl 3 rfl) ?_
    refine lv_iconst (v := 5) B.1.1 B.1.2.1 dX3_readFrom_5 (by decide) ?_
    refine lv_icmp_ge (tgt := 106) B.1.1 B.1.2.1 dX3_readFrom_6 (by decide) (fun c1 => ?_) (fun c1 => ?_)
    · rw [if_pos c1] at hf
      refine lv_aload_n B.1.1 B.1.2.1 dX3_readFrom_106 rfl (lv_at hl 1 rfl) ?_
      refine lv_iload_n B.1.1 B.1.2.1 dX3_readFrom_107 rfl (lv_at hl 2 rfl) ?_
      refine lv_bipush (v := 32) B.1.1 B.1.2.1 dX3_readFrom_108 (by decide) ?_
      refine lv_bipush (v := 32) B.1.1 B.1.2.1 dX3_readFrom_110 (by decide) ?_
      obtain ⟨σ2, v3, h4, hf⟩ := hy_bd_some hf
      refine hy_cv (As := [.int x2, .int 32, .int 32]) (rest := []) (o := (σ2, v3)) cw_fix hA B w (fun sz => mX7_past l G sz σ x2 32 32 _ h4) (cwV 3 B.1.2.2.2.2 gX3_readFrom_X7_past rfl rfl rfl (by decide +kernel) ⟨by have := hR.1; show 0 + 1 ≤ _; omega, by have := hR.2; show 8 + (5 + 11) + 0 ≤ _; omega⟩) rfl (cwq_1 G σ) rfl hl.1 rfl (Nat.le_of_ble_eq_true rfl) dX3_readFrom_112 ⟨Nat.zero_le _, Nat.zero_le _⟩ (fun H locs w => ?_)
      refine lv_istore_n (lv' := [(2, .int v3), (0, .ref (G.2.2.2.1 2)), (1, .ref (G.2.2.2.1 1)), (3, .int x3)]) B.1.1 B.1.2.1 dX3_readFrom_115 rfl hl (by decide) rfl (fun ls hl => ?_)
      refine lv_aload_n B.1.1 B.1.2.1 dX3_readFrom_116 rfl (lv_at hl 2 rfl) ?_
      refine lv_iload_n B.1.1 B.1.2.1 dX3_readFrom_117 rfl (lv_at hl 0 rfl) ?_
      obtain ⟨σ5, v6, h7, hf⟩ := hy_bd_some hf
      refine hy_cv (As := [.int v3]) (rest := []) (o := (σ5, v6)) cw_fix hA B w (fun sz => mX7_endsAt l G sz σ2 v3 _ h7) (cwV 1 B.1.2.2.2.2 gX3_readFrom_X7_endsAt rfl rfl rfl (by decide +kernel) ⟨by have := hR.1; show 0 + 1 ≤ _; omega, by have := hR.2; show 8 + (2 + 11) + 0 ≤ _; omega⟩) rfl (cwq_1 G σ2) rfl hl.1 rfl (Nat.le_of_ble_eq_true rfl) dX3_readFrom_118 ⟨Nat.zero_le _, Nat.zero_le _⟩ (fun H locs w => ?_)
      refine lv_if_eq (tgt := 128) B.1.1 B.1.2.1 dX3_readFrom_121 (by decide) (fun c8 => ?_) (fun c8 => ?_)
      · rw [if_pos c8] at hf
        refine lv_iload_n B.1.1 B.1.2.1 dX3_readFrom_128 rfl (lv_at hl 0 rfl) ?_
        exact hret _ _ _ _ _ _ (Option.some.inj hf).symm w dX3_readFrom_129
      · rw [if_neg c8] at hf
        refine lv_iconst (v := (-1)) B.1.1 B.1.2.1 dX3_readFrom_124 (by decide) ?_
        refine lv_goto (tgt := 129) B.1.1 B.1.2.1 dX3_readFrom_125 (by decide) ?_
        exact hret _ _ _ _ _ _ (Option.some.inj hf).symm w dX3_readFrom_129
    · rw [if_neg c1] at hf
      refine lv_aload_n B.1.1 B.1.2.1 dX3_readFrom_9 rfl (lv_at hl 1 rfl) ?_
      refine lv_iload_n B.1.1 B.1.2.1 dX3_readFrom_10 rfl (lv_at hl 2 rfl) ?_
      refine lv_bipush (v := 32) B.1.1 B.1.2.1 dX3_readFrom_11 (by decide) ?_
      refine lv_bipush (v := 32) B.1.1 B.1.2.1 dX3_readFrom_13 (by decide) ?_
      obtain ⟨σ9, v10, h11, hf⟩ := hy_bd_some hf
      refine hy_cv (As := [.int x2, .int 32, .int 32]) (rest := []) (o := (σ9, v10)) cw_fix hA B w (fun sz => mX7_past l G sz σ x2 32 32 _ h11) (cwV 3 B.1.2.2.2.2 gX3_readFrom_X7_past rfl rfl rfl (by decide +kernel) ⟨by have := hR.1; show 0 + 1 ≤ _; omega, by have := hR.2; show 8 + (5 + 11) + 0 ≤ _; omega⟩) rfl (cwq_1 G σ) rfl hl.1 rfl (Nat.le_of_ble_eq_true rfl) dX3_readFrom_15 ⟨Nat.zero_le _, Nat.zero_le _⟩ (fun H locs w => ?_)
      refine lv_istore_n (lv' := [(2, .int v10), (0, .ref (G.2.2.2.1 2)), (1, .ref (G.2.2.2.1 1)), (3, .int x3)]) B.1.1 B.1.2.1 dX3_readFrom_18 rfl hl (by decide) rfl (fun ls hl => ?_)
      refine lv_aload_n B.1.1 B.1.2.1 dX3_readFrom_19 rfl (lv_at hl 2 rfl) ?_
      refine lv_iload_n B.1.1 B.1.2.1 dX3_readFrom_20 rfl (lv_at hl 0 rfl) ?_
      refine lv_bipush (v := 97) B.1.1 B.1.2.1 dX3_readFrom_21 (by decide) ?_
      refine lv_bipush (v := 122) B.1.1 B.1.2.1 dX3_readFrom_23 (by decide) ?_
      obtain ⟨σ12, v13, h14, hf⟩ := hy_bd_some hf
      refine hy_cv (As := [.int v10, .int 97, .int 122]) (rest := []) (o := (σ12, v13)) cw_fix hA B w (fun sz => mX7_past l G sz σ9 v10 97 122 _ h14) (cwV 3 B.1.2.2.2.2 gX3_readFrom_X7_past rfl rfl rfl (by decide +kernel) ⟨by have := hR.1; show 0 + 1 ≤ _; omega, by have := hR.2; show 8 + (5 + 11) + 0 ≤ _; omega⟩) rfl (cwq_1 G σ9) rfl hl.1 rfl (Nat.le_of_ble_eq_true rfl) dX3_readFrom_25 ⟨Nat.zero_le _, Nat.zero_le _⟩ (fun H locs w => ?_)
      refine lv_istore (lv' := [(4, .int v13), (2, .int v10), (0, .ref (G.2.2.2.1 2)), (1, .ref (G.2.2.2.1 1)), (3, .int x3)]) B.1.1 B.1.2.1 dX3_readFrom_28 hl (by decide) rfl (fun ls hl => ?_)
      refine lv_aload_n B.1.1 B.1.2.1 dX3_readFrom_30 rfl (lv_at hl 3 rfl) ?_
      refine lv_iload_n B.1.1 B.1.2.1 dX3_readFrom_31 rfl (lv_at hl 1 rfl) ?_
      refine lv_iload B.1.1 B.1.2.1 dX3_readFrom_32 (lv_at hl 0 rfl) ?_
      refine lv_iload_n B.1.1 B.1.2.1 dX3_readFrom_34 rfl (lv_at hl 4 rfl) ?_
      obtain ⟨σ15, v16, h17, hf⟩ := hy_bd_some hf
      refine hy_csr (As := [.int x3]) (rest := [.int v13, .int v10, .ref (G.2.2.2.1 1)]) (o := (σ15, v16)) cw_fix hA B w (fun sz => mX3_wordOf l G sz σ12 x3 _ h17) (cwS 1 B.1.2.2.2.2 gX3_readFrom_X3_wordOf rfl rfl rfl (by decide +kernel) ⟨by have := hR.1; show 0 + 1 ≤ _; omega, by have := hR.2; show 8 + (1 + 11) + 0 ≤ _; omega⟩) rfl hl.1 rfl (Nat.le_of_ble_eq_true rfl) dX3_readFrom_35 ⟨Nat.zero_le _, Nat.zero_le _⟩ (fun H locs w => ?_)
      obtain ⟨σ18, v19, h20, hf⟩ := hy_bd_some hf
      refine hy_cv (As := [.int v10, .int v13, .ref (G.2.2.2.2.2.1 (Int32.toNatClampNeg v16))]) (rest := []) (o := (σ18, v19)) cw_fix hA B w (fun sz => mX7_reads l G sz σ15 v10 v13 v16 _ h20) (cwV 3 B.1.2.2.2.2 gX3_readFrom_X7_reads rfl rfl rfl (by decide +kernel) ⟨by have := hR.1; show 4 + 1 ≤ _; omega, by have := hR.2; show 8 + (5 + 11) + 85 ≤ _; omega⟩) rfl (cwq_1 G σ15) rfl hl.1 rfl (Nat.le_of_ble_eq_true rfl) dX3_readFrom_38 ⟨Nat.zero_le _, Nat.zero_le _⟩ (fun H locs w => ?_)
      refine lv_if_ne (tgt := 46) B.1.1 B.1.2.1 dX3_readFrom_41 (by decide) (fun c21 => ?_) (fun c21 => ?_)
      · rw [if_neg c21] at hf
        refine lv_aload_n B.1.1 B.1.2.1 dX3_readFrom_46 rfl (lv_at hl 3 rfl) ?_
        refine lv_iload B.1.1 B.1.2.1 dX3_readFrom_47 (lv_at hl 0 rfl) ?_
        refine lv_bipush (v := 32) B.1.1 B.1.2.1 dX3_readFrom_49 (by decide) ?_
        refine lv_bipush (v := 32) B.1.1 B.1.2.1 dX3_readFrom_51 (by decide) ?_
        obtain ⟨σ22, v23, h24, hf⟩ := hy_bd_some hf
        refine hy_cv (As := [.int v13, .int 32, .int 32]) (rest := []) (o := (σ22, v23)) cw_fix hA B w (fun sz => mX7_past l G sz σ18 v13 32 32 _ h24) (cwV 3 B.1.2.2.2.2 gX3_readFrom_X7_past rfl rfl rfl (by decide +kernel) ⟨by have := hR.1; show 0 + 1 ≤ _; omega, by have := hR.2; show 8 + (5 + 11) + 0 ≤ _; omega⟩) rfl (cwq_1 G σ18) rfl hl.1 rfl (Nat.le_of_ble_eq_true rfl) dX3_readFrom_53 ⟨Nat.zero_le _, Nat.zero_le _⟩ (fun H locs w => ?_)
        refine lv_istore_n (lv' := [(2, .int v23), (4, .int v13), (0, .ref (G.2.2.2.1 2)), (1, .ref (G.2.2.2.1 1)), (3, .int x3)]) B.1.1 B.1.2.1 dX3_readFrom_56 rfl hl (by decide) rfl (fun ls hl => ?_)
        refine lv_aload_n B.1.1 B.1.2.1 dX3_readFrom_57 rfl (lv_at hl 3 rfl) ?_
        refine lv_iload_n B.1.1 B.1.2.1 dX3_readFrom_58 rfl (lv_at hl 0 rfl) ?_
        refine lv_bipush (v := 48) B.1.1 B.1.2.1 dX3_readFrom_59 (by decide) ?_
        refine lv_bipush (v := 57) B.1.1 B.1.2.1 dX3_readFrom_61 (by decide) ?_
        obtain ⟨σ25, v26, h27, hf⟩ := hy_bd_some hf
        refine hy_cv (As := [.int v23, .int 48, .int 57]) (rest := []) (o := (σ25, v26)) cw_fix hA B w (fun sz => mX7_past l G sz σ22 v23 48 57 _ h27) (cwV 3 B.1.2.2.2.2 gX3_readFrom_X7_past rfl rfl rfl (by decide +kernel) ⟨by have := hR.1; show 0 + 1 ≤ _; omega, by have := hR.2; show 8 + (5 + 11) + 0 ≤ _; omega⟩) rfl (cwq_1 G σ22) rfl hl.1 rfl (Nat.le_of_ble_eq_true rfl) dX3_readFrom_63 ⟨Nat.zero_le _, Nat.zero_le _⟩ (fun H locs w => ?_)
        refine lv_istore (lv' := [(5, .int v26), (2, .int v23), (4, .int v13), (0, .ref (G.2.2.2.1 2)), (1, .ref (G.2.2.2.1 1)), (3, .int x3)]) B.1.1 B.1.2.1 dX3_readFrom_66 hl (by decide) rfl (fun ls hl => ?_)
        refine lv_iload B.1.1 B.1.2.1 dX3_readFrom_68 (lv_at hl 0 rfl) ?_
        refine lv_iload_n B.1.1 B.1.2.1 dX3_readFrom_70 rfl (lv_at hl 1 rfl) ?_
        refine lv_icmp_eq (tgt := 82) B.1.1 B.1.2.1 dX3_readFrom_71 (by decide) (fun c28 => ?_) (fun c28 => ?_)
        · rw [if_pos c28] at hf
          exact bX3_readFrom_82 hA B hR hk4 hret _ _ _ _ _ hf w (lv_sub hl [1] rfl)
        · rw [if_neg c28] at hf
          refine lv_iload B.1.1 B.1.2.1 dX3_readFrom_74 (lv_at hl 0 rfl) ?_
          refine lv_iload_n B.1.1 B.1.2.1 dX3_readFrom_76 rfl (lv_at hl 1 rfl) ?_
          refine lv_isub B.1.1 B.1.2.1 dX3_readFrom_77 ?_
          refine lv_iconst (v := 5) B.1.1 B.1.2.1 dX3_readFrom_78 (by decide) ?_
          refine lv_icmp_le (tgt := 84) B.1.1 B.1.2.1 dX3_readFrom_79 (by decide) (fun c29 => ?_) (fun c29 => ?_)
          · rw [if_pos c29] at hf
            refine lv_aload_n B.1.1 B.1.2.1 dX3_readFrom_84 rfl (lv_at hl 3 rfl) ?_
            refine hy_get (k := 0) (v := .ref (G.2.2.2.1 11)) B w (cwq_2 G) rfl in_X3_readFrom_X3 (by decide) (by decide +kernel) rfl dX3_readFrom_85 ?_
            refine lv_iload_n B.1.1 B.1.2.1 dX3_readFrom_88 rfl (lv_at hl 5 rfl) ?_
            refine lv_aload_n B.1.1 B.1.2.1 dX3_readFrom_89 rfl (lv_at hl 4 rfl) ?_
            refine lv_iload_n B.1.1 B.1.2.1 dX3_readFrom_90 rfl (lv_at hl 1 rfl) ?_
            refine lv_iload B.1.1 B.1.2.1 dX3_readFrom_91 (lv_at hl 0 rfl) ?_
            obtain ⟨σ30, v31, h32, hf⟩ := hy_bd_some hf
            refine hy_cv (As := [.int v23, .int v26]) (rest := [.int x3, .ref (G.2.2.2.1 11)]) (o := (σ30, v31)) cw_fix hA B w (fun sz => mX7_digitsFrom l G sz σ25 v23 v26 _ h32) (cwV 2 B.1.2.2.2.2 gX3_readFrom_X7_digitsFrom rfl rfl rfl (by decide +kernel) ⟨by have := hR.1; show 0 + 1 ≤ _; omega, by have := hR.2; show 8 + (5 + 11) + 0 ≤ _; omega⟩) rfl (cwq_1 G σ25) rfl hl.1 rfl (Nat.le_of_ble_eq_true rfl) dX3_readFrom_93 ⟨Nat.zero_le _, Nat.zero_le _⟩ (fun H locs w => ?_)
            obtain ⟨h35, σ33, e34, hf⟩ := hy_pa_some hf
            refine hy_iast B w (cwq_11 G) (cws_11 G) h35 e34 dX3_readFrom_96 (fun H locs w => ?_)
            refine lv_iload B.1.1 B.1.2.1 dX3_readFrom_97 (lv_at hl 0 rfl) ?_
            refine lv_istore_n (lv' := [(2, .int v26), (5, .int v26), (4, .int v13), (0, .ref (G.2.2.2.1 2)), (1, .ref (G.2.2.2.1 1)), (3, .int x3)]) B.1.1 B.1.2.1 dX3_readFrom_99 rfl hl (by decide) rfl (fun ls hl => ?_)
            refine lv_iinc (v := (x3 + 1)) (lv' := [(3, .int (x3 + 1)), (2, .int v26), (5, .int v26), (4, .int v13), (0, .ref (G.2.2.2.1 2)), (1, .ref (G.2.2.2.1 1))]) B.1.1 B.1.2.1 dX3_readFrom_100 hl (k := 5) rfl rfl (by decide) rfl (fun ls hl => ?_)
            refine lv_goto (tgt := 4) B.1.1 B.1.2.1 dX3_readFrom_103 (by decide) ?_
            exact hk4 _ _ _ _ _ _ hf w (lv_sub hl [4, 5, 1, 0] rfl)
          · rw [if_neg c29] at hf
            exact bX3_readFrom_82 hA B hR hk4 hret _ _ _ _ _ hf w (lv_sub hl [1] rfl)
      · rw [if_pos c21] at hf
        refine lv_iload_n B.1.1 B.1.2.1 dX3_readFrom_44 rfl (lv_at hl 1 rfl) ?_
        exact hret _ _ _ _ _ _ (Option.some.inj hf).symm w dX3_readFrom_45
set_option maxHeartbeats 4000000 in
set_option maxRecDepth 100000 in
theorem bX3_readFrom_0 (hA : ∀ q : Nat, s.heap.size ≤ q → A q) (B : hy_B RX3 cX3_readFrom 6 wsX3_readFrom G A p s m args c) (hR : 5 ≤ R.frames ∧ 109 ≤ R.locals) {o : hy_S × Int32}  (hret : ∀ (σ : hy_S) (v : Int32) (pc : Nat) (H : Heap) (locs : List Loc) (ls : Array Slot), o = (σ, v) → hy_w cw G A s σ H locs → decode cX3_readFrom pc = .ok (.ireturn, 1) → W p l e R s m args below meth c H locs 0 0 Q (F0 m pc ls [.int v])) (σ : hy_S) (H : Heap) (locs : List Loc) (ls : Array Slot) (hf : fX3_readFrom σ = some o) (w : hy_w cw G A s σ H locs) (hl : lv_has ls 6 [(0, .ref (G.2.2.2.1 2)), (1, .ref (G.2.2.2.1 1))]) : W p l e R s m args below meth c H locs 0 0 Q (F0 m 0 ls []) := by
  unfold fX3_readFrom at hf
  refine lv_iconst (v := 0) B.1.1 B.1.2.1 dX3_readFrom_0 (by decide) ?_
  refine lv_istore_n (lv' := [(2, .int 0), (0, .ref (G.2.2.2.1 2)), (1, .ref (G.2.2.2.1 1))]) B.1.1 B.1.2.1 dX3_readFrom_1 rfl hl (by decide) rfl (fun ls hl => ?_)
  refine lv_iconst (v := 0) B.1.1 B.1.2.1 dX3_readFrom_2 (by decide) ?_
  refine lv_istore_n (lv' := [(3, .int 0), (2, .int 0), (0, .ref (G.2.2.2.1 2)), (1, .ref (G.2.2.2.1 1))]) B.1.1 B.1.2.1 dX3_readFrom_3 rfl hl (by decide) rfl (fun ls hl => ?_)
  exact bX3_readFrom_4 hA B hR  hret _ _ _ _ _ _ _ hf w (lv_sub hl [2, 3, 1, 0] rfl)
set_option maxHeartbeats 4000000 in
set_option maxRecDepth 100000 in
theorem mX3_readFrom (l : Launch) (G : hy_G) (sz : Nat) (σ : hy_S) (o : hy_S × Int32) (hf : fX3_readFrom σ = some o) : hy_M l yX3_readFrom wsX3_readFrom ({ frames := 5, cells := 0, slots := 0, locals := 109 }) cw G σ sz [.ref (G.2.2.2.1 2), .ref (G.2.2.2.1 1)] o := by
  refine Met.ofW (cc := cX3_readFrom) (maxL := 6) (ret := (some .int)) (by decide +kernel) rfl ?_
  intro p e s m args below meth c s₁ B hml hv
  obtain ⟨rfl, hsz, hP, hK, hD0, hN⟩ := hv
  have hx := B.exec
  have hb := B.bytes
  have hr := B.returns
  have hts := atoms_spec (ws := wsX3_readFrom) B.pre
  have hown : s.vm.findClass RX3 = some m.cls := findClass_of_methodNamed B.named
  have hlocks := B.notSynchronized
  subst hsz
  have hD := hD0.self (sz := s.heap.size)
  have hA : ∀ q : Nat, s.heap.size ≤ q → va_A (cw G σ) s.heap.size q := fun q h => Or.inr h
  have hS : va_S (va_A (cw G σ) s.heap.size) s.heap s.heap [] := va_S.rf
  have hl := lv_entry ([.ref (G.2.2.2.1 2), .ref (G.2.2.2.1 1)]) (n := 6) (Nat.le_of_ble_eq_true rfl)
  rw [lg_entry_eq]
  generalize (lg_sl ([.ref (G.2.2.2.1 2), .ref (G.2.2.2.1 1)]) ++ List.replicate (6 - (lg_sl ([.ref (G.2.2.2.1 2), .ref (G.2.2.2.1 1)])).length) Slot.unset).toArray = ls at hl ⊢
  have hl : lv_has ls 6 [(0, .ref (G.2.2.2.1 2)), (1, .ref (G.2.2.2.1 1))] := hl
  refine bX3_readFrom_0 (A := va_A (cw G σ) s.heap.size) hA ⟨⟨hx, hb, hml, hown, hts⟩, hK, hN⟩ ⟨Nat.le_of_ble_eq_true rfl, Nat.le_of_ble_eq_true rfl⟩ (o := o) (fun τ v pc H locs ls ho w d => ?_) σ _ _ _ hf ⟨hP, hD, hS⟩ hl
  exact W.iret hx hb hr (fun t ht hW => ⟨⟨v, τ, rfl, ⟨by rw [ho], by rw [ho]⟩, by have h9 := w.1; rw [← ht] at h9; exact h9⟩, w.2.2.F ht⟩) w.2.2.2.2 d
theorem in_X9_check_X9 : ∀ w ∈ u_ws RX9 TX9 11, w ∈ wsX9_check := fun _ h => xt1 (xl (xl (xl (xl (xl (xl (xr (h))))))))
noncomputable def fX9_check_65 (σ : hy_S) (s0 : Int32) (s1 : Int32) (x3 : Int32) : Option (hy_S × Int32 × Nat) := hy_bd (fX4_countNote σ s1 s0) (fun σ1 v2 => some (σ1, x3, 0))
noncomputable def fX9_check (σ : hy_S) (x1 : Int32) : Option (hy_S × Int32 × Nat) := hy_bd (fX3_readFrom σ) (fun σ1 v2 => hy_bd (fX7_clear σ1) (fun σ4 v5 => hy_bt (fX9_needIndex σ4 x1 8) some (fun σ7 v8 => hy_pf σ7 0 v2 (fun σ11 => (if v2 = (-1) then hy_bd (fX9_falsehoodAt σ11 x1) (fun σ14 v15 => (if v15 = 0 then fX9_check_65 σ14 0 x1 v15 else fX9_check_65 σ14 1 x1 v15)) else some (σ11, 0, 2))))))
set_option maxHeartbeats 4000000 in
set_option maxRecDepth 100000 in
theorem bX9_check_65 (hA : ∀ q : Nat, s.heap.size ≤ q → A q) (B : hy_B RX9 cX9_check 4 wsX9_check G A p s m args c) (hR : 7 ≤ R.frames ∧ 134 ≤ R.locals) {o : hy_S × Int32 × Nat}  (ho : o.2.2 = 0) (hret : ∀ (σ : hy_S) (v : Int32) (pc : Nat) (H : Heap) (locs : List Loc) (ls : Array Slot), o = (σ, v, 0) → hy_w cw G A s σ H locs → decode cX9_check pc = .ok (.ireturn, 1) → W p l e R s m args below meth c H locs 0 0 Q (F0 m pc ls [.int v])) (σ : hy_S) (s0 : Int32) (s1 : Int32) (x3 : Int32) (H : Heap) (locs : List Loc) (ls : Array Slot) (hf : fX9_check_65 σ s0 s1 x3 = some o) (w : hy_w cw G A s σ H locs) (hl : lv_has ls 4 [(3, .int x3)]) : W p l e R s m args below meth c H locs 0 0 Q (F0 m 65 ls [.int s0, .int s1, .ref (G.2.2.2.1 7)]) := by
  unfold fX9_check_65 at hf
  obtain ⟨σ1, v2, h3, hf⟩ := hy_bd_some hf
  refine hy_cvv (As := [.int s1, .int s0]) (rest := []) (o := (σ1, v2)) cw_fix hA B w (fun sz => mX4_countNote l G sz σ s1 s0 _ h3) (cwV 2 B.1.2.2.2.2 gX9_check_X4_countNote rfl rfl rfl (by decide +kernel) ⟨by have := hR.1; show 0 + 1 ≤ _; omega, by have := hR.2; show 8 + (3 + 11) + 0 ≤ _; omega⟩) rfl (cwq_7 G σ) rfl hl.1 rfl (Nat.le_of_ble_eq_true rfl) dX9_check_65 ⟨Nat.zero_le _, Nat.zero_le _⟩ (fun H locs w => ?_)
  refine lv_iload_n B.1.1 B.1.2.1 dX9_check_68 rfl (lv_at hl 0 rfl) ?_
  exact hret _ _ _ _ _ _ (Option.some.inj hf).symm w dX9_check_69
set_option maxHeartbeats 4000000 in
set_option maxRecDepth 100000 in
theorem bX9_check_0 (hA : ∀ q : Nat, s.heap.size ≤ q → A q) (B : hy_B RX9 cX9_check 4 wsX9_check G A p s m args c) (hR : 7 ≤ R.frames ∧ 134 ≤ R.locals) {o : hy_S × Int32 × Nat}  (ho : o.2.2 = 0) (hret : ∀ (σ : hy_S) (v : Int32) (pc : Nat) (H : Heap) (locs : List Loc) (ls : Array Slot), o = (σ, v, 0) → hy_w cw G A s σ H locs → decode cX9_check pc = .ok (.ireturn, 1) → W p l e R s m args below meth c H locs 0 0 Q (F0 m pc ls [.int v])) (σ : hy_S) (x1 : Int32) (H : Heap) (locs : List Loc) (ls : Array Slot) (hf : fX9_check σ x1 = some o) (w : hy_w cw G A s σ H locs) (hl : lv_has ls 4 [(0, .ref (G.2.2.2.1 0)), (1, .int x1)]) : W p l e R s m args below meth c H locs 0 0 Q (F0 m 0 ls []) := by
  unfold fX9_check at hf
  refine lv_aload_n B.1.1 B.1.2.1 dX9_check_0 rfl (lv_at hl 0 rfl) ?_
  refine hy_get (k := 1) (v := .ref (G.2.2.2.1 2)) B w (cwq_0 G) rfl in_X9_check_X9 (by decide) (by decide +kernel) rfl dX9_check_1 ?_
  refine lv_aload_n B.1.1 B.1.2.1 dX9_check_4 rfl (lv_at hl 0 rfl) ?_
  refine hy_get (k := 0) (v := .ref (G.2.2.2.1 1)) B w (cwq_0 G) rfl in_X9_check_X9 (by decide) (by decide +kernel) rfl dX9_check_5 ?_
  obtain ⟨σ1, v2, h3, hf⟩ := hy_bd_some hf
  refine hy_cv (As := [.ref (G.2.2.2.1 1)]) (rest := []) (o := (σ1, v2)) cw_fix hA B w (fun sz => mX3_readFrom l G sz σ  _ h3) (cwV 1 B.1.2.2.2.2 gX9_check_X3_readFrom rfl rfl rfl (by decide +kernel) ⟨by have := hR.1; show 5 + 1 ≤ _; omega, by have := hR.2; show 8 + (6 + 11) + 109 ≤ _; omega⟩) rfl (cwq_2 G σ) rfl hl.1 rfl (Nat.le_of_ble_eq_true rfl) dX9_check_8 ⟨Nat.zero_le _, Nat.zero_le _⟩ (fun H locs w => ?_)
  refine lv_istore_n (lv' := [(2, .int v2), (0, .ref (G.2.2.2.1 0)), (1, .int x1)]) B.1.1 B.1.2.1 dX9_check_11 rfl hl (by decide) rfl (fun ls hl => ?_)
  refine lv_aload_n B.1.1 B.1.2.1 dX9_check_12 rfl (lv_at hl 1 rfl) ?_
  refine hy_get (k := 0) (v := .ref (G.2.2.2.1 1)) B w (cwq_0 G) rfl in_X9_check_X9 (by decide) (by decide +kernel) rfl dX9_check_13 ?_
  obtain ⟨σ4, v5, h6, hf⟩ := hy_bd_some hf
  refine hy_cvv (As := []) (rest := []) (o := (σ4, v5)) cw_fix hA B w (fun sz => mX7_clear l G sz σ1  _ h6) (cwV 0 B.1.2.2.2.2 gX9_check_X7_clear rfl rfl rfl (by decide +kernel) ⟨by have := hR.1; show 0 + 1 ≤ _; omega, by have := hR.2; show 8 + (1 + 11) + 0 ≤ _; omega⟩) rfl (cwq_1 G σ1) rfl hl.1 rfl (Nat.le_of_ble_eq_true rfl) dX9_check_16 ⟨Nat.zero_le _, Nat.zero_le _⟩ (fun H locs w => ?_)
  refine lv_iload_n B.1.1 B.1.2.1 dX9_check_19 rfl (lv_at hl 2 rfl) ?_
  refine lv_bipush (v := 8) B.1.1 B.1.2.1 dX9_check_20 (by decide) ?_
  rcases hy_bt_some hf with ⟨σ7, v8, h9, hf⟩ | ⟨h9, h10⟩
  · refine hy_csv (As := [.int x1, .int 8]) (rest := []) (o := (σ7, v8)) cw_fix hA B w (fun sz => mX9_needIndex l G sz σ4 x1 8 _ h9 rfl) (cwS 2 B.1.2.2.2.2 gX9_check_X9_needIndex rfl rfl rfl (by decide +kernel) ⟨by have := hR.1; show 6 + 1 ≤ _; omega, by have := hR.2; show 8 + (2 + 11) + 82 ≤ _; omega⟩) rfl hl.1 rfl (Nat.le_of_ble_eq_true rfl) dX9_check_22 ⟨Nat.zero_le _, Nat.zero_le _⟩ (fun H locs w => ?_)
    refine lv_aload_n B.1.1 B.1.2.1 dX9_check_25 rfl (lv_at hl 1 rfl) ?_
    refine lv_iload_n B.1.1 B.1.2.1 dX9_check_26 rfl (lv_at hl 0 rfl) ?_
    obtain ⟨σ11, e12, hf⟩ := hy_pf_some hf
    refine hy_put (k := 9) B w (cwq_0 G) rfl in_X9_check_X9 tyX9 tyX9_ok nmX9 (by decide) (by decide +kernel) rfl rfl (by show 9 < 11; decide) (cwp_0 G) e12 dX9_check_27 (fun H locs w => ?_)
    refine lv_iload_n B.1.1 B.1.2.1 dX9_check_30 rfl (lv_at hl 0 rfl) ?_
    refine lv_iconst (v := (-1)) B.1.1 B.1.2.1 dX9_check_31 (by decide) ?_
    refine lv_icmp_eq (tgt := 45) B.1.1 B.1.2.1 dX9_check_32 (by decide) (fun c13 => ?_) (fun c13 => ?_)
    · rw [if_pos c13] at hf
      refine lv_aload_n B.1.1 B.1.2.1 dX9_check_45 rfl (lv_at hl 1 rfl) ?_
      refine lv_iload_n B.1.1 B.1.2.1 dX9_check_46 rfl (lv_at hl 2 rfl) ?_
      obtain ⟨σ14, v15, h16, hf⟩ := hy_bd_some hf
      refine hy_cv (As := [.int x1]) (rest := []) (o := (σ14, v15)) cw_fix hA B w (fun sz => mX9_falsehoodAt l G sz σ11 x1 _ h16) (cwV 1 B.1.2.2.2.2 gX9_check_X9_falsehoodAt rfl rfl rfl (by decide +kernel) ⟨by have := hR.1; show 1 + 1 ≤ _; omega, by have := hR.2; show 8 + (3 + 11) + 22 ≤ _; omega⟩) rfl (cwq_0 G σ11) rfl hl.1 rfl (Nat.le_of_ble_eq_true rfl) dX9_check_47 ⟨Nat.zero_le _, Nat.zero_le _⟩ (fun H locs w => ?_)
      refine lv_istore_n (lv' := [(3, .int v15), (2, .int v2), (0, .ref (G.2.2.2.1 0)), (1, .int x1)]) B.1.1 B.1.2.1 dX9_check_50 rfl hl (by decide) rfl (fun ls hl => ?_)
      refine lv_aload_n B.1.1 B.1.2.1 dX9_check_51 rfl (lv_at hl 2 rfl) ?_
      refine hy_get (k := 6) (v := .ref (G.2.2.2.1 7)) B w (cwq_0 G) rfl in_X9_check_X9 (by decide) (by decide +kernel) rfl dX9_check_52 ?_
      refine lv_iload_n B.1.1 B.1.2.1 dX9_check_55 rfl (lv_at hl 3 rfl) ?_
      refine lv_iload_n B.1.1 B.1.2.1 dX9_check_56 rfl (lv_at hl 0 rfl) ?_
      refine lv_if_eq (tgt := 64) B.1.1 B.1.2.1 dX9_check_57 (by decide) (fun c17 => ?_) (fun c17 => ?_)
      · rw [if_pos c17] at hf
        refine lv_iconst (v := 0) B.1.1 B.1.2.1 dX9_check_64 (by decide) ?_
        exact bX9_check_65 hA B hR  ho hret _ _ _ _ _ _ _ hf w (lv_sub hl [0] rfl)
      · rw [if_neg c17] at hf
        refine lv_iconst (v := 1) B.1.1 B.1.2.1 dX9_check_60 (by decide) ?_
        refine lv_goto (tgt := 65) B.1.1 B.1.2.1 dX9_check_61 (by decide) ?_
        exact bX9_check_65 hA B hR  ho hret _ _ _ _ _ _ _ hf w (lv_sub hl [0] rfl)
    · rw [if_neg c13] at hf
      exact absurd ((congrArg (fun z => z.2.2) (Option.some.inj hf)).trans ho) (Nat.succ_ne_zero _)
  · exact absurd ho h10
set_option maxHeartbeats 4000000 in
set_option maxRecDepth 100000 in
theorem mX9_check (l : Launch) (G : hy_G) (sz : Nat) (σ : hy_S) (x1 : Int32) (o : hy_S × Int32 × Nat) (hf : fX9_check σ x1 = some o) (ho : o.2.2 = 0) : hy_M l yX9_check wsX9_check ({ frames := 7, cells := 0, slots := 0, locals := 134 }) cw G σ sz [.ref (G.2.2.2.1 0), .int x1] (o.1, o.2.1) := by
  refine Met.ofW (cc := cX9_check) (maxL := 4) (ret := (some .int)) (by decide +kernel) rfl ?_
  intro p e s m args below meth c s₁ B hml hv
  obtain ⟨rfl, hsz, hP, hK, hD0, hN⟩ := hv
  have hx := B.exec
  have hb := B.bytes
  have hr := B.returns
  have hts := atoms_spec (ws := wsX9_check) B.pre
  have hown : s.vm.findClass RX9 = some m.cls := findClass_of_methodNamed B.named
  have hlocks := B.notSynchronized
  subst hsz
  have hD := hD0.self (sz := s.heap.size)
  have hA : ∀ q : Nat, s.heap.size ≤ q → va_A (cw G σ) s.heap.size q := fun q h => Or.inr h
  have hS : va_S (va_A (cw G σ) s.heap.size) s.heap s.heap [] := va_S.rf
  have hl := lv_entry ([.ref (G.2.2.2.1 0), .int x1]) (n := 4) (Nat.le_of_ble_eq_true rfl)
  rw [lg_entry_eq]
  generalize (lg_sl ([.ref (G.2.2.2.1 0), .int x1]) ++ List.replicate (4 - (lg_sl ([.ref (G.2.2.2.1 0), .int x1])).length) Slot.unset).toArray = ls at hl ⊢
  have hl : lv_has ls 4 [(0, .ref (G.2.2.2.1 0)), (1, .int x1)] := hl
  refine bX9_check_0 (A := va_A (cw G σ) s.heap.size) hA ⟨⟨hx, hb, hml, hown, hts⟩, hK, hN⟩ ⟨Nat.le_of_ble_eq_true rfl, Nat.le_of_ble_eq_true rfl⟩ (o := o) ho (fun τ v pc H locs ls ho w d => ?_) σ x1 _ _ _ hf ⟨hP, hD, hS⟩ hl
  exact W.iret hx hb hr (fun t ht hW => ⟨⟨v, τ, rfl, ⟨by rw [ho], by rw [ho]⟩, by have h9 := w.1; rw [← ht] at h9; exact h9⟩, w.2.2.F ht⟩) w.2.2.2.2 d
set_option maxHeartbeats 4000000 in
set_option maxRecDepth 100000 in
theorem tbX9_check_65 (hA : ∀ q : Nat, s.heap.size ≤ q → A q) (B : hy_B RX9 cX9_check 4 wsX9_check G A p s m args c) (hR : 7 ≤ R.frames ∧ 134 ≤ R.locals) {o : hy_S × Int32 × Nat}  (ho : ¬ o.2.2 = 0) (hT : hy_TC l R meth c) (σ : hy_S) (s0 : Int32) (s1 : Int32) (x3 : Int32) (H : Heap) (locs : List Loc) (ls : Array Slot) (hf : fX9_check_65 σ s0 s1 x3 = some o) (w : hy_w cw G A s σ H locs) (hl : lv_has ls 4 [(3, .int x3)]) : W p l e R s m args below meth c H locs 0 0 (vx_MQ below Qc (hy_X cw G o A) args s 1 6 A) (F0 m 65 ls [.int s0, .int s1, .ref (G.2.2.2.1 7)]) := by
  unfold fX9_check_65 at hf
  obtain ⟨σ1, v2, h3, hf⟩ := hy_bd_some hf
  refine hy_cvv (As := [.int s1, .int s0]) (rest := []) (o := (σ1, v2)) cw_fix hA B w (fun sz => mX4_countNote l G sz σ s1 s0 _ h3) (cwV 2 B.1.2.2.2.2 gX9_check_X4_countNote rfl rfl rfl (by decide +kernel) ⟨by have := hR.1; show 0 + 1 ≤ _; omega, by have := hR.2; show 8 + (3 + 11) + 0 ≤ _; omega⟩) rfl (cwq_7 G σ) rfl hl.1 rfl (Nat.le_of_ble_eq_true rfl) dX9_check_65 ⟨Nat.zero_le _, Nat.zero_le _⟩ (fun H locs w => ?_)
  refine lv_iload_n B.1.1 B.1.2.1 dX9_check_68 rfl (lv_at hl 0 rfl) ?_
  exact absurd (congrArg (fun z => z.2.2) (Option.some.inj hf)).symm ho
set_option maxHeartbeats 4000000 in
set_option maxRecDepth 100000 in
theorem tbX9_check_0 (hA : ∀ q : Nat, s.heap.size ≤ q → A q) (B : hy_B RX9 cX9_check 4 wsX9_check G A p s m args c) (hR : 7 ≤ R.frames ∧ 134 ≤ R.locals) {o : hy_S × Int32 × Nat}  (ho : ¬ o.2.2 = 0) (hT : hy_TC l R meth c) (σ : hy_S) (x1 : Int32) (H : Heap) (locs : List Loc) (ls : Array Slot) (hf : fX9_check σ x1 = some o) (w : hy_w cw G A s σ H locs) (hl : lv_has ls 4 [(0, .ref (G.2.2.2.1 0)), (1, .int x1)]) : W p l e R s m args below meth c H locs 0 0 (vx_MQ below Qc (hy_X cw G o A) args s 1 6 A) (F0 m 0 ls []) := by
  unfold fX9_check at hf
  refine lv_aload_n B.1.1 B.1.2.1 dX9_check_0 rfl (lv_at hl 0 rfl) ?_
  refine hy_get (k := 1) (v := .ref (G.2.2.2.1 2)) B w (cwq_0 G) rfl in_X9_check_X9 (by decide) (by decide +kernel) rfl dX9_check_1 ?_
  refine lv_aload_n B.1.1 B.1.2.1 dX9_check_4 rfl (lv_at hl 0 rfl) ?_
  refine hy_get (k := 0) (v := .ref (G.2.2.2.1 1)) B w (cwq_0 G) rfl in_X9_check_X9 (by decide) (by decide +kernel) rfl dX9_check_5 ?_
  obtain ⟨σ1, v2, h3, hf⟩ := hy_bd_some hf
  refine hy_cv (As := [.ref (G.2.2.2.1 1)]) (rest := []) (o := (σ1, v2)) cw_fix hA B w (fun sz => mX3_readFrom l G sz σ  _ h3) (cwV 1 B.1.2.2.2.2 gX9_check_X3_readFrom rfl rfl rfl (by decide +kernel) ⟨by have := hR.1; show 5 + 1 ≤ _; omega, by have := hR.2; show 8 + (6 + 11) + 109 ≤ _; omega⟩) rfl (cwq_2 G σ) rfl hl.1 rfl (Nat.le_of_ble_eq_true rfl) dX9_check_8 ⟨Nat.zero_le _, Nat.zero_le _⟩ (fun H locs w => ?_)
  refine lv_istore_n (lv' := [(2, .int v2), (0, .ref (G.2.2.2.1 0)), (1, .int x1)]) B.1.1 B.1.2.1 dX9_check_11 rfl hl (by decide) rfl (fun ls hl => ?_)
  refine lv_aload_n B.1.1 B.1.2.1 dX9_check_12 rfl (lv_at hl 1 rfl) ?_
  refine hy_get (k := 0) (v := .ref (G.2.2.2.1 1)) B w (cwq_0 G) rfl in_X9_check_X9 (by decide) (by decide +kernel) rfl dX9_check_13 ?_
  obtain ⟨σ4, v5, h6, hf⟩ := hy_bd_some hf
  refine hy_cvv (As := []) (rest := []) (o := (σ4, v5)) cw_fix hA B w (fun sz => mX7_clear l G sz σ1  _ h6) (cwV 0 B.1.2.2.2.2 gX9_check_X7_clear rfl rfl rfl (by decide +kernel) ⟨by have := hR.1; show 0 + 1 ≤ _; omega, by have := hR.2; show 8 + (1 + 11) + 0 ≤ _; omega⟩) rfl (cwq_1 G σ1) rfl hl.1 rfl (Nat.le_of_ble_eq_true rfl) dX9_check_16 ⟨Nat.zero_le _, Nat.zero_le _⟩ (fun H locs w => ?_)
  refine lv_iload_n B.1.1 B.1.2.1 dX9_check_19 rfl (lv_at hl 2 rfl) ?_
  refine lv_bipush (v := 8) B.1.1 B.1.2.1 dX9_check_20 (by decide) ?_
  rcases hy_bt_some hf with ⟨σ7, v8, h9, hf⟩ | ⟨h9, h10⟩
  · refine hy_csv (As := [.int x1, .int 8]) (rest := []) (o := (σ7, v8)) cw_fix hA B w (fun sz => mX9_needIndex l G sz σ4 x1 8 _ h9 rfl) (cwS 2 B.1.2.2.2.2 gX9_check_X9_needIndex rfl rfl rfl (by decide +kernel) ⟨by have := hR.1; show 6 + 1 ≤ _; omega, by have := hR.2; show 8 + (2 + 11) + 82 ≤ _; omega⟩) rfl hl.1 rfl (Nat.le_of_ble_eq_true rfl) dX9_check_22 ⟨Nat.zero_le _, Nat.zero_le _⟩ (fun H locs w => ?_)
    refine lv_aload_n B.1.1 B.1.2.1 dX9_check_25 rfl (lv_at hl 1 rfl) ?_
    refine lv_iload_n B.1.1 B.1.2.1 dX9_check_26 rfl (lv_at hl 0 rfl) ?_
    obtain ⟨σ11, e12, hf⟩ := hy_pf_some hf
    refine hy_put (k := 9) B w (cwq_0 G) rfl in_X9_check_X9 tyX9 tyX9_ok nmX9 (by decide) (by decide +kernel) rfl rfl (by show 9 < 11; decide) (cwp_0 G) e12 dX9_check_27 (fun H locs w => ?_)
    refine lv_iload_n B.1.1 B.1.2.1 dX9_check_30 rfl (lv_at hl 0 rfl) ?_
    refine lv_iconst (v := (-1)) B.1.1 B.1.2.1 dX9_check_31 (by decide) ?_
    refine lv_icmp_eq (tgt := 45) B.1.1 B.1.2.1 dX9_check_32 (by decide) (fun c13 => ?_) (fun c13 => ?_)
    · rw [if_pos c13] at hf
      refine lv_aload_n B.1.1 B.1.2.1 dX9_check_45 rfl (lv_at hl 1 rfl) ?_
      refine lv_iload_n B.1.1 B.1.2.1 dX9_check_46 rfl (lv_at hl 2 rfl) ?_
      obtain ⟨σ14, v15, h16, hf⟩ := hy_bd_some hf
      refine hy_cv (As := [.int x1]) (rest := []) (o := (σ14, v15)) cw_fix hA B w (fun sz => mX9_falsehoodAt l G sz σ11 x1 _ h16) (cwV 1 B.1.2.2.2.2 gX9_check_X9_falsehoodAt rfl rfl rfl (by decide +kernel) ⟨by have := hR.1; show 1 + 1 ≤ _; omega, by have := hR.2; show 8 + (3 + 11) + 22 ≤ _; omega⟩) rfl (cwq_0 G σ11) rfl hl.1 rfl (Nat.le_of_ble_eq_true rfl) dX9_check_47 ⟨Nat.zero_le _, Nat.zero_le _⟩ (fun H locs w => ?_)
      refine lv_istore_n (lv' := [(3, .int v15), (2, .int v2), (0, .ref (G.2.2.2.1 0)), (1, .int x1)]) B.1.1 B.1.2.1 dX9_check_50 rfl hl (by decide) rfl (fun ls hl => ?_)
      refine lv_aload_n B.1.1 B.1.2.1 dX9_check_51 rfl (lv_at hl 2 rfl) ?_
      refine hy_get (k := 6) (v := .ref (G.2.2.2.1 7)) B w (cwq_0 G) rfl in_X9_check_X9 (by decide) (by decide +kernel) rfl dX9_check_52 ?_
      refine lv_iload_n B.1.1 B.1.2.1 dX9_check_55 rfl (lv_at hl 3 rfl) ?_
      refine lv_iload_n B.1.1 B.1.2.1 dX9_check_56 rfl (lv_at hl 0 rfl) ?_
      refine lv_if_eq (tgt := 64) B.1.1 B.1.2.1 dX9_check_57 (by decide) (fun c17 => ?_) (fun c17 => ?_)
      · rw [if_pos c17] at hf
        refine lv_iconst (v := 0) B.1.1 B.1.2.1 dX9_check_64 (by decide) ?_
        exact tbX9_check_65 hA B hR  ho hT _ _ _ _ _ _ _ hf w (lv_sub hl [0] rfl)
      · rw [if_neg c17] at hf
        refine lv_iconst (v := 1) B.1.1 B.1.2.1 dX9_check_60 (by decide) ?_
        refine lv_goto (tgt := 65) B.1.1 B.1.2.1 dX9_check_61 (by decide) ?_
        exact tbX9_check_65 hA B hR  ho hT _ _ _ _ _ _ _ hf w (lv_sub hl [0] rfl)
    · rw [if_neg c13] at hf
      have he := Option.some.inj hf
      subst he
      exact hy_throwS (k := 2) (text := "the text is no note") B w hT ⟨by have := hR.1; omega, by have := hR.2; omega⟩ (by decide +kernel) (by decide +kernel) (by decide +kernel) (by decide +kernel) (by decide +kernel) (by decide +kernel) (by decide +kernel) (by decide +kernel) hl.1 dX9_check_35 dX9_check_38 dX9_check_39 dX9_check_41 dX9_check_44
  · exact hy_tsv (As := [.int x1, .int 8]) (rest := []) hA B w hT (fun sz => tX9_needIndex l hT.1 G sz σ4 x1 8 _ h9 h10) (cwS 2 B.1.2.2.2.2 gX9_check_X9_needIndex rfl rfl rfl (by decide +kernel) ⟨by have := hR.1; show 6 + 1 ≤ _; omega, by have := hR.2; show 8 + (2 + 11) + 82 ≤ _; omega⟩) rfl hl.1 rfl (Nat.le_of_ble_eq_true rfl) dX9_check_22
set_option maxHeartbeats 4000000 in
set_option maxRecDepth 100000 in
theorem tX9_check (l : Launch) (hlt : l.stackTraces = false) (G : hy_G) (sz : Nat) (σ : hy_S) (x1 : Int32) (o : hy_S × Int32 × Nat) (hf : fX9_check σ x1 = some o) (ho : ¬ o.2.2 = 0) : hy_MT l yX9_check wsX9_check ({ frames := 7, cells := 1, slots := 6, locals := 134 }) cw G σ sz [.ref (G.2.2.2.1 0), .int x1] o := by
  refine vx_ofW (cc := cX9_check) (maxL := 4) (ret := (some .int)) (by decide +kernel) rfl ?_
  intro p e s m args below meth c s₁ B hml h0 hv
  obtain ⟨rfl, hsz, hP, hK, hD0, hN⟩ := hv
  have hx := B.exec
  have hb := B.bytes
  have hr := B.returns
  have hts := atoms_spec (ws := wsX9_check) B.pre
  have hown : s.vm.findClass RX9 = some m.cls := findClass_of_methodNamed B.named
  have hlocks := B.notSynchronized
  subst hsz
  have hD := hD0.self (sz := s.heap.size)
  have hA : ∀ q : Nat, s.heap.size ≤ q → va_A (cw G σ) s.heap.size q := fun q h => Or.inr h
  have hS : va_S (va_A (cw G σ) s.heap.size) s.heap s.heap [] := va_S.rf
  have hl := lv_entry ([.ref (G.2.2.2.1 0), .int x1]) (n := 4) (Nat.le_of_ble_eq_true rfl)
  rw [lg_entry_eq]
  generalize (lg_sl ([.ref (G.2.2.2.1 0), .int x1]) ++ List.replicate (4 - (lg_sl ([.ref (G.2.2.2.1 0), .int x1])).length) Slot.unset).toArray = ls at hl ⊢
  have hl : lv_has ls 4 [(0, .ref (G.2.2.2.1 0)), (1, .int x1)] := hl
  exact tbX9_check_0 (A := va_A (cw G σ) s.heap.size) hA ⟨⟨hx, hb, hml, hown, hts⟩, hK, hN⟩ ⟨Nat.le_of_ble_eq_true rfl, Nat.le_of_ble_eq_true rfl⟩ (o := o) ho ⟨hlt, hlocks, h0, Nat.le_refl _, Nat.le_refl _⟩ σ x1 _ _ _ hf ⟨hP, hD, hS⟩ hl
noncomputable def fX10_word (σ : hy_S) (x0 : Int32) : Option (hy_S × Int32) := (if x0 = 0 then some (σ, 0) else (if x0 = 1 then some (σ, 1) else (if x0 = 2 then some (σ, 2) else (if x0 = 3 then some (σ, 3) else some (σ, 4)))))
set_option maxHeartbeats 4000000 in
set_option maxRecDepth 100000 in
theorem bX10_word_0 (hA : ∀ q : Nat, s.heap.size ≤ q → A q) (B : hy_B RX10 cX10_word 1 wsX10_word G A p s m args c) (hR : 0 ≤ R.frames ∧ 0 ≤ R.locals) {o : hy_S × Int32}  (hret : ∀ (σ : hy_S) (v : Int32) (pc : Nat) (H : Heap) (locs : List Loc) (ls : Array Slot), o = (σ, v) → hy_w mw G A s σ H locs → decode cX10_word pc = .ok (.areturn, 1) → W p l e R s m args below meth c H locs 0 0 Q (F0 m pc ls [.ref (G.2.2.2.2.2.1 (Int32.toNatClampNeg v))])) (σ : hy_S) (x0 : Int32) (H : Heap) (locs : List Loc) (ls : Array Slot) (hf : fX10_word σ x0 = some o) (w : hy_w mw G A s σ H locs) (hl : lv_has ls 1 [(0, .int x0)]) : W p l e R s m args below meth c H locs 0 0 Q (F0 m 0 ls []) := by
  unfold fX10_word at hf
  refine lv_iload_n B.1.1 B.1.2.1 dX10_word_0 rfl (lv_at hl 0 rfl) ?_
  by_cases c1 : x0 = 0
  · rw [if_pos c1] at hf
    have c1e : Int32.toInt x0 = 0 := by rw [c1]; rfl
    refine lv_tableIn (tgt := 32) B.1.1 B.1.2.1 dX10_word_1 (by rw [c1e]; decide) (by rw [c1e]; decide) (by rw [c1e]; rfl) (by decide) ?_
    refine va_ldcS B.1.1 B.1.2.1 B.1.2.2.2.1 (B.2.2.1.2.2.2.2.2 (RX10, 173, "jar", 0) (by decide +kernel)) dX10_word_32 ?_
    exact hret _ _ _ _ _ _ (Option.some.inj hf).symm w dX10_word_34
  · rw [if_neg c1] at hf
    by_cases c2 : x0 = 1
    · rw [if_pos c2] at hf
      have c2e : Int32.toInt x0 = 1 := by rw [c2]; rfl
      refine lv_tableIn (tgt := 35) B.1.1 B.1.2.1 dX10_word_1 (by rw [c2e]; decide) (by rw [c2e]; decide) (by rw [c2e]; rfl) (by decide) ?_
      refine va_ldcS B.1.1 B.1.2.1 B.1.2.2.2.1 (B.2.2.1.2.2.2.2.2 (RX10, 175, "oil", 1) (by decide +kernel)) dX10_word_35 ?_
      exact hret _ _ _ _ _ _ (Option.some.inj hf).symm w dX10_word_37
    · rw [if_neg c2] at hf
      by_cases c3 : x0 = 2
      · rw [if_pos c3] at hf
        have c3e : Int32.toInt x0 = 2 := by rw [c3]; rfl
        refine lv_tableIn (tgt := 38) B.1.1 B.1.2.1 dX10_word_1 (by rw [c3e]; decide) (by rw [c3e]; decide) (by rw [c3e]; rfl) (by decide) ?_
        refine va_ldcS B.1.1 B.1.2.1 B.1.2.2.2.1 (B.2.2.1.2.2.2.2.2 (RX10, 176, "maker", 2) (by decide +kernel)) dX10_word_38 ?_
        exact hret _ _ _ _ _ _ (Option.some.inj hf).symm w dX10_word_40
      · rw [if_neg c3] at hf
        by_cases c4 : x0 = 3
        · rw [if_pos c4] at hf
          have c4e : Int32.toInt x0 = 3 := by rw [c4]; rfl
          refine lv_tableIn (tgt := 41) B.1.1 B.1.2.1 dX10_word_1 (by rw [c4e]; decide) (by rw [c4e]; decide) (by rw [c4e]; rfl) (by decide) ?_
          refine va_ldcS B.1.1 B.1.2.1 B.1.2.2.2.1 (B.2.2.1.2.2.2.2.2 (RX10, 177, "year", 3) (by decide +kernel)) dX10_word_41 ?_
          exact hret _ _ _ _ _ _ (Option.some.inj hf).symm w dX10_word_43
        · rw [if_neg c4] at hf
          have c1t := lv_neT (a := 0) c1 rfl
          have c2t := lv_neT (a := 1) c2 rfl
          have c3t := lv_neT (a := 2) c3 rfl
          have c4t := lv_neT (a := 3) c4 rfl
          refine lv_tableOut (tgt := 44) B.1.1 B.1.2.1 dX10_word_1 (by omega) (by decide) ?_
          refine va_ldcS B.1.1 B.1.2.1 B.1.2.2.2.1 (B.2.2.1.2.2.2.2.2 (RX10, 178, "due", 4) (by decide +kernel)) dX10_word_44 ?_
          exact hret _ _ _ _ _ _ (Option.some.inj hf).symm w dX10_word_46
set_option maxHeartbeats 4000000 in
set_option maxRecDepth 100000 in
theorem mX10_word (l : Launch) (G : hy_G) (sz : Nat) (σ : hy_S) (x0 : Int32) (o : hy_S × Int32) (hf : fX10_word σ x0 = some o) : hy_Mr l yX10_word wsX10_word ({ frames := 0, cells := 0, slots := 0, locals := 0 }) mw G σ sz [.int x0] o := by
  refine Met.ofW (cc := cX10_word) (maxL := 1) (ret := (some (.object "java/lang/String"))) (by decide +kernel) rfl ?_
  intro p e s m args below meth c s₁ B hml hv
  obtain ⟨rfl, hsz, hP, hK, hD0, hN⟩ := hv
  have hx := B.exec
  have hb := B.bytes
  have hr := B.returns
  have hts := atoms_spec (ws := wsX10_word) B.pre
  have hown : s.vm.findClass RX10 = some m.cls := findClass_of_methodNamed B.named
  have hlocks := B.notSynchronized
  subst hsz
  have hD := hD0.self (sz := s.heap.size)
  have hA : ∀ q : Nat, s.heap.size ≤ q → va_A (mw G σ) s.heap.size q := fun q h => Or.inr h
  have hS : va_S (va_A (mw G σ) s.heap.size) s.heap s.heap [] := va_S.rf
  have hl := lv_entry ([.int x0]) (n := 1) (Nat.le_of_ble_eq_true rfl)
  rw [lg_entry_eq]
  generalize (lg_sl ([.int x0]) ++ List.replicate (1 - (lg_sl ([.int x0])).length) Slot.unset).toArray = ls at hl ⊢
  have hl : lv_has ls 1 [(0, .int x0)] := hl
  refine bX10_word_0 (A := va_A (mw G σ) s.heap.size) hA ⟨⟨hx, hb, hml, hown, hts⟩, hK, hN⟩ ⟨Nat.le_of_ble_eq_true rfl, Nat.le_of_ble_eq_true rfl⟩ (o := o) (fun τ v pc H locs ls ho w d => ?_) σ x0 _ _ _ hf ⟨hP, hD, hS⟩ hl
  exact W.aret hx hb hr (Or.inl ⟨_, rfl⟩) (Or.inr ⟨_, rfl⟩) (fun t ht hW => ⟨⟨τ, _, rfl, by rw [ho], by rw [ho], by have h9 := w.1; rw [← ht] at h9; exact h9⟩, w.2.2.F ht⟩) w.2.2.2.2 d
theorem in_X10_isWord_X10 : ∀ w ∈ u_ws RX10 TX10 43, w ∈ wsX10_isWord := fun _ h => xt1 (xr (h))
noncomputable def fX10_isWord_67 (σ : hy_S) (x2 : Int32) : Option (hy_S × Int32) := hy_ck (x2 = 0 ∨ x2 = 1) (some (σ, x2))
noncomputable def fX10_isWord_60 (k24 : hy_S → Int32 → Int32 → Int32 → Option (hy_S × Int32)) (σ : hy_S) (s0 : Int32) (x1 : Int32) (x3 : Int32) : Option (hy_S × Int32) := k24 σ x1 s0 (x3 + 1)
noncomputable def fX10_isWord_24 : Nat → hy_S → Int32 → Int32 → Int32 → Option (hy_S × Int32)
  | 0, _, _, _, _ => none
  | n + 1, σ, x1, x2, x3 => (if x2 = 0 then fX10_isWord_67 σ x2 else hy_ck ((Int32.toNatClampNeg x1) < 5) ((if (hy_len (Int32.toNatClampNeg x1)) ≤ x3 then fX10_isWord_67 σ x2 else hy_ga σ 17 400 ((σ.2 7) + x3) (fun v4 => hy_ck ((Int32.toNatClampNeg x1) < 5 ∧ ¬ (x3 < 0 ∨ hy_sl.getD (Int32.toNatClampNeg x1) 0 ≤ Int32.toNatClampNeg x3)) ((if v4 = (hy_chr (Int32.toNatClampNeg x1) x3) then fX10_isWord_60 (fX10_isWord_24 n) σ 1 x1 x3 else fX10_isWord_60 (fX10_isWord_24 n) σ 0 x1 x3))))))
noncomputable def fX10_isWord_21 (σ : hy_S) (s0 : Int32) (x1 : Int32) : Option (hy_S × Int32) := fX10_isWord_24 hy_fu σ x1 s0 0
noncomputable def fX10_isWord (σ : hy_S) (x1 : Int32) : Option (hy_S × Int32) := hy_ck ((Int32.toNatClampNeg x1) < 5) ((if ((σ.2 5) - (σ.2 7)) = (hy_len (Int32.toNatClampNeg x1)) then fX10_isWord_21 σ 1 x1 else fX10_isWord_21 σ 0 x1))
set_option maxHeartbeats 4000000 in
set_option maxRecDepth 100000 in
theorem bX10_isWord_67 (hA : ∀ q : Nat, s.heap.size ≤ q → A q) (B : hy_B RX10 cX10_isWord 4 wsX10_isWord G A p s m args c) (hR : 4 ≤ R.frames ∧ 85 ≤ R.locals) {o : hy_S × Int32}  (hret : ∀ (σ : hy_S) (v : Int32) (pc : Nat) (H : Heap) (locs : List Loc) (ls : Array Slot), o = (σ, v) → (v = 0 ∨ v = 1) → hy_w mw G A s σ H locs → decode cX10_isWord pc = .ok (.ireturn, 1) → W p l e R s m args below meth c H locs 0 0 Q (F0 m pc ls [.int v])) (σ : hy_S) (x2 : Int32) (H : Heap) (locs : List Loc) (ls : Array Slot) (hf : fX10_isWord_67 σ x2 = some o) (w : hy_w mw G A s σ H locs) (hl : lv_has ls 4 [(2, .int x2)]) : W p l e R s m args below meth c H locs 0 0 Q (F0 m 67 ls []) := by
  unfold fX10_isWord_67 at hf
  refine lv_iload_n B.1.1 B.1.2.1 dX10_isWord_67 rfl (lv_at hl 0 rfl) ?_
  obtain ⟨c1, hf⟩ := hy_ck_some hf
  exact hret _ _ _ _ _ _ (Option.some.inj hf).symm c1 w dX10_isWord_68
set_option maxHeartbeats 4000000 in
set_option maxRecDepth 100000 in
theorem bX10_isWord_60 (hA : ∀ q : Nat, s.heap.size ≤ q → A q) (B : hy_B RX10 cX10_isWord 4 wsX10_isWord G A p s m args c) (hR : 4 ≤ R.frames ∧ 85 ≤ R.locals) {o : hy_S × Int32}  {k24 : hy_S → Int32 → Int32 → Int32 → Option (hy_S × Int32)} (hk24 : ∀ (σ : hy_S) (x1 : Int32) (x2 : Int32) (x3 : Int32) (H : Heap) (locs : List Loc) (ls : Array Slot), k24 σ x1 x2 x3 = some o → hy_w mw G A s σ H locs → lv_has ls 4 [(0, .ref (G.2.2.2.2.1 0)), (1, .ref (G.2.2.2.2.2.1 (Int32.toNatClampNeg x1))), (2, .int x2), (3, .int x3)] → W p l e R s m args below meth c H locs 0 0 Q (F0 m 24 ls [])) (hret : ∀ (σ : hy_S) (v : Int32) (pc : Nat) (H : Heap) (locs : List Loc) (ls : Array Slot), o = (σ, v) → (v = 0 ∨ v = 1) → hy_w mw G A s σ H locs → decode cX10_isWord pc = .ok (.ireturn, 1) → W p l e R s m args below meth c H locs 0 0 Q (F0 m pc ls [.int v])) (σ : hy_S) (s0 : Int32) (x1 : Int32) (x3 : Int32) (H : Heap) (locs : List Loc) (ls : Array Slot) (hf : fX10_isWord_60 k24 σ s0 x1 x3 = some o) (w : hy_w mw G A s σ H locs) (hl : lv_has ls 4 [(0, .ref (G.2.2.2.2.1 0)), (1, .ref (G.2.2.2.2.2.1 (Int32.toNatClampNeg x1))), (3, .int x3)]) : W p l e R s m args below meth c H locs 0 0 Q (F0 m 60 ls [.int s0]) := by
  unfold fX10_isWord_60 at hf
  refine lv_istore_n (lv' := [(2, .int s0), (0, .ref (G.2.2.2.2.1 0)), (1, .ref (G.2.2.2.2.2.1 (Int32.toNatClampNeg x1))), (3, .int x3)]) B.1.1 B.1.2.1 dX10_isWord_60 rfl hl (by decide) rfl (fun ls hl => ?_)
  refine lv_iinc (v := (x3 + 1)) (lv' := [(3, .int (x3 + 1)), (2, .int s0), (0, .ref (G.2.2.2.2.1 0)), (1, .ref (G.2.2.2.2.2.1 (Int32.toNatClampNeg x1)))]) B.1.1 B.1.2.1 dX10_isWord_61 hl (k := 3) rfl rfl (by decide) rfl (fun ls hl => ?_)
  refine lv_goto (tgt := 24) B.1.1 B.1.2.1 dX10_isWord_64 (by decide) ?_
  exact hk24 _ _ _ _ _ _ _ hf w (lv_sub hl [2, 3, 1, 0] rfl)
set_option maxHeartbeats 4000000 in
set_option maxRecDepth 100000 in
theorem bX10_isWord_24 (hA : ∀ q : Nat, s.heap.size ≤ q → A q) (B : hy_B RX10 cX10_isWord 4 wsX10_isWord G A p s m args c) (hR : 4 ≤ R.frames ∧ 85 ≤ R.locals) {o : hy_S × Int32}  (hret : ∀ (σ : hy_S) (v : Int32) (pc : Nat) (H : Heap) (locs : List Loc) (ls : Array Slot), o = (σ, v) → (v = 0 ∨ v = 1) → hy_w mw G A s σ H locs → decode cX10_isWord pc = .ok (.ireturn, 1) → W p l e R s m args below meth c H locs 0 0 Q (F0 m pc ls [.int v])) : ∀ (n : Nat) (σ : hy_S) (x1 : Int32) (x2 : Int32) (x3 : Int32) (H : Heap) (locs : List Loc) (ls : Array Slot), fX10_isWord_24 n σ x1 x2 x3 = some o → hy_w mw G A s σ H locs → lv_has ls 4 [(0, .ref (G.2.2.2.2.1 0)), (1, .ref (G.2.2.2.2.2.1 (Int32.toNatClampNeg x1))), (2, .int x2), (3, .int x3)] → W p l e R s m args below meth c H locs 0 0 Q (F0 m 24 ls []) := by
  intro n
  induction n with
  | zero => intro σ x1 x2 x3 H locs ls hf; cases hf
  | succ n hk24 =>
    intro σ x1 x2 x3 H locs ls hf w hl
    unfold fX10_isWord_24 at hf
    refine lv_iload_n B.1.1 B.1.2.1 dX10_isWord_24 rfl (lv_at hl 2 rfl) ?_
    refine lv_if_eq (tgt := 67) B.1.1 B.1.2.1 dX10_isWord_25 (by decide) (fun c1 => ?_) (fun c1 => ?_)
    · rw [if_pos c1] at hf
      exact bX10_isWord_67 hA B hR  hret _ _ _ _ _ hf w (lv_sub hl [2] rfl)
    · rw [if_neg c1] at hf
      refine lv_iload_n B.1.1 B.1.2.1 dX10_isWord_28 rfl (lv_at hl 3 rfl) ?_
      refine lv_aload_n B.1.1 B.1.2.1 dX10_isWord_29 rfl (lv_at hl 1 rfl) ?_
      obtain ⟨c2, hf⟩ := hy_ck_some hf
      refine hy_cvR (As := []) (rest := [.int x3]) (o := (σ, (hy_len (Int32.toNatClampNeg x1)))) mw_fix hA B w c2 (fun sz => mJ_length l mw mw_fix G sz σ (Int32.toNatClampNeg x1) c2) (cwV 0 B.1.2.2.2.2 gX10_isWord_J0_length_8abf5 rfl rfl rfl (by decide +kernel) ⟨by have := hR.1; show 1 + 1 ≤ _; omega, by have := hR.2; show 8 + (1 + 11) + 20 ≤ _; omega⟩) rfl hl.1 rfl (Nat.le_of_ble_eq_true rfl) dX10_isWord_30 ⟨Nat.zero_le _, Nat.zero_le _⟩ (fun H locs w => ?_)
      refine lv_icmp_ge (tgt := 67) B.1.1 B.1.2.1 dX10_isWord_33 (by decide) (fun c3 => ?_) (fun c3 => ?_)
      · rw [if_pos c3] at hf
        exact bX10_isWord_67 hA B hR  hret _ _ _ _ _ hf w (lv_sub hl [2] rfl)
      · rw [if_neg c3] at hf
        refine lv_aload_n B.1.1 B.1.2.1 dX10_isWord_36 rfl (lv_at hl 0 rfl) ?_
        refine hy_get (k := 21) (v := .ref (G.2.2.2.2.1 18)) B w (mwq_0 G) rfl in_X10_isWord_X10 (by decide) (by decide +kernel) rfl dX10_isWord_37 ?_
        refine lv_aload_n B.1.1 B.1.2.1 dX10_isWord_40 rfl (lv_at hl 0 rfl) ?_
        refine hy_get (k := 25) (v := .int (σ.2 7)) B w (mwq_0 G) rfl in_X10_isWord_X10 (by decide) (by decide +kernel) rfl dX10_isWord_41 ?_
        refine lv_iload_n B.1.1 B.1.2.1 dX10_isWord_44 rfl (lv_at hl 3 rfl) ?_
        refine lv_iadd B.1.1 B.1.2.1 dX10_isWord_45 ?_
        obtain ⟨h6, v4, e5, hf⟩ := hy_ga_some hf
        refine hy_bald B w (mwq_18 G) h6 e5 dX10_isWord_46 ?_
        refine lv_aload_n B.1.1 B.1.2.1 dX10_isWord_47 rfl (lv_at hl 1 rfl) ?_
        refine lv_iload_n B.1.1 B.1.2.1 dX10_isWord_48 rfl (lv_at hl 3 rfl) ?_
        obtain ⟨c7, hf⟩ := hy_ck_some hf
        refine hy_cvR (As := [.int x3]) (rest := [.int v4]) (o := (σ, (hy_chr (Int32.toNatClampNeg x1) x3))) mw_fix hA B w c7.1 (fun sz => mJ_charAt l mw mw_fix G sz σ (Int32.toNatClampNeg x1) c7.1 x3 c7.2) (cwV 1 B.1.2.2.2.2 gX10_isWord_J0_charAt_5068e rfl rfl rfl (by decide +kernel) ⟨by have := hR.1; show 3 + 1 ≤ _; omega, by have := hR.2; show 8 + (2 + 11) + 64 ≤ _; omega⟩) rfl hl.1 rfl (Nat.le_of_ble_eq_true rfl) dX10_isWord_49 ⟨Nat.zero_le _, Nat.zero_le _⟩ (fun H locs w => ?_)
        refine lv_icmp_ne (tgt := 59) B.1.1 B.1.2.1 dX10_isWord_52 (by decide) (fun c8 => ?_) (fun c8 => ?_)
        · rw [if_neg c8] at hf
          refine lv_iconst (v := 0) B.1.1 B.1.2.1 dX10_isWord_59 (by decide) ?_
          exact bX10_isWord_60 hA B hR hk24 hret _ _ _ _ _ _ _ hf w (lv_sub hl [0, 1, 3] rfl)
        · rw [if_pos c8] at hf
          refine lv_iconst (v := 1) B.1.1 B.1.2.1 dX10_isWord_55 (by decide) ?_
          refine lv_goto (tgt := 60) B.1.1 B.1.2.1 dX10_isWord_56 (by decide) ?_
          exact bX10_isWord_60 hA B hR hk24 hret _ _ _ _ _ _ _ hf w (lv_sub hl [0, 1, 3] rfl)
set_option maxHeartbeats 4000000 in
set_option maxRecDepth 100000 in
theorem bX10_isWord_21 (hA : ∀ q : Nat, s.heap.size ≤ q → A q) (B : hy_B RX10 cX10_isWord 4 wsX10_isWord G A p s m args c) (hR : 4 ≤ R.frames ∧ 85 ≤ R.locals) {o : hy_S × Int32}  (hret : ∀ (σ : hy_S) (v : Int32) (pc : Nat) (H : Heap) (locs : List Loc) (ls : Array Slot), o = (σ, v) → (v = 0 ∨ v = 1) → hy_w mw G A s σ H locs → decode cX10_isWord pc = .ok (.ireturn, 1) → W p l e R s m args below meth c H locs 0 0 Q (F0 m pc ls [.int v])) (σ : hy_S) (s0 : Int32) (x1 : Int32) (H : Heap) (locs : List Loc) (ls : Array Slot) (hf : fX10_isWord_21 σ s0 x1 = some o) (w : hy_w mw G A s σ H locs) (hl : lv_has ls 4 [(0, .ref (G.2.2.2.2.1 0)), (1, .ref (G.2.2.2.2.2.1 (Int32.toNatClampNeg x1)))]) : W p l e R s m args below meth c H locs 0 0 Q (F0 m 21 ls [.int s0]) := by
  unfold fX10_isWord_21 at hf
  refine lv_istore_n (lv' := [(2, .int s0), (0, .ref (G.2.2.2.2.1 0)), (1, .ref (G.2.2.2.2.2.1 (Int32.toNatClampNeg x1)))]) B.1.1 B.1.2.1 dX10_isWord_21 rfl hl (by decide) rfl (fun ls hl => ?_)
  refine lv_iconst (v := 0) B.1.1 B.1.2.1 dX10_isWord_22 (by decide) ?_
  refine lv_istore_n (lv' := [(3, .int 0), (2, .int s0), (0, .ref (G.2.2.2.2.1 0)), (1, .ref (G.2.2.2.2.2.1 (Int32.toNatClampNeg x1)))]) B.1.1 B.1.2.1 dX10_isWord_23 rfl hl (by decide) rfl (fun ls hl => ?_)
  exact bX10_isWord_24 hA B hR  hret _ _ _ _ _ _ _ _ hf w (lv_sub hl [2, 3, 1, 0] rfl)
set_option maxHeartbeats 4000000 in
set_option maxRecDepth 100000 in
theorem bX10_isWord_0 (hA : ∀ q : Nat, s.heap.size ≤ q → A q) (B : hy_B RX10 cX10_isWord 4 wsX10_isWord G A p s m args c) (hR : 4 ≤ R.frames ∧ 85 ≤ R.locals) {o : hy_S × Int32}  (hret : ∀ (σ : hy_S) (v : Int32) (pc : Nat) (H : Heap) (locs : List Loc) (ls : Array Slot), o = (σ, v) → (v = 0 ∨ v = 1) → hy_w mw G A s σ H locs → decode cX10_isWord pc = .ok (.ireturn, 1) → W p l e R s m args below meth c H locs 0 0 Q (F0 m pc ls [.int v])) (σ : hy_S) (x1 : Int32) (H : Heap) (locs : List Loc) (ls : Array Slot) (hf : fX10_isWord σ x1 = some o) (w : hy_w mw G A s σ H locs) (hl : lv_has ls 4 [(0, .ref (G.2.2.2.2.1 0)), (1, .ref (G.2.2.2.2.2.1 (Int32.toNatClampNeg x1)))]) : W p l e R s m args below meth c H locs 0 0 Q (F0 m 0 ls []) := by
  unfold fX10_isWord at hf
  refine lv_aload_n B.1.1 B.1.2.1 dX10_isWord_0 rfl (lv_at hl 0 rfl) ?_
  refine hy_get (k := 23) (v := .int (σ.2 5)) B w (mwq_0 G) rfl in_X10_isWord_X10 (by decide) (by decide +kernel) rfl dX10_isWord_1 ?_
  refine lv_aload_n B.1.1 B.1.2.1 dX10_isWord_4 rfl (lv_at hl 0 rfl) ?_
  refine hy_get (k := 25) (v := .int (σ.2 7)) B w (mwq_0 G) rfl in_X10_isWord_X10 (by decide) (by decide +kernel) rfl dX10_isWord_5 ?_
  refine lv_isub B.1.1 B.1.2.1 dX10_isWord_8 ?_
  refine lv_aload_n B.1.1 B.1.2.1 dX10_isWord_9 rfl (lv_at hl 1 rfl) ?_
  obtain ⟨c1, hf⟩ := hy_ck_some hf
  refine hy_cvR (As := []) (rest := [.int ((σ.2 5) - (σ.2 7))]) (o := (σ, (hy_len (Int32.toNatClampNeg x1)))) mw_fix hA B w c1 (fun sz => mJ_length l mw mw_fix G sz σ (Int32.toNatClampNeg x1) c1) (cwV 0 B.1.2.2.2.2 gX10_isWord_J0_length_8abf5 rfl rfl rfl (by decide +kernel) ⟨by have := hR.1; show 1 + 1 ≤ _; omega, by have := hR.2; show 8 + (1 + 11) + 20 ≤ _; omega⟩) rfl hl.1 rfl (Nat.le_of_ble_eq_true rfl) dX10_isWord_10 ⟨Nat.zero_le _, Nat.zero_le _⟩ (fun H locs w => ?_)
  refine lv_icmp_ne (tgt := 20) B.1.1 B.1.2.1 dX10_isWord_13 (by decide) (fun c2 => ?_) (fun c2 => ?_)
  · rw [if_neg c2] at hf
    refine lv_iconst (v := 0) B.1.1 B.1.2.1 dX10_isWord_20 (by decide) ?_
    exact bX10_isWord_21 hA B hR  hret _ _ _ _ _ _ hf w (lv_sub hl [0, 1] rfl)
  · rw [if_pos c2] at hf
    refine lv_iconst (v := 1) B.1.1 B.1.2.1 dX10_isWord_16 (by decide) ?_
    refine lv_goto (tgt := 21) B.1.1 B.1.2.1 dX10_isWord_17 (by decide) ?_
    exact bX10_isWord_21 hA B hR  hret _ _ _ _ _ _ hf w (lv_sub hl [0, 1] rfl)
set_option maxHeartbeats 4000000 in
set_option maxRecDepth 100000 in
theorem mX10_isWord (l : Launch) (G : hy_G) (sz : Nat) (σ : hy_S) (x1 : Int32) (o : hy_S × Int32) (hf : fX10_isWord σ x1 = some o) : hy_M l yX10_isWord wsX10_isWord ({ frames := 4, cells := 0, slots := 0, locals := 85 }) mw G σ sz [.ref (G.2.2.2.2.1 0), .ref (G.2.2.2.2.2.1 (Int32.toNatClampNeg x1))] o := by
  refine Met.ofW (cc := cX10_isWord) (maxL := 4) (ret := (some .boolean)) (by decide +kernel) rfl ?_
  intro p e s m args below meth c s₁ B hml hv
  obtain ⟨rfl, hsz, hP, hK, hD0, hN⟩ := hv
  have hx := B.exec
  have hb := B.bytes
  have hr := B.returns
  have hts := atoms_spec (ws := wsX10_isWord) B.pre
  have hown : s.vm.findClass RX10 = some m.cls := findClass_of_methodNamed B.named
  have hlocks := B.notSynchronized
  subst hsz
  have hD := hD0.self (sz := s.heap.size)
  have hA : ∀ q : Nat, s.heap.size ≤ q → va_A (mw G σ) s.heap.size q := fun q h => Or.inr h
  have hS : va_S (va_A (mw G σ) s.heap.size) s.heap s.heap [] := va_S.rf
  have hl := lv_entry ([.ref (G.2.2.2.2.1 0), .ref (G.2.2.2.2.2.1 (Int32.toNatClampNeg x1))]) (n := 4) (Nat.le_of_ble_eq_true rfl)
  rw [lg_entry_eq]
  generalize (lg_sl ([.ref (G.2.2.2.2.1 0), .ref (G.2.2.2.2.2.1 (Int32.toNatClampNeg x1))]) ++ List.replicate (4 - (lg_sl ([.ref (G.2.2.2.2.1 0), .ref (G.2.2.2.2.2.1 (Int32.toNatClampNeg x1))])).length) Slot.unset).toArray = ls at hl ⊢
  have hl : lv_has ls 4 [(0, .ref (G.2.2.2.2.1 0)), (1, .ref (G.2.2.2.2.2.1 (Int32.toNatClampNeg x1)))] := hl
  refine bX10_isWord_0 (A := va_A (mw G σ) s.heap.size) hA ⟨⟨hx, hb, hml, hown, hts⟩, hK, hN⟩ ⟨Nat.le_of_ble_eq_true rfl, Nat.le_of_ble_eq_true rfl⟩ (o := o) (fun τ v pc H locs ls ho hz w d => ?_) σ x1 _ _ _ hf ⟨hP, hD, hS⟩ hl
  exact W.zret hx hb hr (hy_bool hz) (fun t ht hW => ⟨⟨v, τ, rfl, ⟨by rw [ho], by rw [ho]⟩, by have h9 := w.1; rw [← ht] at h9; exact h9⟩, w.2.2.F ht⟩) w.2.2.2.2 d
theorem in_X10_readNote_X10 : ∀ w ∈ u_ws RX10 TX10 43, w ∈ wsX10_readNote := fun _ h => xt1 (xr (h))
noncomputable def fX10_readNote_104 (k7 : hy_S → Int32 → Option (hy_S × Int32)) (k59 : hy_S → Int32 → Int32 → Option (hy_S × Int32)) (σ : hy_S) (s0 : Int32) (x1 : Int32) : Option (hy_S × Int32) := hy_pf σ 5 ((σ.2 5) + 1) (fun σ1 => k59 σ1 x1 s0)
noncomputable def fX10_readNote_59 (k7 : hy_S → Int32 → Option (hy_S × Int32)) : Nat → hy_S → Int32 → Int32 → Option (hy_S × Int32)
  | 0, _, _, _ => none
  | n + 1, σ, x1, x2 => hy_bd (fX10_isAt σ 48 57) (fun σ1 v2 => (if v2 = 0 then (if (σ1.2 5) = (σ1.2 7) then some (σ1, 0) else (if ((σ1.2 5) - (σ1.2 7)) ≤ 5 then hy_pa σ1 19 5 x1 x2 (fun σ7 => k7 σ7 (x1 + 1)) else some (σ1, 0))) else (if 5 ≤ ((σ1.2 5) - (σ1.2 7)) then fX10_readNote_104 k7 (fX10_readNote_59 k7 n) σ1 x2 x1 else hy_ga σ1 17 400 (σ1.2 5) (fun v11 => fX10_readNote_104 k7 (fX10_readNote_59 k7 n) σ1 (((10 * x2) + v11) - 48) x1))))
noncomputable def fX10_readNote_16 (k7 : hy_S → Int32 → Option (hy_S × Int32)) : Nat → hy_S → Int32 → Option (hy_S × Int32)
  | 0, _, _ => none
  | n + 1, σ, x1 => hy_bd (fX10_isAt σ 97 122) (fun σ1 v2 => (if v2 = 0 then hy_bd (fX10_word σ1 x1) (fun σ5 v6 => hy_bd (fX10_isWord σ5 v6) (fun σ8 v9 => (if v9 = 0 then some (σ8, 0) else hy_bd (fX10_blanks σ8) (fun σ12 v13 => fX10_readNote_59 k7 hy_fu σ12 x1 0)))) else hy_pf σ1 5 ((σ1.2 5) + 1) (fun σ15 => (fX10_readNote_16 k7 n) σ15 x1)))
noncomputable def fX10_readNote_7 : Nat → hy_S → Int32 → Option (hy_S × Int32)
  | 0, _, _ => none
  | n + 1, σ, x1 => (if 5 ≤ x1 then hy_bd (fX10_blanks σ) (fun σ2 v3 => (if (σ2.2 5) = (σ2.2 6) then some (σ2, 1) else some (σ2, 0))) else hy_bd (fX10_blanks σ) (fun σ6 v7 => fX10_readNote_16 (fX10_readNote_7 n) hy_fu σ6 x1))
noncomputable def fX10_readNote (σ : hy_S) : Option (hy_S × Int32) := hy_pf σ 5 0 (fun σ1 => fX10_readNote_7 hy_fu σ1 0)
set_option maxHeartbeats 4000000 in
set_option maxRecDepth 100000 in
theorem bX10_readNote_104 (hA : ∀ q : Nat, s.heap.size ≤ q → A q) (B : hy_B RX10 cX10_readNote 3 wsX10_readNote G A p s m args c) (hR : 5 ≤ R.frames ∧ 108 ≤ R.locals) {o : hy_S × Int32}  {k7 : hy_S → Int32 → Option (hy_S × Int32)} {k59 : hy_S → Int32 → Int32 → Option (hy_S × Int32)} (hk7 : ∀ (σ : hy_S) (x1 : Int32) (H : Heap) (locs : List Loc) (ls : Array Slot), k7 σ x1 = some o → hy_w mw G A s σ H locs → lv_has ls 3 [(0, .ref (G.2.2.2.2.1 0)), (1, .int x1)] → W p l e R s m args below meth c H locs 0 0 Q (F0 m 7 ls [])) (hk59 : ∀ (σ : hy_S) (x1 : Int32) (x2 : Int32) (H : Heap) (locs : List Loc) (ls : Array Slot), k59 σ x1 x2 = some o → hy_w mw G A s σ H locs → lv_has ls 3 [(0, .ref (G.2.2.2.2.1 0)), (1, .int x1), (2, .int x2)] → W p l e R s m args below meth c H locs 0 0 Q (F0 m 59 ls [])) (hret : ∀ (σ : hy_S) (v : Int32) (pc : Nat) (H : Heap) (locs : List Loc) (ls : Array Slot), o = (σ, v) → (v = 0 ∨ v = 1) → hy_w mw G A s σ H locs → decode cX10_readNote pc = .ok (.ireturn, 1) → W p l e R s m args below meth c H locs 0 0 Q (F0 m pc ls [.int v])) (σ : hy_S) (s0 : Int32) (x1 : Int32) (H : Heap) (locs : List Loc) (ls : Array Slot) (hf : fX10_readNote_104 k7 k59 σ s0 x1 = some o) (w : hy_w mw G A s σ H locs) (hl : lv_has ls 3 [(0, .ref (G.2.2.2.2.1 0)), (1, .int x1)]) : W p l e R s m args below meth c H locs 0 0 Q (F0 m 104 ls [.int s0]) := by
  unfold fX10_readNote_104 at hf
  refine lv_istore_n (lv' := [(2, .int s0), (0, .ref (G.2.2.2.2.1 0)), (1, .int x1)]) B.1.1 B.1.2.1 dX10_readNote_104 rfl hl (by decide) rfl (fun ls hl => ?_)
  refine lv_aload_n B.1.1 B.1.2.1 dX10_readNote_105 rfl (lv_at hl 1 rfl) ?_
  refine lv_dup B.1.1 B.1.2.1 dX10_readNote_106 rfl ?_
  refine hy_get (k := 23) (v := .int (σ.2 5)) B w (mwq_0 G) rfl in_X10_readNote_X10 (by decide) (by decide +kernel) rfl dX10_readNote_107 ?_
  refine lv_iconst (v := 1) B.1.1 B.1.2.1 dX10_readNote_110 (by decide) ?_
  refine lv_iadd B.1.1 B.1.2.1 dX10_readNote_111 ?_
  obtain ⟨σ1, e2, hf⟩ := hy_pf_some hf
  refine hy_put (k := 23) B w (mwq_0 G) rfl in_X10_readNote_X10 tyX10 tyX10_ok nmX10 (by decide) (by decide +kernel) rfl rfl (by show 23 < 43; decide) (mwp_5 G) e2 dX10_readNote_112 (fun H locs w => ?_)
  refine lv_goto (tgt := 59) B.1.1 B.1.2.1 dX10_readNote_115 (by decide) ?_
  exact hk59 _ _ _ _ _ _ hf w (lv_sub hl [1, 2, 0] rfl)
set_option maxHeartbeats 4000000 in
set_option maxRecDepth 100000 in
theorem bX10_readNote_59 (hA : ∀ q : Nat, s.heap.size ≤ q → A q) (B : hy_B RX10 cX10_readNote 3 wsX10_readNote G A p s m args c) (hR : 5 ≤ R.frames ∧ 108 ≤ R.locals) {o : hy_S × Int32}  {k7 : hy_S → Int32 → Option (hy_S × Int32)} (hk7 : ∀ (σ : hy_S) (x1 : Int32) (H : Heap) (locs : List Loc) (ls : Array Slot), k7 σ x1 = some o → hy_w mw G A s σ H locs → lv_has ls 3 [(0, .ref (G.2.2.2.2.1 0)), (1, .int x1)] → W p l e R s m args below meth c H locs 0 0 Q (F0 m 7 ls [])) (hret : ∀ (σ : hy_S) (v : Int32) (pc : Nat) (H : Heap) (locs : List Loc) (ls : Array Slot), o = (σ, v) → (v = 0 ∨ v = 1) → hy_w mw G A s σ H locs → decode cX10_readNote pc = .ok (.ireturn, 1) → W p l e R s m args below meth c H locs 0 0 Q (F0 m pc ls [.int v])) : ∀ (n : Nat) (σ : hy_S) (x1 : Int32) (x2 : Int32) (H : Heap) (locs : List Loc) (ls : Array Slot), fX10_readNote_59 k7 n σ x1 x2 = some o → hy_w mw G A s σ H locs → lv_has ls 3 [(0, .ref (G.2.2.2.2.1 0)), (1, .int x1), (2, .int x2)] → W p l e R s m args below meth c H locs 0 0 Q (F0 m 59 ls []) := by
  intro n
  induction n with
  | zero => intro σ x1 x2 H locs ls hf; cases hf
  | succ n hk59 =>
    intro σ x1 x2 H locs ls hf w hl
    unfold fX10_readNote_59 at hf
    refine lv_aload_n B.1.1 B.1.2.1 dX10_readNote_59 rfl (lv_at hl 0 rfl) ?_
    refine lv_bipush (v := 48) B.1.1 B.1.2.1 dX10_readNote_60 (by decide) ?_
    refine lv_bipush (v := 57) B.1.1 B.1.2.1 dX10_readNote_62 (by decide) ?_
    obtain ⟨σ1, v2, h3, hf⟩ := hy_bd_some hf
    refine hy_cv (As := [.int 48, .int 57]) (rest := []) (o := (σ1, v2)) mw_fix hA B w (fun sz => mX10_isAt l G sz σ 48 57 _ h3) (cwV 2 B.1.2.2.2.2 gX10_readNote_X10_isAt rfl rfl rfl (by decide +kernel) ⟨by have := hR.1; show 0 + 1 ≤ _; omega, by have := hR.2; show 8 + (3 + 11) + 0 ≤ _; omega⟩) rfl (mwq_0 G σ) rfl hl.1 rfl (Nat.le_of_ble_eq_true rfl) dX10_readNote_64 ⟨Nat.zero_le _, Nat.zero_le _⟩ (fun H locs w => ?_)
    refine lv_if_eq (tgt := 118) B.1.1 B.1.2.1 dX10_readNote_67 (by decide) (fun c4 => ?_) (fun c4 => ?_)
    · rw [if_pos c4] at hf
      refine lv_aload_n B.1.1 B.1.2.1 dX10_readNote_118 rfl (lv_at hl 0 rfl) ?_
      refine hy_get (k := 23) (v := .int (σ1.2 5)) B w (mwq_0 G) rfl in_X10_readNote_X10 (by decide) (by decide +kernel) rfl dX10_readNote_119 ?_
      refine lv_aload_n B.1.1 B.1.2.1 dX10_readNote_122 rfl (lv_at hl 0 rfl) ?_
      refine hy_get (k := 25) (v := .int (σ1.2 7)) B w (mwq_0 G) rfl in_X10_readNote_X10 (by decide) (by decide +kernel) rfl dX10_readNote_123 ?_
      refine lv_icmp_eq (tgt := 142) B.1.1 B.1.2.1 dX10_readNote_126 (by decide) (fun c5 => ?_) (fun c5 => ?_)
      · rw [if_pos c5] at hf
        refine lv_iconst (v := 0) B.1.1 B.1.2.1 dX10_readNote_142 (by decide) ?_
        exact hret _ _ _ _ _ _ (Option.some.inj hf).symm (Or.inl rfl) w dX10_readNote_143
      · rw [if_neg c5] at hf
        refine lv_aload_n B.1.1 B.1.2.1 dX10_readNote_129 rfl (lv_at hl 0 rfl) ?_
        refine hy_get (k := 23) (v := .int (σ1.2 5)) B w (mwq_0 G) rfl in_X10_readNote_X10 (by decide) (by decide +kernel) rfl dX10_readNote_130 ?_
        refine lv_aload_n B.1.1 B.1.2.1 dX10_readNote_133 rfl (lv_at hl 0 rfl) ?_
        refine hy_get (k := 25) (v := .int (σ1.2 7)) B w (mwq_0 G) rfl in_X10_readNote_X10 (by decide) (by decide +kernel) rfl dX10_readNote_134 ?_
        refine lv_isub B.1.1 B.1.2.1 dX10_readNote_137 ?_
        refine lv_iconst (v := 5) B.1.1 B.1.2.1 dX10_readNote_138 (by decide) ?_
        refine lv_icmp_le (tgt := 144) B.1.1 B.1.2.1 dX10_readNote_139 (by decide) (fun c6 => ?_) (fun c6 => ?_)
        · rw [if_pos c6] at hf
          refine lv_aload_n B.1.1 B.1.2.1 dX10_readNote_144 rfl (lv_at hl 0 rfl) ?_
          refine hy_get (k := 28) (v := .ref (G.2.2.2.2.1 20)) B w (mwq_0 G) rfl in_X10_readNote_X10 (by decide) (by decide +kernel) rfl dX10_readNote_145 ?_
          refine lv_iload_n B.1.1 B.1.2.1 dX10_readNote_148 rfl (lv_at hl 1 rfl) ?_
          refine lv_iload_n B.1.1 B.1.2.1 dX10_readNote_149 rfl (lv_at hl 2 rfl) ?_
          obtain ⟨h9, σ7, e8, hf⟩ := hy_pa_some hf
          refine hy_iast B w (mwq_20 G) (mws_20 G) h9 e8 dX10_readNote_150 (fun H locs w => ?_)
          refine lv_iinc (v := (x1 + 1)) (lv' := [(1, .int (x1 + 1)), (0, .ref (G.2.2.2.2.1 0)), (2, .int x2)]) B.1.1 B.1.2.1 dX10_readNote_151 hl (k := 1) rfl rfl (by decide) rfl (fun ls hl => ?_)
          refine lv_goto (tgt := 7) B.1.1 B.1.2.1 dX10_readNote_154 (by decide) ?_
          exact hk7 _ _ _ _ _ hf w (lv_sub hl [1, 0] rfl)
        · rw [if_neg c6] at hf
          refine lv_iconst (v := 0) B.1.1 B.1.2.1 dX10_readNote_142 (by decide) ?_
          exact hret _ _ _ _ _ _ (Option.some.inj hf).symm (Or.inl rfl) w dX10_readNote_143
    · rw [if_neg c4] at hf
      refine lv_aload_n B.1.1 B.1.2.1 dX10_readNote_70 rfl (lv_at hl 0 rfl) ?_
      refine hy_get (k := 23) (v := .int (σ1.2 5)) B w (mwq_0 G) rfl in_X10_readNote_X10 (by decide) (by decide +kernel) rfl dX10_readNote_71 ?_
      refine lv_aload_n B.1.1 B.1.2.1 dX10_readNote_74 rfl (lv_at hl 0 rfl) ?_
      refine hy_get (k := 25) (v := .int (σ1.2 7)) B w (mwq_0 G) rfl in_X10_readNote_X10 (by decide) (by decide +kernel) rfl dX10_readNote_75 ?_
      refine lv_isub B.1.1 B.1.2.1 dX10_readNote_78 ?_
      refine lv_iconst (v := 5) B.1.1 B.1.2.1 dX10_readNote_79 (by decide) ?_
      refine lv_icmp_ge (tgt := 103) B.1.1 B.1.2.1 dX10_readNote_80 (by decide) (fun c10 => ?_) (fun c10 => ?_)
      · rw [if_pos c10] at hf
        refine lv_iload_n B.1.1 B.1.2.1 dX10_readNote_103 rfl (lv_at hl 2 rfl) ?_
        exact bX10_readNote_104 hA B hR hk7 hk59 hret _ _ _ _ _ _ hf w (lv_sub hl [0, 1] rfl)
      · rw [if_neg c10] at hf
        refine lv_bipush (v := 10) B.1.1 B.1.2.1 dX10_readNote_83 (by decide) ?_
        refine lv_iload_n B.1.1 B.1.2.1 dX10_readNote_85 rfl (lv_at hl 2 rfl) ?_
        refine lv_imul B.1.1 B.1.2.1 dX10_readNote_86 ?_
        refine lv_aload_n B.1.1 B.1.2.1 dX10_readNote_87 rfl (lv_at hl 0 rfl) ?_
        refine hy_get (k := 21) (v := .ref (G.2.2.2.2.1 18)) B w (mwq_0 G) rfl in_X10_readNote_X10 (by decide) (by decide +kernel) rfl dX10_readNote_88 ?_
        refine lv_aload_n B.1.1 B.1.2.1 dX10_readNote_91 rfl (lv_at hl 0 rfl) ?_
        refine hy_get (k := 23) (v := .int (σ1.2 5)) B w (mwq_0 G) rfl in_X10_readNote_X10 (by decide) (by decide +kernel) rfl dX10_readNote_92 ?_
        obtain ⟨h13, v11, e12, hf⟩ := hy_ga_some hf
        refine hy_bald B w (mwq_18 G) h13 e12 dX10_readNote_95 ?_
        refine lv_iadd B.1.1 B.1.2.1 dX10_readNote_96 ?_
        refine lv_bipush (v := 48) B.1.1 B.1.2.1 dX10_readNote_97 (by decide) ?_
        refine lv_isub B.1.1 B.1.2.1 dX10_readNote_99 ?_
        refine lv_goto (tgt := 104) B.1.1 B.1.2.1 dX10_readNote_100 (by decide) ?_
        exact bX10_readNote_104 hA B hR hk7 hk59 hret _ _ _ _ _ _ hf w (lv_sub hl [0, 1] rfl)
set_option maxHeartbeats 4000000 in
set_option maxRecDepth 100000 in
theorem bX10_readNote_16 (hA : ∀ q : Nat, s.heap.size ≤ q → A q) (B : hy_B RX10 cX10_readNote 3 wsX10_readNote G A p s m args c) (hR : 5 ≤ R.frames ∧ 108 ≤ R.locals) {o : hy_S × Int32}  {k7 : hy_S → Int32 → Option (hy_S × Int32)} (hk7 : ∀ (σ : hy_S) (x1 : Int32) (H : Heap) (locs : List Loc) (ls : Array Slot), k7 σ x1 = some o → hy_w mw G A s σ H locs → lv_has ls 3 [(0, .ref (G.2.2.2.2.1 0)), (1, .int x1)] → W p l e R s m args below meth c H locs 0 0 Q (F0 m 7 ls [])) (hret : ∀ (σ : hy_S) (v : Int32) (pc : Nat) (H : Heap) (locs : List Loc) (ls : Array Slot), o = (σ, v) → (v = 0 ∨ v = 1) → hy_w mw G A s σ H locs → decode cX10_readNote pc = .ok (.ireturn, 1) → W p l e R s m args below meth c H locs 0 0 Q (F0 m pc ls [.int v])) : ∀ (n : Nat) (σ : hy_S) (x1 : Int32) (H : Heap) (locs : List Loc) (ls : Array Slot), fX10_readNote_16 k7 n σ x1 = some o → hy_w mw G A s σ H locs → lv_has ls 3 [(0, .ref (G.2.2.2.2.1 0)), (1, .int x1)] → W p l e R s m args below meth c H locs 0 0 Q (F0 m 16 ls []) := by
  intro n
  induction n with
  | zero => intro σ x1 H locs ls hf; cases hf
  | succ n hk16 =>
    intro σ x1 H locs ls hf w hl
    unfold fX10_readNote_16 at hf
    refine lv_aload_n B.1.1 B.1.2.1 dX10_readNote_16 rfl (lv_at hl 0 rfl) ?_
    refine lv_bipush (v := 97) B.1.1 B.1.2.1 dX10_readNote_17 (by decide) ?_
    refine lv_bipush (v := 122) B.1.1 B.1.2.1 dX10_readNote_19 (by decide) ?_
    obtain ⟨σ1, v2, h3, hf⟩ := hy_bd_some hf
    refine hy_cv (As := [.int 97, .int 122]) (rest := []) (o := (σ1, v2)) mw_fix hA B w (fun sz => mX10_isAt l G sz σ 97 122 _ h3) (cwV 2 B.1.2.2.2.2 gX10_readNote_X10_isAt rfl rfl rfl (by decide +kernel) ⟨by have := hR.1; show 0 + 1 ≤ _; omega, by have := hR.2; show 8 + (3 + 11) + 0 ≤ _; omega⟩) rfl (mwq_0 G σ) rfl hl.1 rfl (Nat.le_of_ble_eq_true rfl) dX10_readNote_21 ⟨Nat.zero_le _, Nat.zero_le _⟩ (fun H locs w => ?_)
    refine lv_if_eq (tgt := 40) B.1.1 B.1.2.1 dX10_readNote_24 (by decide) (fun c4 => ?_) (fun c4 => ?_)
    · rw [if_pos c4] at hf
      refine lv_aload_n B.1.1 B.1.2.1 dX10_readNote_40 rfl (lv_at hl 0 rfl) ?_
      refine lv_iload_n B.1.1 B.1.2.1 dX10_readNote_41 rfl (lv_at hl 1 rfl) ?_
      obtain ⟨σ5, v6, h7, hf⟩ := hy_bd_some hf
      refine hy_csr (As := [.int x1]) (rest := [.ref (G.2.2.2.2.1 0)]) (o := (σ5, v6)) mw_fix hA B w (fun sz => mX10_word l G sz σ1 x1 _ h7) (cwS 1 B.1.2.2.2.2 gX10_readNote_X10_word rfl rfl rfl (by decide +kernel) ⟨by have := hR.1; show 0 + 1 ≤ _; omega, by have := hR.2; show 8 + (1 + 11) + 0 ≤ _; omega⟩) rfl hl.1 rfl (Nat.le_of_ble_eq_true rfl) dX10_readNote_42 ⟨Nat.zero_le _, Nat.zero_le _⟩ (fun H locs w => ?_)
      obtain ⟨σ8, v9, h10, hf⟩ := hy_bd_some hf
      refine hy_cv (As := [.ref (G.2.2.2.2.2.1 (Int32.toNatClampNeg v6))]) (rest := []) (o := (σ8, v9)) mw_fix hA B w (fun sz => mX10_isWord l G sz σ5 v6 _ h10) (cwV 1 B.1.2.2.2.2 gX10_readNote_X10_isWord rfl rfl rfl (by decide +kernel) ⟨by have := hR.1; show 4 + 1 ≤ _; omega, by have := hR.2; show 8 + (4 + 11) + 85 ≤ _; omega⟩) rfl (mwq_0 G σ5) rfl hl.1 rfl (Nat.le_of_ble_eq_true rfl) dX10_readNote_45 ⟨Nat.zero_le _, Nat.zero_le _⟩ (fun H locs w => ?_)
      refine lv_if_ne (tgt := 53) B.1.1 B.1.2.1 dX10_readNote_48 (by decide) (fun c11 => ?_) (fun c11 => ?_)
      · rw [if_neg c11] at hf
        refine lv_aload_n B.1.1 B.1.2.1 dX10_readNote_53 rfl (lv_at hl 0 rfl) ?_
        obtain ⟨σ12, v13, h14, hf⟩ := hy_bd_some hf
        refine hy_cvv (As := []) (rest := []) (o := (σ12, v13)) mw_fix hA B w (fun sz => mX10_blanks l G sz σ8  _ h14) (cwV 0 B.1.2.2.2.2 gX10_readNote_X10_blanks rfl rfl rfl (by decide +kernel) ⟨by have := hR.1; show 1 + 1 ≤ _; omega, by have := hR.2; show 8 + (1 + 11) + 22 ≤ _; omega⟩) rfl (mwq_0 G σ8) rfl hl.1 rfl (Nat.le_of_ble_eq_true rfl) dX10_readNote_54 ⟨Nat.zero_le _, Nat.zero_le _⟩ (fun H locs w => ?_)
        refine lv_iconst (v := 0) B.1.1 B.1.2.1 dX10_readNote_57 (by decide) ?_
        refine lv_istore_n (lv' := [(2, .int 0), (0, .ref (G.2.2.2.2.1 0)), (1, .int x1)]) B.1.1 B.1.2.1 dX10_readNote_58 rfl hl (by decide) rfl (fun ls hl => ?_)
        exact bX10_readNote_59 hA B hR hk7 hret _ _ _ _ _ _ _ hf w (lv_sub hl [1, 2, 0] rfl)
      · rw [if_pos c11] at hf
        refine lv_iconst (v := 0) B.1.1 B.1.2.1 dX10_readNote_51 (by decide) ?_
        exact hret _ _ _ _ _ _ (Option.some.inj hf).symm (Or.inl rfl) w dX10_readNote_52
    · rw [if_neg c4] at hf
      refine lv_aload_n B.1.1 B.1.2.1 dX10_readNote_27 rfl (lv_at hl 0 rfl) ?_
      refine lv_dup B.1.1 B.1.2.1 dX10_readNote_28 rfl ?_
      refine hy_get (k := 23) (v := .int (σ1.2 5)) B w (mwq_0 G) rfl in_X10_readNote_X10 (by decide) (by decide +kernel) rfl dX10_readNote_29 ?_
      refine lv_iconst (v := 1) B.1.1 B.1.2.1 dX10_readNote_32 (by decide) ?_
      refine lv_iadd B.1.1 B.1.2.1 dX10_readNote_33 ?_
      obtain ⟨σ15, e16, hf⟩ := hy_pf_some hf
      refine hy_put (k := 23) B w (mwq_0 G) rfl in_X10_readNote_X10 tyX10 tyX10_ok nmX10 (by decide) (by decide +kernel) rfl rfl (by show 23 < 43; decide) (mwp_5 G) e16 dX10_readNote_34 (fun H locs w => ?_)
      refine lv_goto (tgt := 16) B.1.1 B.1.2.1 dX10_readNote_37 (by decide) ?_
      exact hk16 _ _ _ _ _ hf w (lv_sub hl [0, 1] rfl)
set_option maxHeartbeats 4000000 in
set_option maxRecDepth 100000 in
theorem bX10_readNote_7 (hA : ∀ q : Nat, s.heap.size ≤ q → A q) (B : hy_B RX10 cX10_readNote 3 wsX10_readNote G A p s m args c) (hR : 5 ≤ R.frames ∧ 108 ≤ R.locals) {o : hy_S × Int32}  (hret : ∀ (σ : hy_S) (v : Int32) (pc : Nat) (H : Heap) (locs : List Loc) (ls : Array Slot), o = (σ, v) → (v = 0 ∨ v = 1) → hy_w mw G A s σ H locs → decode cX10_readNote pc = .ok (.ireturn, 1) → W p l e R s m args below meth c H locs 0 0 Q (F0 m pc ls [.int v])) : ∀ (n : Nat) (σ : hy_S) (x1 : Int32) (H : Heap) (locs : List Loc) (ls : Array Slot), fX10_readNote_7 n σ x1 = some o → hy_w mw G A s σ H locs → lv_has ls 3 [(0, .ref (G.2.2.2.2.1 0)), (1, .int x1)] → W p l e R s m args below meth c H locs 0 0 Q (F0 m 7 ls []) := by
  intro n
  induction n with
  | zero => intro σ x1 H locs ls hf; cases hf
  | succ n hk7 =>
    intro σ x1 H locs ls hf w hl
    unfold fX10_readNote_7 at hf
    refine lv_iload_n B.1.1 B.1.2.1 dX10_readNote_7 rfl (lv_at hl 1 rfl) ?_
    refine lv_iconst (v := 5) B.1.1 B.1.2.1 dX10_readNote_8 (by decide) ?_
    refine lv_icmp_ge (tgt := 157) B.1.1 B.1.2.1 dX10_readNote_9 (by decide) (fun c1 => ?_) (fun c1 => ?_)
    · rw [if_pos c1] at hf
      refine lv_aload_n B.1.1 B.1.2.1 dX10_readNote_157 rfl (lv_at hl 0 rfl) ?_
      obtain ⟨σ2, v3, h4, hf⟩ := hy_bd_some hf
      refine hy_cvv (As := []) (rest := []) (o := (σ2, v3)) mw_fix hA B w (fun sz => mX10_blanks l G sz σ  _ h4) (cwV 0 B.1.2.2.2.2 gX10_readNote_X10_blanks rfl rfl rfl (by decide +kernel) ⟨by have := hR.1; show 1 + 1 ≤ _; omega, by have := hR.2; show 8 + (1 + 11) + 22 ≤ _; omega⟩) rfl (mwq_0 G σ) rfl hl.1 rfl (Nat.le_of_ble_eq_true rfl) dX10_readNote_158 ⟨Nat.zero_le _, Nat.zero_le _⟩ (fun H locs w => ?_)
      refine lv_aload_n B.1.1 B.1.2.1 dX10_readNote_161 rfl (lv_at hl 0 rfl) ?_
      refine hy_get (k := 23) (v := .int (σ2.2 5)) B w (mwq_0 G) rfl in_X10_readNote_X10 (by decide) (by decide +kernel) rfl dX10_readNote_162 ?_
      refine lv_aload_n B.1.1 B.1.2.1 dX10_readNote_165 rfl (lv_at hl 0 rfl) ?_
      refine hy_get (k := 24) (v := .int (σ2.2 6)) B w (mwq_0 G) rfl in_X10_readNote_X10 (by decide) (by decide +kernel) rfl dX10_readNote_166 ?_
      refine lv_icmp_ne (tgt := 176) B.1.1 B.1.2.1 dX10_readNote_169 (by decide) (fun c5 => ?_) (fun c5 => ?_)
      · rw [if_neg c5] at hf
        refine lv_iconst (v := 0) B.1.1 B.1.2.1 dX10_readNote_176 (by decide) ?_
        exact hret _ _ _ _ _ _ (Option.some.inj hf).symm (Or.inl rfl) w dX10_readNote_177
      · rw [if_pos c5] at hf
        refine lv_iconst (v := 1) B.1.1 B.1.2.1 dX10_readNote_172 (by decide) ?_
        refine lv_goto (tgt := 177) B.1.1 B.1.2.1 dX10_readNote_173 (by decide) ?_
        exact hret _ _ _ _ _ _ (Option.some.inj hf).symm (Or.inr rfl) w dX10_readNote_177
    · rw [if_neg c1] at hf
      refine lv_aload_n B.1.1 B.1.2.1 dX10_readNote_12 rfl (lv_at hl 0 rfl) ?_
      obtain ⟨σ6, v7, h8, hf⟩ := hy_bd_some hf
      refine hy_cvv (As := []) (rest := []) (o := (σ6, v7)) mw_fix hA B w (fun sz => mX10_blanks l G sz σ  _ h8) (cwV 0 B.1.2.2.2.2 gX10_readNote_X10_blanks rfl rfl rfl (by decide +kernel) ⟨by have := hR.1; show 1 + 1 ≤ _; omega, by have := hR.2; show 8 + (1 + 11) + 22 ≤ _; omega⟩) rfl (mwq_0 G σ) rfl hl.1 rfl (Nat.le_of_ble_eq_true rfl) dX10_readNote_13 ⟨Nat.zero_le _, Nat.zero_le _⟩ (fun H locs w => ?_)
      exact bX10_readNote_16 hA B hR hk7 hret _ _ _ _ _ _ hf w (lv_sub hl [0, 1] rfl)
set_option maxHeartbeats 4000000 in
set_option maxRecDepth 100000 in
theorem bX10_readNote_0 (hA : ∀ q : Nat, s.heap.size ≤ q → A q) (B : hy_B RX10 cX10_readNote 3 wsX10_readNote G A p s m args c) (hR : 5 ≤ R.frames ∧ 108 ≤ R.locals) {o : hy_S × Int32}  (hret : ∀ (σ : hy_S) (v : Int32) (pc : Nat) (H : Heap) (locs : List Loc) (ls : Array Slot), o = (σ, v) → (v = 0 ∨ v = 1) → hy_w mw G A s σ H locs → decode cX10_readNote pc = .ok (.ireturn, 1) → W p l e R s m args below meth c H locs 0 0 Q (F0 m pc ls [.int v])) (σ : hy_S) (H : Heap) (locs : List Loc) (ls : Array Slot) (hf : fX10_readNote σ = some o) (w : hy_w mw G A s σ H locs) (hl : lv_has ls 3 [(0, .ref (G.2.2.2.2.1 0))]) : W p l e R s m args below meth c H locs 0 0 Q (F0 m 0 ls []) := by
  unfold fX10_readNote at hf
  refine lv_aload_n B.1.1 B.1.2.1 dX10_readNote_0 rfl (lv_at hl 0 rfl) ?_
  refine lv_iconst (v := 0) B.1.1 B.1.2.1 dX10_readNote_1 (by decide) ?_
  obtain ⟨σ1, e2, hf⟩ := hy_pf_some hf
  refine hy_put (k := 23) B w (mwq_0 G) rfl in_X10_readNote_X10 tyX10 tyX10_ok nmX10 (by decide) (by decide +kernel) rfl rfl (by show 23 < 43; decide) (mwp_5 G) e2 dX10_readNote_2 (fun H locs w => ?_)
  refine lv_iconst (v := 0) B.1.1 B.1.2.1 dX10_readNote_5 (by decide) ?_
  refine lv_istore_n (lv' := [(1, .int 0), (0, .ref (G.2.2.2.2.1 0))]) B.1.1 B.1.2.1 dX10_readNote_6 rfl hl (by decide) rfl (fun ls hl => ?_)
  exact bX10_readNote_7 hA B hR  hret _ _ _ _ _ _ hf w (lv_sub hl [1, 0] rfl)
set_option maxHeartbeats 4000000 in
set_option maxRecDepth 100000 in
theorem mX10_readNote (l : Launch) (G : hy_G) (sz : Nat) (σ : hy_S) (o : hy_S × Int32) (hf : fX10_readNote σ = some o) : hy_M l yX10_readNote wsX10_readNote ({ frames := 5, cells := 0, slots := 0, locals := 108 }) mw G σ sz [.ref (G.2.2.2.2.1 0)] o := by
  refine Met.ofW (cc := cX10_readNote) (maxL := 3) (ret := (some .boolean)) (by decide +kernel) rfl ?_
  intro p e s m args below meth c s₁ B hml hv
  obtain ⟨rfl, hsz, hP, hK, hD0, hN⟩ := hv
  have hx := B.exec
  have hb := B.bytes
  have hr := B.returns
  have hts := atoms_spec (ws := wsX10_readNote) B.pre
  have hown : s.vm.findClass RX10 = some m.cls := findClass_of_methodNamed B.named
  have hlocks := B.notSynchronized
  subst hsz
  have hD := hD0.self (sz := s.heap.size)
  have hA : ∀ q : Nat, s.heap.size ≤ q → va_A (mw G σ) s.heap.size q := fun q h => Or.inr h
  have hS : va_S (va_A (mw G σ) s.heap.size) s.heap s.heap [] := va_S.rf
  have hl := lv_entry ([.ref (G.2.2.2.2.1 0)]) (n := 3) (Nat.le_of_ble_eq_true rfl)
  rw [lg_entry_eq]
  generalize (lg_sl ([.ref (G.2.2.2.2.1 0)]) ++ List.replicate (3 - (lg_sl ([.ref (G.2.2.2.2.1 0)])).length) Slot.unset).toArray = ls at hl ⊢
  have hl : lv_has ls 3 [(0, .ref (G.2.2.2.2.1 0))] := hl
  refine bX10_readNote_0 (A := va_A (mw G σ) s.heap.size) hA ⟨⟨hx, hb, hml, hown, hts⟩, hK, hN⟩ ⟨Nat.le_of_ble_eq_true rfl, Nat.le_of_ble_eq_true rfl⟩ (o := o) (fun τ v pc H locs ls ho hz w d => ?_) σ _ _ _ hf ⟨hP, hD, hS⟩ hl
  exact W.zret hx hb hr (hy_bool hz) (fun t ht hW => ⟨⟨v, τ, rfl, ⟨by rw [ho], by rw [ho]⟩, by have h9 := w.1; rw [← ht] at h9; exact h9⟩, w.2.2.F ht⟩) w.2.2.2.2 d
theorem in_X10_check_X10 : ∀ w ∈ u_ws RX10 TX10 43, w ∈ wsX10_check := fun _ h => xt1 (xr (h))
noncomputable def fX10_check_115 (σ : hy_S) (s0 : Int32) (s1 : Int32) (s2 : Int32) (x3 : Int32) : Option (hy_S × Int32) := hy_pa σ 16 8 s2 (s1 + s0) (fun σ1 => some (σ1, x3))
noncomputable def fX10_check_74 (σ : hy_S) (s0 : Int32) (x1 : Int32) : Option (hy_S × Int32) := hy_bd (fX10_throwsIf σ s0 2) (fun σ1 v2 => (if v2 = 0 then hy_bd (fX10_isFalse σ1 x1) (fun σ5 v6 => hy_ga σ5 15 8 x1 (fun v8 => hy_pa σ5 15 8 x1 (v8 + 1) (fun σ11 => hy_ga σ11 16 8 x1 (fun v14 => (if v6 ≤ 0 then fX10_check_115 σ11 0 v14 x1 v6 else fX10_check_115 σ11 1 v14 x1 v6))))) else some (σ1, 0)))
noncomputable def fX10_check_61 (σ : hy_S) (s0 : Int32) (x1 : Int32) (x2 : Int32) : Option (hy_S × Int32) := hy_pf σ 8 s0 (fun σ1 => (if x2 = 0 then fX10_check_74 σ1 1 x1 else fX10_check_74 σ1 0 x1))
noncomputable def fX10_check_34 (σ : hy_S) (s0 : Int32) (x1 : Int32) : Option (hy_S × Int32) := hy_bd (fX10_throwsIf σ s0 1) (fun σ1 v2 => (if v2 = 0 then hy_bd (fX10_readNote σ1) (fun σ5 v6 => (if v6 = 0 then fX10_check_61 σ5 (σ5.2 7) x1 v6 else fX10_check_61 σ5 (-1) x1 v6)) else some (σ1, 0)))
noncomputable def fX10_check (σ : hy_S) (x1 : Int32) : Option (hy_S × Int32) := hy_pf σ 0 0 (fun σ1 => hy_pf σ1 6 (σ1.2 4) (fun σ3 => hy_pf σ3 4 0 (fun σ5 => hy_bd (fX10_in σ5 x1 0 7) (fun σ7 v8 => (if v8 = 0 then fX10_check_34 σ7 1 x1 else fX10_check_34 σ7 0 x1)))))
set_option maxHeartbeats 4000000 in
set_option maxRecDepth 100000 in
theorem bX10_check_115 (hA : ∀ q : Nat, s.heap.size ≤ q → A q) (B : hy_B RX10 cX10_check 4 wsX10_check G A p s m args c) (hR : 6 ≤ R.frames ∧ 130 ≤ R.locals) {o : hy_S × Int32}  (hret : ∀ (σ : hy_S) (v : Int32) (pc : Nat) (H : Heap) (locs : List Loc) (ls : Array Slot), o = (σ, v) → hy_w mw G A s σ H locs → decode cX10_check pc = .ok (.ireturn, 1) → W p l e R s m args below meth c H locs 0 0 Q (F0 m pc ls [.int v])) (σ : hy_S) (s0 : Int32) (s1 : Int32) (s2 : Int32) (x3 : Int32) (H : Heap) (locs : List Loc) (ls : Array Slot) (hf : fX10_check_115 σ s0 s1 s2 x3 = some o) (w : hy_w mw G A s σ H locs) (hl : lv_has ls 4 [(3, .int x3)]) : W p l e R s m args below meth c H locs 0 0 Q (F0 m 115 ls [.int s0, .int s1, .int s2, .ref (G.2.2.2.2.1 17)]) := by
  unfold fX10_check_115 at hf
  refine lv_iadd B.1.1 B.1.2.1 dX10_check_115 ?_
  obtain ⟨h3, σ1, e2, hf⟩ := hy_pa_some hf
  refine hy_iast B w (mwq_17 G) (mws_17 G) h3 e2 dX10_check_116 (fun H locs w => ?_)
  refine lv_iload_n B.1.1 B.1.2.1 dX10_check_117 rfl (lv_at hl 0 rfl) ?_
  exact hret _ _ _ _ _ _ (Option.some.inj hf).symm w dX10_check_118
set_option maxHeartbeats 4000000 in
set_option maxRecDepth 100000 in
theorem bX10_check_74 (hA : ∀ q : Nat, s.heap.size ≤ q → A q) (B : hy_B RX10 cX10_check 4 wsX10_check G A p s m args c) (hR : 6 ≤ R.frames ∧ 130 ≤ R.locals) {o : hy_S × Int32}  (hret : ∀ (σ : hy_S) (v : Int32) (pc : Nat) (H : Heap) (locs : List Loc) (ls : Array Slot), o = (σ, v) → hy_w mw G A s σ H locs → decode cX10_check pc = .ok (.ireturn, 1) → W p l e R s m args below meth c H locs 0 0 Q (F0 m pc ls [.int v])) (σ : hy_S) (s0 : Int32) (x1 : Int32) (H : Heap) (locs : List Loc) (ls : Array Slot) (hf : fX10_check_74 σ s0 x1 = some o) (w : hy_w mw G A s σ H locs) (hl : lv_has ls 4 [(0, .ref (G.2.2.2.2.1 0)), (1, .int x1)]) : W p l e R s m args below meth c H locs 0 0 Q (F0 m 74 ls [.int s0, .ref (G.2.2.2.2.1 0)]) := by
  unfold fX10_check_74 at hf
  refine lv_iconst (v := 2) B.1.1 B.1.2.1 dX10_check_74 (by decide) ?_
  obtain ⟨σ1, v2, h3, hf⟩ := hy_bd_some hf
  refine hy_cv (As := [.int s0, .int 2]) (rest := []) (o := (σ1, v2)) mw_fix hA B w (fun sz => mX10_throwsIf l G sz σ s0 2 _ h3) (cwV 2 B.1.2.2.2.2 gX10_check_X10_throwsIf rfl rfl rfl (by decide +kernel) ⟨by have := hR.1; show 0 + 1 ≤ _; omega, by have := hR.2; show 8 + (3 + 11) + 0 ≤ _; omega⟩) rfl (mwq_0 G σ) rfl hl.1 rfl (Nat.le_of_ble_eq_true rfl) dX10_check_75 ⟨Nat.zero_le _, Nat.zero_le _⟩ (fun H locs w => ?_)
  refine lv_if_eq (tgt := 83) B.1.1 B.1.2.1 dX10_check_78 (by decide) (fun c4 => ?_) (fun c4 => ?_)
  · rw [if_pos c4] at hf
    refine lv_aload_n B.1.1 B.1.2.1 dX10_check_83 rfl (lv_at hl 0 rfl) ?_
    refine lv_iload_n B.1.1 B.1.2.1 dX10_check_84 rfl (lv_at hl 1 rfl) ?_
    obtain ⟨σ5, v6, h7, hf⟩ := hy_bd_some hf
    refine hy_cv (As := [.int x1]) (rest := []) (o := (σ5, v6)) mw_fix hA B w (fun sz => mX10_isFalse l G sz σ1 x1 _ h7) (cwV 1 B.1.2.2.2.2 gX10_check_X10_isFalse rfl rfl rfl (by decide +kernel) ⟨by have := hR.1; show 2 + 1 ≤ _; omega, by have := hR.2; show 8 + (3 + 11) + 43 ≤ _; omega⟩) rfl (mwq_0 G σ1) rfl hl.1 rfl (Nat.le_of_ble_eq_true rfl) dX10_check_85 ⟨Nat.zero_le _, Nat.zero_le _⟩ (fun H locs w => ?_)
    refine lv_istore_n (lv' := [(3, .int v6), (0, .ref (G.2.2.2.2.1 0)), (1, .int x1)]) B.1.1 B.1.2.1 dX10_check_88 rfl hl (by decide) rfl (fun ls hl => ?_)
    refine lv_aload_n B.1.1 B.1.2.1 dX10_check_89 rfl (lv_at hl 1 rfl) ?_
    refine hy_get (k := 19) (v := .ref (G.2.2.2.2.1 16)) B w (mwq_0 G) rfl in_X10_check_X10 (by decide) (by decide +kernel) rfl dX10_check_90 ?_
    refine lv_iload_n B.1.1 B.1.2.1 dX10_check_93 rfl (lv_at hl 2 rfl) ?_
    refine lv_dup2_11 B.1.1 B.1.2.1 dX10_check_94 rfl rfl ?_
    obtain ⟨h10, v8, e9, hf⟩ := hy_ga_some hf
    refine hy_iald B w (mwq_16 G) h10 e9 dX10_check_95 ?_
    refine lv_iconst (v := 1) B.1.1 B.1.2.1 dX10_check_96 (by decide) ?_
    refine lv_iadd B.1.1 B.1.2.1 dX10_check_97 ?_
    obtain ⟨h13, σ11, e12, hf⟩ := hy_pa_some hf
    refine hy_iast B w (mwq_16 G) (mws_16 G) h13 e12 dX10_check_98 (fun H locs w => ?_)
    refine lv_aload_n B.1.1 B.1.2.1 dX10_check_99 rfl (lv_at hl 1 rfl) ?_
    refine hy_get (k := 20) (v := .ref (G.2.2.2.2.1 17)) B w (mwq_0 G) rfl in_X10_check_X10 (by decide) (by decide +kernel) rfl dX10_check_100 ?_
    refine lv_iload_n B.1.1 B.1.2.1 dX10_check_103 rfl (lv_at hl 2 rfl) ?_
    refine lv_dup2_11 B.1.1 B.1.2.1 dX10_check_104 rfl rfl ?_
    obtain ⟨h16, v14, e15, hf⟩ := hy_ga_some hf
    refine hy_iald B w (mwq_17 G) h16 e15 dX10_check_105 ?_
    refine lv_iload_n B.1.1 B.1.2.1 dX10_check_106 rfl (lv_at hl 0 rfl) ?_
    refine lv_if_le (tgt := 114) B.1.1 B.1.2.1 dX10_check_107 (by decide) (fun c17 => ?_) (fun c17 => ?_)
    · rw [if_pos c17] at hf
      refine lv_iconst (v := 0) B.1.1 B.1.2.1 dX10_check_114 (by decide) ?_
      exact bX10_check_115 hA B hR  hret _ _ _ _ _ _ _ _ hf w (lv_sub hl [0] rfl)
    · rw [if_neg c17] at hf
      refine lv_iconst (v := 1) B.1.1 B.1.2.1 dX10_check_110 (by decide) ?_
      refine lv_goto (tgt := 115) B.1.1 B.1.2.1 dX10_check_111 (by decide) ?_
      exact bX10_check_115 hA B hR  hret _ _ _ _ _ _ _ _ hf w (lv_sub hl [0] rfl)
  · rw [if_neg c4] at hf
    refine lv_iconst (v := 0) B.1.1 B.1.2.1 dX10_check_81 (by decide) ?_
    exact hret _ _ _ _ _ _ (Option.some.inj hf).symm w dX10_check_82
set_option maxHeartbeats 4000000 in
set_option maxRecDepth 100000 in
theorem bX10_check_61 (hA : ∀ q : Nat, s.heap.size ≤ q → A q) (B : hy_B RX10 cX10_check 4 wsX10_check G A p s m args c) (hR : 6 ≤ R.frames ∧ 130 ≤ R.locals) {o : hy_S × Int32}  (hret : ∀ (σ : hy_S) (v : Int32) (pc : Nat) (H : Heap) (locs : List Loc) (ls : Array Slot), o = (σ, v) → hy_w mw G A s σ H locs → decode cX10_check pc = .ok (.ireturn, 1) → W p l e R s m args below meth c H locs 0 0 Q (F0 m pc ls [.int v])) (σ : hy_S) (s0 : Int32) (x1 : Int32) (x2 : Int32) (H : Heap) (locs : List Loc) (ls : Array Slot) (hf : fX10_check_61 σ s0 x1 x2 = some o) (w : hy_w mw G A s σ H locs) (hl : lv_has ls 4 [(0, .ref (G.2.2.2.2.1 0)), (1, .int x1), (2, .int x2)]) : W p l e R s m args below meth c H locs 0 0 Q (F0 m 61 ls [.int s0, .ref (G.2.2.2.2.1 0)]) := by
  unfold fX10_check_61 at hf
  obtain ⟨σ1, e2, hf⟩ := hy_pf_some hf
  refine hy_put (k := 26) B w (mwq_0 G) rfl in_X10_check_X10 tyX10 tyX10_ok nmX10 (by decide) (by decide +kernel) rfl rfl (by show 26 < 43; decide) (mwp_8 G) e2 dX10_check_61 (fun H locs w => ?_)
  refine lv_aload_n B.1.1 B.1.2.1 dX10_check_64 rfl (lv_at hl 0 rfl) ?_
  refine lv_iload_n B.1.1 B.1.2.1 dX10_check_65 rfl (lv_at hl 2 rfl) ?_
  refine lv_if_ne (tgt := 73) B.1.1 B.1.2.1 dX10_check_66 (by decide) (fun c3 => ?_) (fun c3 => ?_)
  · rw [if_neg c3] at hf
    refine lv_iconst (v := 0) B.1.1 B.1.2.1 dX10_check_73 (by decide) ?_
    exact bX10_check_74 hA B hR  hret _ _ _ _ _ _ hf w (lv_sub hl [0, 1] rfl)
  · rw [if_pos c3] at hf
    refine lv_iconst (v := 1) B.1.1 B.1.2.1 dX10_check_69 (by decide) ?_
    refine lv_goto (tgt := 74) B.1.1 B.1.2.1 dX10_check_70 (by decide) ?_
    exact bX10_check_74 hA B hR  hret _ _ _ _ _ _ hf w (lv_sub hl [0, 1] rfl)
set_option maxHeartbeats 4000000 in
set_option maxRecDepth 100000 in
theorem bX10_check_34 (hA : ∀ q : Nat, s.heap.size ≤ q → A q) (B : hy_B RX10 cX10_check 4 wsX10_check G A p s m args c) (hR : 6 ≤ R.frames ∧ 130 ≤ R.locals) {o : hy_S × Int32}  (hret : ∀ (σ : hy_S) (v : Int32) (pc : Nat) (H : Heap) (locs : List Loc) (ls : Array Slot), o = (σ, v) → hy_w mw G A s σ H locs → decode cX10_check pc = .ok (.ireturn, 1) → W p l e R s m args below meth c H locs 0 0 Q (F0 m pc ls [.int v])) (σ : hy_S) (s0 : Int32) (x1 : Int32) (H : Heap) (locs : List Loc) (ls : Array Slot) (hf : fX10_check_34 σ s0 x1 = some o) (w : hy_w mw G A s σ H locs) (hl : lv_has ls 4 [(0, .ref (G.2.2.2.2.1 0)), (1, .int x1)]) : W p l e R s m args below meth c H locs 0 0 Q (F0 m 34 ls [.int s0, .ref (G.2.2.2.2.1 0)]) := by
  unfold fX10_check_34 at hf
  refine lv_iconst (v := 1) B.1.1 B.1.2.1 dX10_check_34 (by decide) ?_
  obtain ⟨σ1, v2, h3, hf⟩ := hy_bd_some hf
  refine hy_cv (As := [.int s0, .int 1]) (rest := []) (o := (σ1, v2)) mw_fix hA B w (fun sz => mX10_throwsIf l G sz σ s0 1 _ h3) (cwV 2 B.1.2.2.2.2 gX10_check_X10_throwsIf rfl rfl rfl (by decide +kernel) ⟨by have := hR.1; show 0 + 1 ≤ _; omega, by have := hR.2; show 8 + (3 + 11) + 0 ≤ _; omega⟩) rfl (mwq_0 G σ) rfl hl.1 rfl (Nat.le_of_ble_eq_true rfl) dX10_check_35 ⟨Nat.zero_le _, Nat.zero_le _⟩ (fun H locs w => ?_)
  refine lv_if_eq (tgt := 43) B.1.1 B.1.2.1 dX10_check_38 (by decide) (fun c4 => ?_) (fun c4 => ?_)
  · rw [if_pos c4] at hf
    refine lv_aload_n B.1.1 B.1.2.1 dX10_check_43 rfl (lv_at hl 0 rfl) ?_
    obtain ⟨σ5, v6, h7, hf⟩ := hy_bd_some hf
    refine hy_cv (As := []) (rest := []) (o := (σ5, v6)) mw_fix hA B w (fun sz => mX10_readNote l G sz σ1  _ h7) (cwV 0 B.1.2.2.2.2 gX10_check_X10_readNote rfl rfl rfl (by decide +kernel) ⟨by have := hR.1; show 5 + 1 ≤ _; omega, by have := hR.2; show 8 + (3 + 11) + 108 ≤ _; omega⟩) rfl (mwq_0 G σ1) rfl hl.1 rfl (Nat.le_of_ble_eq_true rfl) dX10_check_44 ⟨Nat.zero_le _, Nat.zero_le _⟩ (fun H locs w => ?_)
    refine lv_istore_n (lv' := [(2, .int v6), (0, .ref (G.2.2.2.2.1 0)), (1, .int x1)]) B.1.1 B.1.2.1 dX10_check_47 rfl hl (by decide) rfl (fun ls hl => ?_)
    refine lv_aload_n B.1.1 B.1.2.1 dX10_check_48 rfl (lv_at hl 1 rfl) ?_
    refine lv_iload_n B.1.1 B.1.2.1 dX10_check_49 rfl (lv_at hl 0 rfl) ?_
    refine lv_if_eq (tgt := 57) B.1.1 B.1.2.1 dX10_check_50 (by decide) (fun c8 => ?_) (fun c8 => ?_)
    · rw [if_pos c8] at hf
      refine lv_aload_n B.1.1 B.1.2.1 dX10_check_57 rfl (lv_at hl 1 rfl) ?_
      refine hy_get (k := 25) (v := .int (σ5.2 7)) B w (mwq_0 G) rfl in_X10_check_X10 (by decide) (by decide +kernel) rfl dX10_check_58 ?_
      exact bX10_check_61 hA B hR  hret _ _ _ _ _ _ _ hf w (lv_sub hl [1, 2, 0] rfl)
    · rw [if_neg c8] at hf
      refine lv_iconst (v := (-1)) B.1.1 B.1.2.1 dX10_check_53 (by decide) ?_
      refine lv_goto (tgt := 61) B.1.1 B.1.2.1 dX10_check_54 (by decide) ?_
      exact bX10_check_61 hA B hR  hret _ _ _ _ _ _ _ hf w (lv_sub hl [1, 2, 0] rfl)
  · rw [if_neg c4] at hf
    refine lv_iconst (v := 0) B.1.1 B.1.2.1 dX10_check_41 (by decide) ?_
    exact hret _ _ _ _ _ _ (Option.some.inj hf).symm w dX10_check_42
set_option maxHeartbeats 4000000 in
set_option maxRecDepth 100000 in
theorem bX10_check_0 (hA : ∀ q : Nat, s.heap.size ≤ q → A q) (B : hy_B RX10 cX10_check 4 wsX10_check G A p s m args c) (hR : 6 ≤ R.frames ∧ 130 ≤ R.locals) {o : hy_S × Int32}  (hret : ∀ (σ : hy_S) (v : Int32) (pc : Nat) (H : Heap) (locs : List Loc) (ls : Array Slot), o = (σ, v) → hy_w mw G A s σ H locs → decode cX10_check pc = .ok (.ireturn, 1) → W p l e R s m args below meth c H locs 0 0 Q (F0 m pc ls [.int v])) (σ : hy_S) (x1 : Int32) (H : Heap) (locs : List Loc) (ls : Array Slot) (hf : fX10_check σ x1 = some o) (w : hy_w mw G A s σ H locs) (hl : lv_has ls 4 [(0, .ref (G.2.2.2.2.1 0)), (1, .int x1)]) : W p l e R s m args below meth c H locs 0 0 Q (F0 m 0 ls []) := by
  unfold fX10_check at hf
  refine lv_aload_n B.1.1 B.1.2.1 dX10_check_0 rfl (lv_at hl 0 rfl) ?_
  refine lv_iconst (v := 0) B.1.1 B.1.2.1 dX10_check_1 (by decide) ?_
  obtain ⟨σ1, e2, hf⟩ := hy_pf_some hf
  refine hy_put (k := 0) B w (mwq_0 G) rfl in_X10_check_X10 tyX10 tyX10_ok nmX10 (by decide) (by decide +kernel) rfl rfl (by show 0 < 43; decide) (mwp_0 G) e2 dX10_check_2 (fun H locs w => ?_)
  refine lv_aload_n B.1.1 B.1.2.1 dX10_check_5 rfl (lv_at hl 0 rfl) ?_
  refine lv_aload_n B.1.1 B.1.2.1 dX10_check_6 rfl (lv_at hl 0 rfl) ?_
  refine hy_get (k := 22) (v := .int (σ1.2 4)) B w (mwq_0 G) rfl in_X10_check_X10 (by decide) (by decide +kernel) rfl dX10_check_7 ?_
  obtain ⟨σ3, e4, hf⟩ := hy_pf_some hf
  refine hy_put (k := 24) B w (mwq_0 G) rfl in_X10_check_X10 tyX10 tyX10_ok nmX10 (by decide) (by decide +kernel) rfl rfl (by show 24 < 43; decide) (mwp_6 G) e4 dX10_check_10 (fun H locs w => ?_)
  refine lv_aload_n B.1.1 B.1.2.1 dX10_check_13 rfl (lv_at hl 0 rfl) ?_
  refine lv_iconst (v := 0) B.1.1 B.1.2.1 dX10_check_14 (by decide) ?_
  obtain ⟨σ5, e6, hf⟩ := hy_pf_some hf
  refine hy_put (k := 22) B w (mwq_0 G) rfl in_X10_check_X10 tyX10 tyX10_ok nmX10 (by decide) (by decide +kernel) rfl rfl (by show 22 < 43; decide) (mwp_4 G) e6 dX10_check_15 (fun H locs w => ?_)
  refine lv_aload_n B.1.1 B.1.2.1 dX10_check_18 rfl (lv_at hl 0 rfl) ?_
  refine lv_iload_n B.1.1 B.1.2.1 dX10_check_19 rfl (lv_at hl 1 rfl) ?_
  refine lv_iconst (v := 0) B.1.1 B.1.2.1 dX10_check_20 (by decide) ?_
  refine lv_bipush (v := 7) B.1.1 B.1.2.1 dX10_check_21 (by decide) ?_
  obtain ⟨σ7, v8, h9, hf⟩ := hy_bd_some hf
  refine hy_cs (As := [.int x1, .int 0, .int 7]) (rest := [.ref (G.2.2.2.2.1 0)]) (o := (σ7, v8)) mw_fix hA B w (fun sz => mX10_in l G sz σ5 x1 0 7 _ h9) (cwS 3 B.1.2.2.2.2 gX10_check_X10_in rfl rfl rfl (by decide +kernel) ⟨by have := hR.1; show 0 + 1 ≤ _; omega, by have := hR.2; show 8 + (3 + 11) + 0 ≤ _; omega⟩) rfl hl.1 rfl (Nat.le_of_ble_eq_true rfl) dX10_check_23 ⟨Nat.zero_le _, Nat.zero_le _⟩ (fun H locs w => ?_)
  refine lv_if_ne (tgt := 33) B.1.1 B.1.2.1 dX10_check_26 (by decide) (fun c10 => ?_) (fun c10 => ?_)
  · rw [if_neg c10] at hf
    refine lv_iconst (v := 0) B.1.1 B.1.2.1 dX10_check_33 (by decide) ?_
    exact bX10_check_34 hA B hR  hret _ _ _ _ _ _ hf w (lv_sub hl [0, 1] rfl)
  · rw [if_pos c10] at hf
    refine lv_iconst (v := 1) B.1.1 B.1.2.1 dX10_check_29 (by decide) ?_
    refine lv_goto (tgt := 34) B.1.1 B.1.2.1 dX10_check_30 (by decide) ?_
    exact bX10_check_34 hA B hR  hret _ _ _ _ _ _ hf w (lv_sub hl [0, 1] rfl)
set_option maxHeartbeats 4000000 in
set_option maxRecDepth 100000 in
theorem mX10_check (l : Launch) (G : hy_G) (sz : Nat) (σ : hy_S) (x1 : Int32) (o : hy_S × Int32) (hf : fX10_check σ x1 = some o) : hy_M l yX10_check wsX10_check ({ frames := 6, cells := 0, slots := 0, locals := 130 }) mw G σ sz [.ref (G.2.2.2.2.1 0), .int x1] o := by
  refine Met.ofW (cc := cX10_check) (maxL := 4) (ret := (some .int)) (by decide +kernel) rfl ?_
  intro p e s m args below meth c s₁ B hml hv
  obtain ⟨rfl, hsz, hP, hK, hD0, hN⟩ := hv
  have hx := B.exec
  have hb := B.bytes
  have hr := B.returns
  have hts := atoms_spec (ws := wsX10_check) B.pre
  have hown : s.vm.findClass RX10 = some m.cls := findClass_of_methodNamed B.named
  have hlocks := B.notSynchronized
  subst hsz
  have hD := hD0.self (sz := s.heap.size)
  have hA : ∀ q : Nat, s.heap.size ≤ q → va_A (mw G σ) s.heap.size q := fun q h => Or.inr h
  have hS : va_S (va_A (mw G σ) s.heap.size) s.heap s.heap [] := va_S.rf
  have hl := lv_entry ([.ref (G.2.2.2.2.1 0), .int x1]) (n := 4) (Nat.le_of_ble_eq_true rfl)
  rw [lg_entry_eq]
  generalize (lg_sl ([.ref (G.2.2.2.2.1 0), .int x1]) ++ List.replicate (4 - (lg_sl ([.ref (G.2.2.2.2.1 0), .int x1])).length) Slot.unset).toArray = ls at hl ⊢
  have hl : lv_has ls 4 [(0, .ref (G.2.2.2.2.1 0)), (1, .int x1)] := hl
  refine bX10_check_0 (A := va_A (mw G σ) s.heap.size) hA ⟨⟨hx, hb, hml, hown, hts⟩, hK, hN⟩ ⟨Nat.le_of_ble_eq_true rfl, Nat.le_of_ble_eq_true rfl⟩ (o := o) (fun τ v pc H locs ls ho w d => ?_) σ x1 _ _ _ hf ⟨hP, hD, hS⟩ hl
  exact W.iret hx hb hr (fun t ht hW => ⟨⟨v, τ, rfl, ⟨by rw [ho], by rw [ho]⟩, by have h9 := w.1; rw [← ht] at h9; exact h9⟩, w.2.2.F ht⟩) w.2.2.2.2 d
end HN1
