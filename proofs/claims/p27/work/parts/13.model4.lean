section HM4
variable {p : Program} {l : Launch} {e : Env} {R : Room} {s : State} {m : MethodId} {args : Array Value} {below : List Frame} {meth : Method} {c : Code} {Q : State → Prop} {G : hy_G} {A : Nat → Prop} {Qc : Array Value → State → Outcome → State → Prop}
theorem in_X10_steps_X10 : ∀ w ∈ u_ws RX10 TX10 43, w ∈ wsX10_steps := fun _ h => xt1 (xr (h))
noncomputable def fX10_steps_103 (k25 : hy_S → Int32 → Int32 → Option (hy_S × Int32)) (σ : hy_S) (x1 : Int32) (x2 : Int32) : Option (hy_S × Int32) := k25 σ x1 (x2 + 1)
noncomputable def fX10_steps_65 (k25 : hy_S → Int32 → Int32 → Option (hy_S × Int32)) (σ : hy_S) (x1 : Int32) (x2 : Int32) : Option (hy_S × Int32) := hy_ga σ 23 60 x2 (fun v1 => hy_ga σ 24 60 x2 (fun v4 => hy_ga σ 28 169 ((13 * v1) + v4) (fun v7 => hy_ga σ 25 60 x2 (fun v10 => hy_pa σ 28 169 ((13 * v1) + v4) (if v7 < v10 then v10 else v7) (fun σ15 => fX10_steps_103 k25 σ15 x1 x2)))))
noncomputable def fX10_steps_25 : Nat → hy_S → Int32 → Int32 → Option (hy_S × Int32)
  | 0, _, _, _ => none
  | n + 1, σ, x1, x2 => (if (σ.2 10) ≤ x2 then some (σ, 0) else hy_ga σ 26 60 x2 (fun v2 => (if x1 < v2 then fX10_steps_103 (fX10_steps_25 n) σ x1 x2 else hy_ga σ 27 60 x2 (fun v6 => (if v6 < 0 then fX10_steps_65 (fX10_steps_25 n) σ x1 x2 else hy_ga σ 27 60 x2 (fun v10 => (if x1 < v10 then fX10_steps_65 (fX10_steps_25 n) σ x1 x2 else fX10_steps_103 (fX10_steps_25 n) σ x1 x2)))))))
noncomputable def fX10_steps_2 : Nat → hy_S → Int32 → Int32 → Option (hy_S × Int32)
  | 0, _, _, _ => none
  | n + 1, σ, x1, x2 => (if 169 ≤ x2 then fX10_steps_25 hy_fu σ x1 0 else hy_pa σ 28 169 x2 (-100000000) (fun σ2 => (fX10_steps_2 n) σ2 x1 (x2 + 1)))
noncomputable def fX10_steps (σ : hy_S) (x1 : Int32) : Option (hy_S × Int32) := fX10_steps_2 hy_fu σ x1 0
set_option maxHeartbeats 4000000 in
set_option maxRecDepth 100000 in
theorem bX10_steps_103 (hA : ∀ q : Nat, s.heap.size ≤ q → A q) (B : hy_B RX10 cX10_steps 4 wsX10_steps G A p s m args c) (hR : 1 ≤ R.frames ∧ 30 ≤ R.locals) {o : hy_S × Int32}  {k25 : hy_S → Int32 → Int32 → Option (hy_S × Int32)} (hk25 : ∀ (σ : hy_S) (x1 : Int32) (x2 : Int32) (H : Heap) (locs : List Loc) (ls : Array Slot), k25 σ x1 x2 = some o → hy_w mw G A s σ H locs → lv_has ls 4 [(0, .ref (G.2.2.2.2.1 0)), (1, .int x1), (2, .int x2)] → W p l e R s m args below meth c H locs 0 0 Q (F0 m 25 ls [])) (hret : ∀ (σ : hy_S) (pc : Nat) (H : Heap) (locs : List Loc) (ls : Array Slot), o = (σ, 0) → hy_w mw G A s σ H locs → decode cX10_steps pc = .ok (.return_, 1) → W p l e R s m args below meth c H locs 0 0 Q (F0 m pc ls [])) (σ : hy_S) (x1 : Int32) (x2 : Int32) (H : Heap) (locs : List Loc) (ls : Array Slot) (hf : fX10_steps_103 k25 σ x1 x2 = some o) (w : hy_w mw G A s σ H locs) (hl : lv_has ls 4 [(0, .ref (G.2.2.2.2.1 0)), (1, .int x1), (2, .int x2)]) : W p l e R s m args below meth c H locs 0 0 Q (F0 m 103 ls []) := by
  unfold fX10_steps_103 at hf
  refine lv_iinc (v := (x2 + 1)) (lv' := [(2, .int (x2 + 1)), (0, .ref (G.2.2.2.2.1 0)), (1, .int x1)]) B.1.1 B.1.2.1 dX10_steps_103 hl (k := 2) rfl rfl (by decide) rfl (fun ls hl => ?_)
  refine lv_goto (tgt := 25) B.1.1 B.1.2.1 dX10_steps_106 (by decide) ?_
  exact hk25 _ _ _ _ _ _ hf w (lv_sub hl [1, 2, 0] rfl)
set_option maxHeartbeats 4000000 in
set_option maxRecDepth 100000 in
theorem bX10_steps_65 (hA : ∀ q : Nat, s.heap.size ≤ q → A q) (B : hy_B RX10 cX10_steps 4 wsX10_steps G A p s m args c) (hR : 1 ≤ R.frames ∧ 30 ≤ R.locals) {o : hy_S × Int32}  {k25 : hy_S → Int32 → Int32 → Option (hy_S × Int32)} (hk25 : ∀ (σ : hy_S) (x1 : Int32) (x2 : Int32) (H : Heap) (locs : List Loc) (ls : Array Slot), k25 σ x1 x2 = some o → hy_w mw G A s σ H locs → lv_has ls 4 [(0, .ref (G.2.2.2.2.1 0)), (1, .int x1), (2, .int x2)] → W p l e R s m args below meth c H locs 0 0 Q (F0 m 25 ls [])) (hret : ∀ (σ : hy_S) (pc : Nat) (H : Heap) (locs : List Loc) (ls : Array Slot), o = (σ, 0) → hy_w mw G A s σ H locs → decode cX10_steps pc = .ok (.return_, 1) → W p l e R s m args below meth c H locs 0 0 Q (F0 m pc ls [])) (σ : hy_S) (x1 : Int32) (x2 : Int32) (H : Heap) (locs : List Loc) (ls : Array Slot) (hf : fX10_steps_65 k25 σ x1 x2 = some o) (w : hy_w mw G A s σ H locs) (hl : lv_has ls 4 [(0, .ref (G.2.2.2.2.1 0)), (1, .int x1), (2, .int x2)]) : W p l e R s m args below meth c H locs 0 0 Q (F0 m 65 ls []) := by
  unfold fX10_steps_65 at hf
  refine lv_bipush (v := 13) B.1.1 B.1.2.1 dX10_steps_65 (by decide) ?_
  refine lv_aload_n B.1.1 B.1.2.1 dX10_steps_67 rfl (lv_at hl 0 rfl) ?_
  refine hy_get (k := 33) (v := .ref (G.2.2.2.2.1 24)) B w (mwq_0 G) rfl in_X10_steps_X10 (by decide) (by decide +kernel) rfl dX10_steps_68 ?_
  refine lv_iload_n B.1.1 B.1.2.1 dX10_steps_71 rfl (lv_at hl 2 rfl) ?_
  obtain ⟨h3, v1, e2, hf⟩ := hy_ga_some hf
  refine hy_iald B w (mwq_24 G) h3 e2 dX10_steps_72 ?_
  refine lv_imul B.1.1 B.1.2.1 dX10_steps_73 ?_
  refine lv_aload_n B.1.1 B.1.2.1 dX10_steps_74 rfl (lv_at hl 0 rfl) ?_
  refine hy_get (k := 34) (v := .ref (G.2.2.2.2.1 25)) B w (mwq_0 G) rfl in_X10_steps_X10 (by decide) (by decide +kernel) rfl dX10_steps_75 ?_
  refine lv_iload_n B.1.1 B.1.2.1 dX10_steps_78 rfl (lv_at hl 2 rfl) ?_
  obtain ⟨h6, v4, e5, hf⟩ := hy_ga_some hf
  refine hy_iald B w (mwq_25 G) h6 e5 dX10_steps_79 ?_
  refine lv_iadd B.1.1 B.1.2.1 dX10_steps_80 ?_
  refine lv_istore_n (lv' := [(3, .int ((13 * v1) + v4)), (0, .ref (G.2.2.2.2.1 0)), (1, .int x1), (2, .int x2)]) B.1.1 B.1.2.1 dX10_steps_81 rfl hl (by decide) rfl (fun ls hl => ?_)
  refine lv_aload_n B.1.1 B.1.2.1 dX10_steps_82 rfl (lv_at hl 1 rfl) ?_
  refine hy_get (k := 40) (v := .ref (G.2.2.2.2.1 29)) B w (mwq_0 G) rfl in_X10_steps_X10 (by decide) (by decide +kernel) rfl dX10_steps_83 ?_
  refine lv_iload_n B.1.1 B.1.2.1 dX10_steps_86 rfl (lv_at hl 0 rfl) ?_
  refine lv_aload_n B.1.1 B.1.2.1 dX10_steps_87 rfl (lv_at hl 1 rfl) ?_
  refine hy_get (k := 40) (v := .ref (G.2.2.2.2.1 29)) B w (mwq_0 G) rfl in_X10_steps_X10 (by decide) (by decide +kernel) rfl dX10_steps_88 ?_
  refine lv_iload_n B.1.1 B.1.2.1 dX10_steps_91 rfl (lv_at hl 0 rfl) ?_
  obtain ⟨h9, v7, e8, hf⟩ := hy_ga_some hf
  refine hy_iald B w (mwq_29 G) h9 e8 dX10_steps_92 ?_
  refine lv_aload_n B.1.1 B.1.2.1 dX10_steps_93 rfl (lv_at hl 1 rfl) ?_
  refine hy_get (k := 35) (v := .ref (G.2.2.2.2.1 26)) B w (mwq_0 G) rfl in_X10_steps_X10 (by decide) (by decide +kernel) rfl dX10_steps_94 ?_
  refine lv_iload_n B.1.1 B.1.2.1 dX10_steps_97 rfl (lv_at hl 3 rfl) ?_
  obtain ⟨h12, v10, e11, hf⟩ := hy_ga_some hf
  refine hy_iald B w (mwq_26 G) h12 e11 dX10_steps_98 ?_
  refine va_mmax B.1.1 B.1.2.1 (B.1.2.2.1.trans hl.1.symm) B.1.2.2.2.1 (B.1.2.2.2.2 (.methodLink RX10 153 Lib.Math.max.name) (by decide +kernel)) (B.1.2.2.2.2 (.static Lib.Math.max.name) (by decide +kernel)) (B.1.2.2.2.2 (.initialized "java/lang/Math") (by decide +kernel)) (B.1.2.2.2.2 (.code Lib.Math.max.name Lib.Math.max.code 2 (some .int)) (by decide +kernel)) (by have := hR; omega) (by have := hR; show _ ≤ _; simp [Value.category]; omega) (Nat.zero_le _) (Nat.zero_le _) dX10_steps_99 ?_
  obtain ⟨h17, σ15, e16, hf⟩ := hy_pa_some hf
  refine hy_iast B w (mwq_29 G) (mws_29 G) h17 e16 dX10_steps_102 (fun H locs w => ?_)
  exact bX10_steps_103 hA B hR hk25 hret _ _ _ _ _ _ hf w (lv_sub hl [1, 2, 3] rfl)
set_option maxHeartbeats 4000000 in
set_option maxRecDepth 100000 in
theorem bX10_steps_25 (hA : ∀ q : Nat, s.heap.size ≤ q → A q) (B : hy_B RX10 cX10_steps 4 wsX10_steps G A p s m args c) (hR : 1 ≤ R.frames ∧ 30 ≤ R.locals) {o : hy_S × Int32}  (hret : ∀ (σ : hy_S) (pc : Nat) (H : Heap) (locs : List Loc) (ls : Array Slot), o = (σ, 0) → hy_w mw G A s σ H locs → decode cX10_steps pc = .ok (.return_, 1) → W p l e R s m args below meth c H locs 0 0 Q (F0 m pc ls [])) : ∀ (n : Nat) (σ : hy_S) (x1 : Int32) (x2 : Int32) (H : Heap) (locs : List Loc) (ls : Array Slot), fX10_steps_25 n σ x1 x2 = some o → hy_w mw G A s σ H locs → lv_has ls 4 [(0, .ref (G.2.2.2.2.1 0)), (1, .int x1), (2, .int x2)] → W p l e R s m args below meth c H locs 0 0 Q (F0 m 25 ls []) := by
  intro n
  induction n with
  | zero => intro σ x1 x2 H locs ls hf; cases hf
  | succ n hk25 =>
    intro σ x1 x2 H locs ls hf w hl
    unfold fX10_steps_25 at hf
    refine lv_iload_n B.1.1 B.1.2.1 dX10_steps_25 rfl (lv_at hl 2 rfl) ?_
    refine lv_aload_n B.1.1 B.1.2.1 dX10_steps_26 rfl (lv_at hl 0 rfl) ?_
    refine hy_get (k := 38) (v := .int (σ.2 10)) B w (mwq_0 G) rfl in_X10_steps_X10 (by decide) (by decide +kernel) rfl dX10_steps_27 ?_
    refine lv_icmp_ge (tgt := 109) B.1.1 B.1.2.1 dX10_steps_30 (by decide) (fun c1 => ?_) (fun c1 => ?_)
    · rw [if_pos c1] at hf
      exact hret _ _ _ _ _ (Option.some.inj hf).symm w dX10_steps_109
    · rw [if_neg c1] at hf
      refine lv_aload_n B.1.1 B.1.2.1 dX10_steps_33 rfl (lv_at hl 0 rfl) ?_
      refine hy_get (k := 36) (v := .ref (G.2.2.2.2.1 27)) B w (mwq_0 G) rfl in_X10_steps_X10 (by decide) (by decide +kernel) rfl dX10_steps_34 ?_
      refine lv_iload_n B.1.1 B.1.2.1 dX10_steps_37 rfl (lv_at hl 2 rfl) ?_
      obtain ⟨h4, v2, e3, hf⟩ := hy_ga_some hf
      refine hy_iald B w (mwq_27 G) h4 e3 dX10_steps_38 ?_
      refine lv_iload_n B.1.1 B.1.2.1 dX10_steps_39 rfl (lv_at hl 1 rfl) ?_
      refine lv_icmp_gt (tgt := 103) B.1.1 B.1.2.1 dX10_steps_40 (by decide) (fun c5 => ?_) (fun c5 => ?_)
      · rw [if_pos c5] at hf
        exact bX10_steps_103 hA B hR hk25 hret _ _ _ _ _ _ hf w (lv_sub hl [0, 1, 2] rfl)
      · rw [if_neg c5] at hf
        refine lv_aload_n B.1.1 B.1.2.1 dX10_steps_43 rfl (lv_at hl 0 rfl) ?_
        refine hy_get (k := 37) (v := .ref (G.2.2.2.2.1 28)) B w (mwq_0 G) rfl in_X10_steps_X10 (by decide) (by decide +kernel) rfl dX10_steps_44 ?_
        refine lv_iload_n B.1.1 B.1.2.1 dX10_steps_47 rfl (lv_at hl 2 rfl) ?_
        obtain ⟨h8, v6, e7, hf⟩ := hy_ga_some hf
        refine hy_iald B w (mwq_28 G) h8 e7 dX10_steps_48 ?_
        refine lv_if_lt (tgt := 65) B.1.1 B.1.2.1 dX10_steps_49 (by decide) (fun c9 => ?_) (fun c9 => ?_)
        · rw [if_pos c9] at hf
          exact bX10_steps_65 hA B hR hk25 hret _ _ _ _ _ _ hf w (lv_sub hl [0, 1, 2] rfl)
        · rw [if_neg c9] at hf
          refine lv_iload_n B.1.1 B.1.2.1 dX10_steps_52 rfl (lv_at hl 1 rfl) ?_
          refine lv_aload_n B.1.1 B.1.2.1 dX10_steps_53 rfl (lv_at hl 0 rfl) ?_
          refine hy_get (k := 37) (v := .ref (G.2.2.2.2.1 28)) B w (mwq_0 G) rfl in_X10_steps_X10 (by decide) (by decide +kernel) rfl dX10_steps_54 ?_
          refine lv_iload_n B.1.1 B.1.2.1 dX10_steps_57 rfl (lv_at hl 2 rfl) ?_
          obtain ⟨h12, v10, e11, hf⟩ := hy_ga_some hf
          refine hy_iald B w (mwq_28 G) h12 e11 dX10_steps_58 ?_
          refine lv_icmp_lt (tgt := 65) B.1.1 B.1.2.1 dX10_steps_59 (by decide) (fun c13 => ?_) (fun c13 => ?_)
          · rw [if_pos c13] at hf
            exact bX10_steps_65 hA B hR hk25 hret _ _ _ _ _ _ hf w (lv_sub hl [0, 1, 2] rfl)
          · rw [if_neg c13] at hf
            refine lv_goto (tgt := 103) B.1.1 B.1.2.1 dX10_steps_62 (by decide) ?_
            exact bX10_steps_103 hA B hR hk25 hret _ _ _ _ _ _ hf w (lv_sub hl [0, 1, 2] rfl)
set_option maxHeartbeats 4000000 in
set_option maxRecDepth 100000 in
theorem bX10_steps_2 (hA : ∀ q : Nat, s.heap.size ≤ q → A q) (B : hy_B RX10 cX10_steps 4 wsX10_steps G A p s m args c) (hR : 1 ≤ R.frames ∧ 30 ≤ R.locals) {o : hy_S × Int32}  (hret : ∀ (σ : hy_S) (pc : Nat) (H : Heap) (locs : List Loc) (ls : Array Slot), o = (σ, 0) → hy_w mw G A s σ H locs → decode cX10_steps pc = .ok (.return_, 1) → W p l e R s m args below meth c H locs 0 0 Q (F0 m pc ls [])) : ∀ (n : Nat) (σ : hy_S) (x1 : Int32) (x2 : Int32) (H : Heap) (locs : List Loc) (ls : Array Slot), fX10_steps_2 n σ x1 x2 = some o → hy_w mw G A s σ H locs → lv_has ls 4 [(0, .ref (G.2.2.2.2.1 0)), (1, .int x1), (2, .int x2)] → W p l e R s m args below meth c H locs 0 0 Q (F0 m 2 ls []) := by
  intro n
  induction n with
  | zero => intro σ x1 x2 H locs ls hf; cases hf
  | succ n hk2 =>
    intro σ x1 x2 H locs ls hf w hl
    unfold fX10_steps_2 at hf
    refine lv_iload_n B.1.1 B.1.2.1 dX10_steps_2 rfl (lv_at hl 2 rfl) ?_
    refine lv_sipush (v := 169) B.1.1 B.1.2.1 dX10_steps_3 (by decide) ?_
    refine lv_icmp_ge (tgt := 23) B.1.1 B.1.2.1 dX10_steps_6 (by decide) (fun c1 => ?_) (fun c1 => ?_)
    · rw [if_pos c1] at hf
      refine lv_iconst (v := 0) B.1.1 B.1.2.1 dX10_steps_23 (by decide) ?_
      refine lv_istore_n (lv' := [(2, .int 0), (0, .ref (G.2.2.2.2.1 0)), (1, .int x1)]) B.1.1 B.1.2.1 dX10_steps_24 rfl hl (by decide) rfl (fun ls hl => ?_)
      exact bX10_steps_25 hA B hR  hret _ _ _ _ _ _ _ hf w (lv_sub hl [1, 2, 0] rfl)
    · rw [if_neg c1] at hf
      refine lv_aload_n B.1.1 B.1.2.1 dX10_steps_9 rfl (lv_at hl 0 rfl) ?_
      refine hy_get (k := 40) (v := .ref (G.2.2.2.2.1 29)) B w (mwq_0 G) rfl in_X10_steps_X10 (by decide) (by decide +kernel) rfl dX10_steps_10 ?_
      refine lv_iload_n B.1.1 B.1.2.1 dX10_steps_13 rfl (lv_at hl 2 rfl) ?_
      refine lv_ldc (v := (-100000000)) B.1.1 B.1.2.1 B.1.2.2.2.1 (B.1.2.2.2.2 (.constant RX10 233 (-100000000)) (by decide +kernel)) dX10_steps_14 ?_
      obtain ⟨h4, σ2, e3, hf⟩ := hy_pa_some hf
      refine hy_iast B w (mwq_29 G) (mws_29 G) h4 e3 dX10_steps_16 (fun H locs w => ?_)
      refine lv_iinc (v := (x2 + 1)) (lv' := [(2, .int (x2 + 1)), (0, .ref (G.2.2.2.2.1 0)), (1, .int x1)]) B.1.1 B.1.2.1 dX10_steps_17 hl (k := 2) rfl rfl (by decide) rfl (fun ls hl => ?_)
      refine lv_goto (tgt := 2) B.1.1 B.1.2.1 dX10_steps_20 (by decide) ?_
      exact hk2 _ _ _ _ _ _ hf w (lv_sub hl [1, 2, 0] rfl)
set_option maxHeartbeats 4000000 in
set_option maxRecDepth 100000 in
theorem bX10_steps_0 (hA : ∀ q : Nat, s.heap.size ≤ q → A q) (B : hy_B RX10 cX10_steps 4 wsX10_steps G A p s m args c) (hR : 1 ≤ R.frames ∧ 30 ≤ R.locals) {o : hy_S × Int32}  (hret : ∀ (σ : hy_S) (pc : Nat) (H : Heap) (locs : List Loc) (ls : Array Slot), o = (σ, 0) → hy_w mw G A s σ H locs → decode cX10_steps pc = .ok (.return_, 1) → W p l e R s m args below meth c H locs 0 0 Q (F0 m pc ls [])) (σ : hy_S) (x1 : Int32) (H : Heap) (locs : List Loc) (ls : Array Slot) (hf : fX10_steps σ x1 = some o) (w : hy_w mw G A s σ H locs) (hl : lv_has ls 4 [(0, .ref (G.2.2.2.2.1 0)), (1, .int x1)]) : W p l e R s m args below meth c H locs 0 0 Q (F0 m 0 ls []) := by
  unfold fX10_steps at hf
  refine lv_iconst (v := 0) B.1.1 B.1.2.1 dX10_steps_0 (by decide) ?_
  refine lv_istore_n (lv' := [(2, .int 0), (0, .ref (G.2.2.2.2.1 0)), (1, .int x1)]) B.1.1 B.1.2.1 dX10_steps_1 rfl hl (by decide) rfl (fun ls hl => ?_)
  exact bX10_steps_2 hA B hR  hret _ _ _ _ _ _ _ hf w (lv_sub hl [1, 2, 0] rfl)
set_option maxHeartbeats 4000000 in
set_option maxRecDepth 100000 in
theorem mX10_steps (l : Launch) (G : hy_G) (sz : Nat) (σ : hy_S) (x1 : Int32) (o : hy_S × Int32) (hf : fX10_steps σ x1 = some o) : hy_Mv l yX10_steps wsX10_steps ({ frames := 1, cells := 0, slots := 0, locals := 30 }) mw G σ sz [.ref (G.2.2.2.2.1 0), .int x1] o := by
  refine Met.ofW (cc := cX10_steps) (maxL := 4) (ret := none) (by decide +kernel) rfl ?_
  intro p e s m args below meth c s₁ B hml hv
  obtain ⟨rfl, hsz, hP, hK, hD0, hN⟩ := hv
  have hx := B.exec
  have hb := B.bytes
  have hr := B.returns
  have hts := atoms_spec (ws := wsX10_steps) B.pre
  have hown : s.vm.findClass RX10 = some m.cls := findClass_of_methodNamed B.named
  have hlocks := B.notSynchronized
  subst hsz
  have hD := hD0.self (sz := s.heap.size)
  have hA : ∀ q : Nat, s.heap.size ≤ q → va_A (mw G σ) s.heap.size q := fun q h => Or.inr h
  have hS : va_S (va_A (mw G σ) s.heap.size) s.heap s.heap [] := va_S.rf
  have hl := lv_entry ([.ref (G.2.2.2.2.1 0), .int x1]) (n := 4) (Nat.le_of_ble_eq_true rfl)
  rw [lg_entry_eq]
  generalize (lg_sl ([.ref (G.2.2.2.2.1 0), .int x1]) ++ List.replicate (4 - (lg_sl ([.ref (G.2.2.2.2.1 0), .int x1])).length) Slot.unset).toArray = ls at hl ⊢
  have hl : lv_has ls 4 [(0, .ref (G.2.2.2.2.1 0)), (1, .int x1)] := hl
  refine bX10_steps_0 (A := va_A (mw G σ) s.heap.size) hA ⟨⟨hx, hb, hml, hown, hts⟩, hK, hN⟩ ⟨Nat.le_of_ble_eq_true rfl, Nat.le_of_ble_eq_true rfl⟩ (o := o) (fun τ pc H locs ls ho w d => ?_) σ x1 _ _ _ hf ⟨hP, hD, hS⟩ hl
  exact W.vret hx hb hr (fun t ht hW => ⟨⟨τ, rfl, by rw [ho], by have h9 := w.1; rw [← ht] at h9; exact h9⟩, w.2.2.F ht⟩) w.2.2.2.2 d
theorem in_X10_round_X10 : ∀ w ∈ u_ws RX10 TX10 43, w ∈ wsX10_round := fun _ h => xt1 (xr (h))
noncomputable def fX10_round_201 (k34 : hy_S → Int32 → Option (hy_S × Int32)) : Nat → hy_S → Int32 → Int32 → Option (hy_S × Int32)
  | 0, _, _, _ => none
  | n + 1, σ, x2, x3 => (if 13 ≤ x3 then k34 σ (x2 + 1) else hy_ga σ 29 169 ((13 * x3) + x3) (fun v2 => (if v2 ≤ 0 then (fX10_round_201 k34 n) σ x2 (x3 + 1) else some (σ, x2))))
noncomputable def fX10_round_174 (k34 : hy_S → Int32 → Option (hy_S × Int32)) : Nat → hy_S → Int32 → Int32 → Option (hy_S × Int32)
  | 0, _, _, _ => none
  | n + 1, σ, x2, x3 => (if 169 ≤ x3 then fX10_round_201 k34 hy_fu σ x2 0 else hy_ga σ 30 169 x3 (fun v2 => hy_pa σ 29 169 x3 v2 (fun σ5 => (fX10_round_174 k34 n) σ5 x2 (x3 + 1))))
noncomputable def fX10_round_140 (k34 : hy_S → Int32 → Option (hy_S × Int32)) (k42 : hy_S → Int32 → Int32 → Option (hy_S × Int32)) (k51 : hy_S → Int32 → Int32 → Int32 → Option (hy_S × Int32)) (k65 : hy_S → Int32 → Int32 → Int32 → Int32 → Int32 → Option (hy_S × Int32)) (σ : hy_S) (x2 : Int32) (x3 : Int32) (x4 : Int32) (x5 : Int32) (x6 : Int32) : Option (hy_S × Int32) := k65 σ x2 x3 x4 x5 (x6 + 1)
noncomputable def fX10_round_65 (k34 : hy_S → Int32 → Option (hy_S × Int32)) (k42 : hy_S → Int32 → Int32 → Option (hy_S × Int32)) (k51 : hy_S → Int32 → Int32 → Int32 → Option (hy_S × Int32)) : Nat → hy_S → Int32 → Int32 → Int32 → Int32 → Int32 → Option (hy_S × Int32)
  | 0, _, _, _, _, _, _ => none
  | n + 1, σ, x2, x3, x4, x5, x6 => (if 13 ≤ x6 then hy_pa σ 30 169 ((13 * x3) + x4) x5 (fun σ2 => k51 σ2 x2 x3 (x4 + 1)) else hy_ga σ 29 169 ((13 * x3) + x6) (fun v5 => (if v5 ≤ (-100000000) then fX10_round_140 k34 k42 k51 (fX10_round_65 k34 k42 k51 n) σ x2 x3 x4 x5 x6 else hy_ga σ 28 169 ((13 * x6) + x4) (fun v9 => (if v9 ≤ (-100000000) then fX10_round_140 k34 k42 k51 (fX10_round_65 k34 k42 k51 n) σ x2 x3 x4 x5 x6 else hy_ga σ 29 169 ((13 * x3) + x6) (fun v13 => hy_ga σ 28 169 ((13 * x6) + x4) (fun v16 => fX10_round_140 k34 k42 k51 (fX10_round_65 k34 k42 k51 n) σ x2 x3 x4 (if x5 < (v13 + v16) then (v13 + v16) else x5) x6)))))))
noncomputable def fX10_round_51 (k34 : hy_S → Int32 → Option (hy_S × Int32)) (k42 : hy_S → Int32 → Int32 → Option (hy_S × Int32)) : Nat → hy_S → Int32 → Int32 → Int32 → Option (hy_S × Int32)
  | 0, _, _, _, _ => none
  | n + 1, σ, x2, x3, x4 => (if 13 ≤ x4 then k42 σ x2 (x3 + 1) else fX10_round_65 k34 k42 (fX10_round_51 k34 k42 n) hy_fu σ x2 x3 x4 (-100000000) 0)
noncomputable def fX10_round_42 (k34 : hy_S → Int32 → Option (hy_S × Int32)) : Nat → hy_S → Int32 → Int32 → Option (hy_S × Int32)
  | 0, _, _, _ => none
  | n + 1, σ, x2, x3 => (if 13 ≤ x3 then fX10_round_174 k34 hy_fu σ x2 0 else fX10_round_51 k34 (fX10_round_42 k34 n) hy_fu σ x2 x3 0)
noncomputable def fX10_round_34 : Nat → hy_S → Int32 → Option (hy_S × Int32)
  | 0, _, _ => none
  | n + 1, σ, x2 => (if 13 < x2 then some (σ, 0) else fX10_round_42 (fX10_round_34 n) hy_fu σ x2 0)
noncomputable def fX10_round_7 : Nat → hy_S → Int32 → Option (hy_S × Int32)
  | 0, _, _ => none
  | n + 1, σ, x2 => (if 169 ≤ x2 then fX10_round_34 hy_fu σ 2 else hy_ga σ 28 169 x2 (fun v2 => hy_pa σ 29 169 x2 v2 (fun σ5 => (fX10_round_7 n) σ5 (x2 + 1))))
noncomputable def fX10_round (σ : hy_S) (x1 : Int32) : Option (hy_S × Int32) := hy_bd (fX10_steps σ x1) (fun σ1 v2 => fX10_round_7 hy_fu σ1 0)
set_option maxHeartbeats 4000000 in
set_option maxRecDepth 100000 in
theorem bX10_round_201 (hA : ∀ q : Nat, s.heap.size ≤ q → A q) (B : hy_B RX10 cX10_round 7 wsX10_round G A p s m args c) (hR : 2 ≤ R.frames ∧ 53 ≤ R.locals) {o : hy_S × Int32}  {k34 : hy_S → Int32 → Option (hy_S × Int32)} (hk34 : ∀ (σ : hy_S) (x2 : Int32) (H : Heap) (locs : List Loc) (ls : Array Slot), k34 σ x2 = some o → hy_w mw G A s σ H locs → lv_has ls 7 [(0, .ref (G.2.2.2.2.1 0)), (2, .int x2)] → W p l e R s m args below meth c H locs 0 0 Q (F0 m 34 ls [])) (hret : ∀ (σ : hy_S) (v : Int32) (pc : Nat) (H : Heap) (locs : List Loc) (ls : Array Slot), o = (σ, v) → hy_w mw G A s σ H locs → decode cX10_round pc = .ok (.ireturn, 1) → W p l e R s m args below meth c H locs 0 0 Q (F0 m pc ls [.int v])) : ∀ (n : Nat) (σ : hy_S) (x2 : Int32) (x3 : Int32) (H : Heap) (locs : List Loc) (ls : Array Slot), fX10_round_201 k34 n σ x2 x3 = some o → hy_w mw G A s σ H locs → lv_has ls 7 [(0, .ref (G.2.2.2.2.1 0)), (2, .int x2), (3, .int x3)] → W p l e R s m args below meth c H locs 0 0 Q (F0 m 201 ls []) := by
  intro n
  induction n with
  | zero => intro σ x2 x3 H locs ls hf; cases hf
  | succ n hk201 =>
    intro σ x2 x3 H locs ls hf w hl
    unfold fX10_round_201 at hf
    refine lv_iload_n B.1.1 B.1.2.1 dX10_round_201 rfl (lv_at hl 2 rfl) ?_
    refine lv_bipush (v := 13) B.1.1 B.1.2.1 dX10_round_202 (by decide) ?_
    refine lv_icmp_ge (tgt := 229) B.1.1 B.1.2.1 dX10_round_204 (by decide) (fun c1 => ?_) (fun c1 => ?_)
    · rw [if_pos c1] at hf
      refine lv_iinc (v := (x2 + 1)) (lv' := [(2, .int (x2 + 1)), (0, .ref (G.2.2.2.2.1 0)), (3, .int x3)]) B.1.1 B.1.2.1 dX10_round_229 hl (k := 1) rfl rfl (by decide) rfl (fun ls hl => ?_)
      refine lv_goto (tgt := 34) B.1.1 B.1.2.1 dX10_round_232 (by decide) ?_
      exact hk34 _ _ _ _ _ hf w (lv_sub hl [1, 0] rfl)
    · rw [if_neg c1] at hf
      refine lv_aload_n B.1.1 B.1.2.1 dX10_round_207 rfl (lv_at hl 0 rfl) ?_
      refine hy_get (k := 41) (v := .ref (G.2.2.2.2.1 30)) B w (mwq_0 G) rfl in_X10_round_X10 (by decide) (by decide +kernel) rfl dX10_round_208 ?_
      refine lv_bipush (v := 13) B.1.1 B.1.2.1 dX10_round_211 (by decide) ?_
      refine lv_iload_n B.1.1 B.1.2.1 dX10_round_213 rfl (lv_at hl 2 rfl) ?_
      refine lv_imul B.1.1 B.1.2.1 dX10_round_214 ?_
      refine lv_iload_n B.1.1 B.1.2.1 dX10_round_215 rfl (lv_at hl 2 rfl) ?_
      refine lv_iadd B.1.1 B.1.2.1 dX10_round_216 ?_
      obtain ⟨h4, v2, e3, hf⟩ := hy_ga_some hf
      refine hy_iald B w (mwq_30 G) h4 e3 dX10_round_217 ?_
      refine lv_if_le (tgt := 223) B.1.1 B.1.2.1 dX10_round_218 (by decide) (fun c5 => ?_) (fun c5 => ?_)
      · rw [if_pos c5] at hf
        refine lv_iinc (v := (x3 + 1)) (lv' := [(3, .int (x3 + 1)), (0, .ref (G.2.2.2.2.1 0)), (2, .int x2)]) B.1.1 B.1.2.1 dX10_round_223 hl (k := 2) rfl rfl (by decide) rfl (fun ls hl => ?_)
        refine lv_goto (tgt := 201) B.1.1 B.1.2.1 dX10_round_226 (by decide) ?_
        exact hk201 _ _ _ _ _ _ hf w (lv_sub hl [1, 2, 0] rfl)
      · rw [if_neg c5] at hf
        refine lv_iload_n B.1.1 B.1.2.1 dX10_round_221 rfl (lv_at hl 1 rfl) ?_
        exact hret _ _ _ _ _ _ (Option.some.inj hf).symm w dX10_round_222
set_option maxHeartbeats 4000000 in
set_option maxRecDepth 100000 in
theorem bX10_round_174 (hA : ∀ q : Nat, s.heap.size ≤ q → A q) (B : hy_B RX10 cX10_round 7 wsX10_round G A p s m args c) (hR : 2 ≤ R.frames ∧ 53 ≤ R.locals) {o : hy_S × Int32}  {k34 : hy_S → Int32 → Option (hy_S × Int32)} (hk34 : ∀ (σ : hy_S) (x2 : Int32) (H : Heap) (locs : List Loc) (ls : Array Slot), k34 σ x2 = some o → hy_w mw G A s σ H locs → lv_has ls 7 [(0, .ref (G.2.2.2.2.1 0)), (2, .int x2)] → W p l e R s m args below meth c H locs 0 0 Q (F0 m 34 ls [])) (hret : ∀ (σ : hy_S) (v : Int32) (pc : Nat) (H : Heap) (locs : List Loc) (ls : Array Slot), o = (σ, v) → hy_w mw G A s σ H locs → decode cX10_round pc = .ok (.ireturn, 1) → W p l e R s m args below meth c H locs 0 0 Q (F0 m pc ls [.int v])) : ∀ (n : Nat) (σ : hy_S) (x2 : Int32) (x3 : Int32) (H : Heap) (locs : List Loc) (ls : Array Slot), fX10_round_174 k34 n σ x2 x3 = some o → hy_w mw G A s σ H locs → lv_has ls 7 [(0, .ref (G.2.2.2.2.1 0)), (2, .int x2), (3, .int x3)] → W p l e R s m args below meth c H locs 0 0 Q (F0 m 174 ls []) := by
  intro n
  induction n with
  | zero => intro σ x2 x3 H locs ls hf; cases hf
  | succ n hk174 =>
    intro σ x2 x3 H locs ls hf w hl
    unfold fX10_round_174 at hf
    refine lv_iload_n B.1.1 B.1.2.1 dX10_round_174 rfl (lv_at hl 2 rfl) ?_
    refine lv_sipush (v := 169) B.1.1 B.1.2.1 dX10_round_175 (by decide) ?_
    refine lv_icmp_ge (tgt := 199) B.1.1 B.1.2.1 dX10_round_178 (by decide) (fun c1 => ?_) (fun c1 => ?_)
    · rw [if_pos c1] at hf
      refine lv_iconst (v := 0) B.1.1 B.1.2.1 dX10_round_199 (by decide) ?_
      refine lv_istore_n (lv' := [(3, .int 0), (0, .ref (G.2.2.2.2.1 0)), (2, .int x2)]) B.1.1 B.1.2.1 dX10_round_200 rfl hl (by decide) rfl (fun ls hl => ?_)
      exact bX10_round_201 hA B hR hk34 hret _ _ _ _ _ _ _ hf w (lv_sub hl [1, 2, 0] rfl)
    · rw [if_neg c1] at hf
      refine lv_aload_n B.1.1 B.1.2.1 dX10_round_181 rfl (lv_at hl 0 rfl) ?_
      refine hy_get (k := 41) (v := .ref (G.2.2.2.2.1 30)) B w (mwq_0 G) rfl in_X10_round_X10 (by decide) (by decide +kernel) rfl dX10_round_182 ?_
      refine lv_iload_n B.1.1 B.1.2.1 dX10_round_185 rfl (lv_at hl 2 rfl) ?_
      refine lv_aload_n B.1.1 B.1.2.1 dX10_round_186 rfl (lv_at hl 0 rfl) ?_
      refine hy_get (k := 42) (v := .ref (G.2.2.2.2.1 31)) B w (mwq_0 G) rfl in_X10_round_X10 (by decide) (by decide +kernel) rfl dX10_round_187 ?_
      refine lv_iload_n B.1.1 B.1.2.1 dX10_round_190 rfl (lv_at hl 2 rfl) ?_
      obtain ⟨h4, v2, e3, hf⟩ := hy_ga_some hf
      refine hy_iald B w (mwq_31 G) h4 e3 dX10_round_191 ?_
      obtain ⟨h7, σ5, e6, hf⟩ := hy_pa_some hf
      refine hy_iast B w (mwq_30 G) (mws_30 G) h7 e6 dX10_round_192 (fun H locs w => ?_)
      refine lv_iinc (v := (x3 + 1)) (lv' := [(3, .int (x3 + 1)), (0, .ref (G.2.2.2.2.1 0)), (2, .int x2)]) B.1.1 B.1.2.1 dX10_round_193 hl (k := 2) rfl rfl (by decide) rfl (fun ls hl => ?_)
      refine lv_goto (tgt := 174) B.1.1 B.1.2.1 dX10_round_196 (by decide) ?_
      exact hk174 _ _ _ _ _ _ hf w (lv_sub hl [1, 2, 0] rfl)
set_option maxHeartbeats 4000000 in
set_option maxRecDepth 100000 in
theorem bX10_round_140 (hA : ∀ q : Nat, s.heap.size ≤ q → A q) (B : hy_B RX10 cX10_round 7 wsX10_round G A p s m args c) (hR : 2 ≤ R.frames ∧ 53 ≤ R.locals) {o : hy_S × Int32}  {k34 : hy_S → Int32 → Option (hy_S × Int32)} {k42 : hy_S → Int32 → Int32 → Option (hy_S × Int32)} {k51 : hy_S → Int32 → Int32 → Int32 → Option (hy_S × Int32)} {k65 : hy_S → Int32 → Int32 → Int32 → Int32 → Int32 → Option (hy_S × Int32)} (hk34 : ∀ (σ : hy_S) (x2 : Int32) (H : Heap) (locs : List Loc) (ls : Array Slot), k34 σ x2 = some o → hy_w mw G A s σ H locs → lv_has ls 7 [(0, .ref (G.2.2.2.2.1 0)), (2, .int x2)] → W p l e R s m args below meth c H locs 0 0 Q (F0 m 34 ls [])) (hk42 : ∀ (σ : hy_S) (x2 : Int32) (x3 : Int32) (H : Heap) (locs : List Loc) (ls : Array Slot), k42 σ x2 x3 = some o → hy_w mw G A s σ H locs → lv_has ls 7 [(0, .ref (G.2.2.2.2.1 0)), (2, .int x2), (3, .int x3)] → W p l e R s m args below meth c H locs 0 0 Q (F0 m 42 ls [])) (hk51 : ∀ (σ : hy_S) (x2 : Int32) (x3 : Int32) (x4 : Int32) (H : Heap) (locs : List Loc) (ls : Array Slot), k51 σ x2 x3 x4 = some o → hy_w mw G A s σ H locs → lv_has ls 7 [(0, .ref (G.2.2.2.2.1 0)), (2, .int x2), (3, .int x3), (4, .int x4)] → W p l e R s m args below meth c H locs 0 0 Q (F0 m 51 ls [])) (hk65 : ∀ (σ : hy_S) (x2 : Int32) (x3 : Int32) (x4 : Int32) (x5 : Int32) (x6 : Int32) (H : Heap) (locs : List Loc) (ls : Array Slot), k65 σ x2 x3 x4 x5 x6 = some o → hy_w mw G A s σ H locs → lv_has ls 7 [(0, .ref (G.2.2.2.2.1 0)), (2, .int x2), (3, .int x3), (4, .int x4), (5, .int x5), (6, .int x6)] → W p l e R s m args below meth c H locs 0 0 Q (F0 m 65 ls [])) (hret : ∀ (σ : hy_S) (v : Int32) (pc : Nat) (H : Heap) (locs : List Loc) (ls : Array Slot), o = (σ, v) → hy_w mw G A s σ H locs → decode cX10_round pc = .ok (.ireturn, 1) → W p l e R s m args below meth c H locs 0 0 Q (F0 m pc ls [.int v])) (σ : hy_S) (x2 : Int32) (x3 : Int32) (x4 : Int32) (x5 : Int32) (x6 : Int32) (H : Heap) (locs : List Loc) (ls : Array Slot) (hf : fX10_round_140 k34 k42 k51 k65 σ x2 x3 x4 x5 x6 = some o) (w : hy_w mw G A s σ H locs) (hl : lv_has ls 7 [(0, .ref (G.2.2.2.2.1 0)), (2, .int x2), (3, .int x3), (4, .int x4), (5, .int x5), (6, .int x6)]) : W p l e R s m args below meth c H locs 0 0 Q (F0 m 140 ls []) := by
  unfold fX10_round_140 at hf
  refine lv_iinc (v := (x6 + 1)) (lv' := [(6, .int (x6 + 1)), (0, .ref (G.2.2.2.2.1 0)), (2, .int x2), (3, .int x3), (4, .int x4), (5, .int x5)]) B.1.1 B.1.2.1 dX10_round_140 hl (k := 5) rfl rfl (by decide) rfl (fun ls hl => ?_)
  refine lv_goto (tgt := 65) B.1.1 B.1.2.1 dX10_round_143 (by decide) ?_
  exact hk65 _ _ _ _ _ _ _ _ _ hf w (lv_sub hl [1, 2, 3, 4, 5, 0] rfl)
set_option maxHeartbeats 4000000 in
set_option maxRecDepth 100000 in
theorem bX10_round_65 (hA : ∀ q : Nat, s.heap.size ≤ q → A q) (B : hy_B RX10 cX10_round 7 wsX10_round G A p s m args c) (hR : 2 ≤ R.frames ∧ 53 ≤ R.locals) {o : hy_S × Int32}  {k34 : hy_S → Int32 → Option (hy_S × Int32)} {k42 : hy_S → Int32 → Int32 → Option (hy_S × Int32)} {k51 : hy_S → Int32 → Int32 → Int32 → Option (hy_S × Int32)} (hk34 : ∀ (σ : hy_S) (x2 : Int32) (H : Heap) (locs : List Loc) (ls : Array Slot), k34 σ x2 = some o → hy_w mw G A s σ H locs → lv_has ls 7 [(0, .ref (G.2.2.2.2.1 0)), (2, .int x2)] → W p l e R s m args below meth c H locs 0 0 Q (F0 m 34 ls [])) (hk42 : ∀ (σ : hy_S) (x2 : Int32) (x3 : Int32) (H : Heap) (locs : List Loc) (ls : Array Slot), k42 σ x2 x3 = some o → hy_w mw G A s σ H locs → lv_has ls 7 [(0, .ref (G.2.2.2.2.1 0)), (2, .int x2), (3, .int x3)] → W p l e R s m args below meth c H locs 0 0 Q (F0 m 42 ls [])) (hk51 : ∀ (σ : hy_S) (x2 : Int32) (x3 : Int32) (x4 : Int32) (H : Heap) (locs : List Loc) (ls : Array Slot), k51 σ x2 x3 x4 = some o → hy_w mw G A s σ H locs → lv_has ls 7 [(0, .ref (G.2.2.2.2.1 0)), (2, .int x2), (3, .int x3), (4, .int x4)] → W p l e R s m args below meth c H locs 0 0 Q (F0 m 51 ls [])) (hret : ∀ (σ : hy_S) (v : Int32) (pc : Nat) (H : Heap) (locs : List Loc) (ls : Array Slot), o = (σ, v) → hy_w mw G A s σ H locs → decode cX10_round pc = .ok (.ireturn, 1) → W p l e R s m args below meth c H locs 0 0 Q (F0 m pc ls [.int v])) : ∀ (n : Nat) (σ : hy_S) (x2 : Int32) (x3 : Int32) (x4 : Int32) (x5 : Int32) (x6 : Int32) (H : Heap) (locs : List Loc) (ls : Array Slot), fX10_round_65 k34 k42 k51 n σ x2 x3 x4 x5 x6 = some o → hy_w mw G A s σ H locs → lv_has ls 7 [(0, .ref (G.2.2.2.2.1 0)), (2, .int x2), (3, .int x3), (4, .int x4), (5, .int x5), (6, .int x6)] → W p l e R s m args below meth c H locs 0 0 Q (F0 m 65 ls []) := by
  intro n
  induction n with
  | zero => intro σ x2 x3 x4 x5 x6 H locs ls hf; cases hf
  | succ n hk65 =>
    intro σ x2 x3 x4 x5 x6 H locs ls hf w hl
    unfold fX10_round_65 at hf
    refine lv_iload B.1.1 B.1.2.1 dX10_round_65 (lv_at hl 5 rfl) ?_
    refine lv_bipush (v := 13) B.1.1 B.1.2.1 dX10_round_67 (by decide) ?_
    refine lv_icmp_ge (tgt := 146) B.1.1 B.1.2.1 dX10_round_69 (by decide) (fun c1 => ?_) (fun c1 => ?_)
    · rw [if_pos c1] at hf
      refine lv_aload_n B.1.1 B.1.2.1 dX10_round_146 rfl (lv_at hl 0 rfl) ?_
      refine hy_get (k := 42) (v := .ref (G.2.2.2.2.1 31)) B w (mwq_0 G) rfl in_X10_round_X10 (by decide) (by decide +kernel) rfl dX10_round_147 ?_
      refine lv_bipush (v := 13) B.1.1 B.1.2.1 dX10_round_150 (by decide) ?_
      refine lv_iload_n B.1.1 B.1.2.1 dX10_round_152 rfl (lv_at hl 2 rfl) ?_
      refine lv_imul B.1.1 B.1.2.1 dX10_round_153 ?_
      refine lv_iload B.1.1 B.1.2.1 dX10_round_154 (lv_at hl 3 rfl) ?_
      refine lv_iadd B.1.1 B.1.2.1 dX10_round_156 ?_
      refine lv_iload B.1.1 B.1.2.1 dX10_round_157 (lv_at hl 4 rfl) ?_
      obtain ⟨h4, σ2, e3, hf⟩ := hy_pa_some hf
      refine hy_iast B w (mwq_31 G) (mws_31 G) h4 e3 dX10_round_159 (fun H locs w => ?_)
      refine lv_iinc (v := (x4 + 1)) (lv' := [(4, .int (x4 + 1)), (0, .ref (G.2.2.2.2.1 0)), (2, .int x2), (3, .int x3), (5, .int x5), (6, .int x6)]) B.1.1 B.1.2.1 dX10_round_160 hl (k := 3) rfl rfl (by decide) rfl (fun ls hl => ?_)
      refine lv_goto (tgt := 51) B.1.1 B.1.2.1 dX10_round_163 (by decide) ?_
      exact hk51 _ _ _ _ _ _ _ hf w (lv_sub hl [1, 2, 3, 0] rfl)
    · rw [if_neg c1] at hf
      refine lv_aload_n B.1.1 B.1.2.1 dX10_round_72 rfl (lv_at hl 0 rfl) ?_
      refine hy_get (k := 41) (v := .ref (G.2.2.2.2.1 30)) B w (mwq_0 G) rfl in_X10_round_X10 (by decide) (by decide +kernel) rfl dX10_round_73 ?_
      refine lv_bipush (v := 13) B.1.1 B.1.2.1 dX10_round_76 (by decide) ?_
      refine lv_iload_n B.1.1 B.1.2.1 dX10_round_78 rfl (lv_at hl 2 rfl) ?_
      refine lv_imul B.1.1 B.1.2.1 dX10_round_79 ?_
      refine lv_iload B.1.1 B.1.2.1 dX10_round_80 (lv_at hl 5 rfl) ?_
      refine lv_iadd B.1.1 B.1.2.1 dX10_round_82 ?_
      obtain ⟨h7, v5, e6, hf⟩ := hy_ga_some hf
      refine hy_iald B w (mwq_30 G) h7 e6 dX10_round_83 ?_
      refine lv_ldc (v := (-100000000)) B.1.1 B.1.2.1 B.1.2.2.2.1 (B.1.2.2.2.2 (.constant RX10 233 (-100000000)) (by decide +kernel)) dX10_round_84 ?_
      refine lv_icmp_le (tgt := 140) B.1.1 B.1.2.1 dX10_round_86 (by decide) (fun c8 => ?_) (fun c8 => ?_)
      · rw [if_pos c8] at hf
        exact bX10_round_140 hA B hR hk34 hk42 hk51 hk65 hret _ _ _ _ _ _ _ _ _ hf w (lv_sub hl [0, 1, 2, 3, 4, 5] rfl)
      · rw [if_neg c8] at hf
        refine lv_aload_n B.1.1 B.1.2.1 dX10_round_89 rfl (lv_at hl 0 rfl) ?_
        refine hy_get (k := 40) (v := .ref (G.2.2.2.2.1 29)) B w (mwq_0 G) rfl in_X10_round_X10 (by decide) (by decide +kernel) rfl dX10_round_90 ?_
        refine lv_bipush (v := 13) B.1.1 B.1.2.1 dX10_round_93 (by decide) ?_
        refine lv_iload B.1.1 B.1.2.1 dX10_round_95 (lv_at hl 5 rfl) ?_
        refine lv_imul B.1.1 B.1.2.1 dX10_round_97 ?_
        refine lv_iload B.1.1 B.1.2.1 dX10_round_98 (lv_at hl 3 rfl) ?_
        refine lv_iadd B.1.1 B.1.2.1 dX10_round_100 ?_
        obtain ⟨h11, v9, e10, hf⟩ := hy_ga_some hf
        refine hy_iald B w (mwq_29 G) h11 e10 dX10_round_101 ?_
        refine lv_ldc (v := (-100000000)) B.1.1 B.1.2.1 B.1.2.2.2.1 (B.1.2.2.2.2 (.constant RX10 233 (-100000000)) (by decide +kernel)) dX10_round_102 ?_
        refine lv_icmp_le (tgt := 140) B.1.1 B.1.2.1 dX10_round_104 (by decide) (fun c12 => ?_) (fun c12 => ?_)
        · rw [if_pos c12] at hf
          exact bX10_round_140 hA B hR hk34 hk42 hk51 hk65 hret _ _ _ _ _ _ _ _ _ hf w (lv_sub hl [0, 1, 2, 3, 4, 5] rfl)
        · rw [if_neg c12] at hf
          refine lv_iload B.1.1 B.1.2.1 dX10_round_107 (lv_at hl 4 rfl) ?_
          refine lv_aload_n B.1.1 B.1.2.1 dX10_round_109 rfl (lv_at hl 0 rfl) ?_
          refine hy_get (k := 41) (v := .ref (G.2.2.2.2.1 30)) B w (mwq_0 G) rfl in_X10_round_X10 (by decide) (by decide +kernel) rfl dX10_round_110 ?_
          refine lv_bipush (v := 13) B.1.1 B.1.2.1 dX10_round_113 (by decide) ?_
          refine lv_iload_n B.1.1 B.1.2.1 dX10_round_115 rfl (lv_at hl 2 rfl) ?_
          refine lv_imul B.1.1 B.1.2.1 dX10_round_116 ?_
          refine lv_iload B.1.1 B.1.2.1 dX10_round_117 (lv_at hl 5 rfl) ?_
          refine lv_iadd B.1.1 B.1.2.1 dX10_round_119 ?_
          obtain ⟨h15, v13, e14, hf⟩ := hy_ga_some hf
          refine hy_iald B w (mwq_30 G) h15 e14 dX10_round_120 ?_
          refine lv_aload_n B.1.1 B.1.2.1 dX10_round_121 rfl (lv_at hl 0 rfl) ?_
          refine hy_get (k := 40) (v := .ref (G.2.2.2.2.1 29)) B w (mwq_0 G) rfl in_X10_round_X10 (by decide) (by decide +kernel) rfl dX10_round_122 ?_
          refine lv_bipush (v := 13) B.1.1 B.1.2.1 dX10_round_125 (by decide) ?_
          refine lv_iload B.1.1 B.1.2.1 dX10_round_127 (lv_at hl 5 rfl) ?_
          refine lv_imul B.1.1 B.1.2.1 dX10_round_129 ?_
          refine lv_iload B.1.1 B.1.2.1 dX10_round_130 (lv_at hl 3 rfl) ?_
          refine lv_iadd B.1.1 B.1.2.1 dX10_round_132 ?_
          obtain ⟨h18, v16, e17, hf⟩ := hy_ga_some hf
          refine hy_iald B w (mwq_29 G) h18 e17 dX10_round_133 ?_
          refine lv_iadd B.1.1 B.1.2.1 dX10_round_134 ?_
          refine va_mmax B.1.1 B.1.2.1 (B.1.2.2.1.trans hl.1.symm) B.1.2.2.2.1 (B.1.2.2.2.2 (.methodLink RX10 153 Lib.Math.max.name) (by decide +kernel)) (B.1.2.2.2.2 (.static Lib.Math.max.name) (by decide +kernel)) (B.1.2.2.2.2 (.initialized "java/lang/Math") (by decide +kernel)) (B.1.2.2.2.2 (.code Lib.Math.max.name Lib.Math.max.code 2 (some .int)) (by decide +kernel)) (by have := hR; omega) (by have := hR; show _ ≤ _; simp [Value.category]; omega) (Nat.zero_le _) (Nat.zero_le _) dX10_round_135 ?_
          refine lv_istore (lv' := [(5, .int (if x5 < (v13 + v16) then (v13 + v16) else x5)), (0, .ref (G.2.2.2.2.1 0)), (2, .int x2), (3, .int x3), (4, .int x4), (6, .int x6)]) B.1.1 B.1.2.1 dX10_round_138 hl (by decide) rfl (fun ls hl => ?_)
          exact bX10_round_140 hA B hR hk34 hk42 hk51 hk65 hret _ _ _ _ _ _ _ _ _ hf w (lv_sub hl [1, 2, 3, 4, 0, 5] rfl)
set_option maxHeartbeats 4000000 in
set_option maxRecDepth 100000 in
theorem bX10_round_51 (hA : ∀ q : Nat, s.heap.size ≤ q → A q) (B : hy_B RX10 cX10_round 7 wsX10_round G A p s m args c) (hR : 2 ≤ R.frames ∧ 53 ≤ R.locals) {o : hy_S × Int32}  {k34 : hy_S → Int32 → Option (hy_S × Int32)} {k42 : hy_S → Int32 → Int32 → Option (hy_S × Int32)} (hk34 : ∀ (σ : hy_S) (x2 : Int32) (H : Heap) (locs : List Loc) (ls : Array Slot), k34 σ x2 = some o → hy_w mw G A s σ H locs → lv_has ls 7 [(0, .ref (G.2.2.2.2.1 0)), (2, .int x2)] → W p l e R s m args below meth c H locs 0 0 Q (F0 m 34 ls [])) (hk42 : ∀ (σ : hy_S) (x2 : Int32) (x3 : Int32) (H : Heap) (locs : List Loc) (ls : Array Slot), k42 σ x2 x3 = some o → hy_w mw G A s σ H locs → lv_has ls 7 [(0, .ref (G.2.2.2.2.1 0)), (2, .int x2), (3, .int x3)] → W p l e R s m args below meth c H locs 0 0 Q (F0 m 42 ls [])) (hret : ∀ (σ : hy_S) (v : Int32) (pc : Nat) (H : Heap) (locs : List Loc) (ls : Array Slot), o = (σ, v) → hy_w mw G A s σ H locs → decode cX10_round pc = .ok (.ireturn, 1) → W p l e R s m args below meth c H locs 0 0 Q (F0 m pc ls [.int v])) : ∀ (n : Nat) (σ : hy_S) (x2 : Int32) (x3 : Int32) (x4 : Int32) (H : Heap) (locs : List Loc) (ls : Array Slot), fX10_round_51 k34 k42 n σ x2 x3 x4 = some o → hy_w mw G A s σ H locs → lv_has ls 7 [(0, .ref (G.2.2.2.2.1 0)), (2, .int x2), (3, .int x3), (4, .int x4)] → W p l e R s m args below meth c H locs 0 0 Q (F0 m 51 ls []) := by
  intro n
  induction n with
  | zero => intro σ x2 x3 x4 H locs ls hf; cases hf
  | succ n hk51 =>
    intro σ x2 x3 x4 H locs ls hf w hl
    unfold fX10_round_51 at hf
    refine lv_iload B.1.1 B.1.2.1 dX10_round_51 (lv_at hl 3 rfl) ?_
    refine lv_bipush (v := 13) B.1.1 B.1.2.1 dX10_round_53 (by decide) ?_
    refine lv_icmp_ge (tgt := 166) B.1.1 B.1.2.1 dX10_round_55 (by decide) (fun c1 => ?_) (fun c1 => ?_)
    · rw [if_pos c1] at hf
      refine lv_iinc (v := (x3 + 1)) (lv' := [(3, .int (x3 + 1)), (0, .ref (G.2.2.2.2.1 0)), (2, .int x2), (4, .int x4)]) B.1.1 B.1.2.1 dX10_round_166 hl (k := 2) rfl rfl (by decide) rfl (fun ls hl => ?_)
      refine lv_goto (tgt := 42) B.1.1 B.1.2.1 dX10_round_169 (by decide) ?_
      exact hk42 _ _ _ _ _ _ hf w (lv_sub hl [1, 2, 0] rfl)
    · rw [if_neg c1] at hf
      refine lv_ldc (v := (-100000000)) B.1.1 B.1.2.1 B.1.2.2.2.1 (B.1.2.2.2.2 (.constant RX10 233 (-100000000)) (by decide +kernel)) dX10_round_58 ?_
      refine lv_istore (lv' := [(5, .int (-100000000)), (0, .ref (G.2.2.2.2.1 0)), (2, .int x2), (3, .int x3), (4, .int x4)]) B.1.1 B.1.2.1 dX10_round_60 hl (by decide) rfl (fun ls hl => ?_)
      refine lv_iconst (v := 0) B.1.1 B.1.2.1 dX10_round_62 (by decide) ?_
      refine lv_istore (lv' := [(6, .int 0), (5, .int (-100000000)), (0, .ref (G.2.2.2.2.1 0)), (2, .int x2), (3, .int x3), (4, .int x4)]) B.1.1 B.1.2.1 dX10_round_63 hl (by decide) rfl (fun ls hl => ?_)
      exact bX10_round_65 hA B hR hk34 hk42 hk51 hret _ _ _ _ _ _ _ _ _ _ hf w (lv_sub hl [2, 3, 4, 5, 1, 0] rfl)
set_option maxHeartbeats 4000000 in
set_option maxRecDepth 100000 in
theorem bX10_round_42 (hA : ∀ q : Nat, s.heap.size ≤ q → A q) (B : hy_B RX10 cX10_round 7 wsX10_round G A p s m args c) (hR : 2 ≤ R.frames ∧ 53 ≤ R.locals) {o : hy_S × Int32}  {k34 : hy_S → Int32 → Option (hy_S × Int32)} (hk34 : ∀ (σ : hy_S) (x2 : Int32) (H : Heap) (locs : List Loc) (ls : Array Slot), k34 σ x2 = some o → hy_w mw G A s σ H locs → lv_has ls 7 [(0, .ref (G.2.2.2.2.1 0)), (2, .int x2)] → W p l e R s m args below meth c H locs 0 0 Q (F0 m 34 ls [])) (hret : ∀ (σ : hy_S) (v : Int32) (pc : Nat) (H : Heap) (locs : List Loc) (ls : Array Slot), o = (σ, v) → hy_w mw G A s σ H locs → decode cX10_round pc = .ok (.ireturn, 1) → W p l e R s m args below meth c H locs 0 0 Q (F0 m pc ls [.int v])) : ∀ (n : Nat) (σ : hy_S) (x2 : Int32) (x3 : Int32) (H : Heap) (locs : List Loc) (ls : Array Slot), fX10_round_42 k34 n σ x2 x3 = some o → hy_w mw G A s σ H locs → lv_has ls 7 [(0, .ref (G.2.2.2.2.1 0)), (2, .int x2), (3, .int x3)] → W p l e R s m args below meth c H locs 0 0 Q (F0 m 42 ls []) := by
  intro n
  induction n with
  | zero => intro σ x2 x3 H locs ls hf; cases hf
  | succ n hk42 =>
    intro σ x2 x3 H locs ls hf w hl
    unfold fX10_round_42 at hf
    refine lv_iload_n B.1.1 B.1.2.1 dX10_round_42 rfl (lv_at hl 2 rfl) ?_
    refine lv_bipush (v := 13) B.1.1 B.1.2.1 dX10_round_43 (by decide) ?_
    refine lv_icmp_ge (tgt := 172) B.1.1 B.1.2.1 dX10_round_45 (by decide) (fun c1 => ?_) (fun c1 => ?_)
    · rw [if_pos c1] at hf
      refine lv_iconst (v := 0) B.1.1 B.1.2.1 dX10_round_172 (by decide) ?_
      refine lv_istore_n (lv' := [(3, .int 0), (0, .ref (G.2.2.2.2.1 0)), (2, .int x2)]) B.1.1 B.1.2.1 dX10_round_173 rfl hl (by decide) rfl (fun ls hl => ?_)
      exact bX10_round_174 hA B hR hk34 hret _ _ _ _ _ _ _ hf w (lv_sub hl [1, 2, 0] rfl)
    · rw [if_neg c1] at hf
      refine lv_iconst (v := 0) B.1.1 B.1.2.1 dX10_round_48 (by decide) ?_
      refine lv_istore (lv' := [(4, .int 0), (0, .ref (G.2.2.2.2.1 0)), (2, .int x2), (3, .int x3)]) B.1.1 B.1.2.1 dX10_round_49 hl (by decide) rfl (fun ls hl => ?_)
      exact bX10_round_51 hA B hR hk34 hk42 hret _ _ _ _ _ _ _ _ hf w (lv_sub hl [1, 2, 3, 0] rfl)
set_option maxHeartbeats 4000000 in
set_option maxRecDepth 100000 in
theorem bX10_round_34 (hA : ∀ q : Nat, s.heap.size ≤ q → A q) (B : hy_B RX10 cX10_round 7 wsX10_round G A p s m args c) (hR : 2 ≤ R.frames ∧ 53 ≤ R.locals) {o : hy_S × Int32}  (hret : ∀ (σ : hy_S) (v : Int32) (pc : Nat) (H : Heap) (locs : List Loc) (ls : Array Slot), o = (σ, v) → hy_w mw G A s σ H locs → decode cX10_round pc = .ok (.ireturn, 1) → W p l e R s m args below meth c H locs 0 0 Q (F0 m pc ls [.int v])) : ∀ (n : Nat) (σ : hy_S) (x2 : Int32) (H : Heap) (locs : List Loc) (ls : Array Slot), fX10_round_34 n σ x2 = some o → hy_w mw G A s σ H locs → lv_has ls 7 [(0, .ref (G.2.2.2.2.1 0)), (2, .int x2)] → W p l e R s m args below meth c H locs 0 0 Q (F0 m 34 ls []) := by
  intro n
  induction n with
  | zero => intro σ x2 H locs ls hf; cases hf
  | succ n hk34 =>
    intro σ x2 H locs ls hf w hl
    unfold fX10_round_34 at hf
    refine lv_iload_n B.1.1 B.1.2.1 dX10_round_34 rfl (lv_at hl 1 rfl) ?_
    refine lv_bipush (v := 13) B.1.1 B.1.2.1 dX10_round_35 (by decide) ?_
    refine lv_icmp_gt (tgt := 235) B.1.1 B.1.2.1 dX10_round_37 (by decide) (fun c1 => ?_) (fun c1 => ?_)
    · rw [if_pos c1] at hf
      refine lv_iconst (v := 0) B.1.1 B.1.2.1 dX10_round_235 (by decide) ?_
      exact hret _ _ _ _ _ _ (Option.some.inj hf).symm w dX10_round_236
    · rw [if_neg c1] at hf
      refine lv_iconst (v := 0) B.1.1 B.1.2.1 dX10_round_40 (by decide) ?_
      refine lv_istore_n (lv' := [(3, .int 0), (0, .ref (G.2.2.2.2.1 0)), (2, .int x2)]) B.1.1 B.1.2.1 dX10_round_41 rfl hl (by decide) rfl (fun ls hl => ?_)
      exact bX10_round_42 hA B hR hk34 hret _ _ _ _ _ _ _ hf w (lv_sub hl [1, 2, 0] rfl)
set_option maxHeartbeats 4000000 in
set_option maxRecDepth 100000 in
theorem bX10_round_7 (hA : ∀ q : Nat, s.heap.size ≤ q → A q) (B : hy_B RX10 cX10_round 7 wsX10_round G A p s m args c) (hR : 2 ≤ R.frames ∧ 53 ≤ R.locals) {o : hy_S × Int32}  (hret : ∀ (σ : hy_S) (v : Int32) (pc : Nat) (H : Heap) (locs : List Loc) (ls : Array Slot), o = (σ, v) → hy_w mw G A s σ H locs → decode cX10_round pc = .ok (.ireturn, 1) → W p l e R s m args below meth c H locs 0 0 Q (F0 m pc ls [.int v])) : ∀ (n : Nat) (σ : hy_S) (x2 : Int32) (H : Heap) (locs : List Loc) (ls : Array Slot), fX10_round_7 n σ x2 = some o → hy_w mw G A s σ H locs → lv_has ls 7 [(0, .ref (G.2.2.2.2.1 0)), (2, .int x2)] → W p l e R s m args below meth c H locs 0 0 Q (F0 m 7 ls []) := by
  intro n
  induction n with
  | zero => intro σ x2 H locs ls hf; cases hf
  | succ n hk7 =>
    intro σ x2 H locs ls hf w hl
    unfold fX10_round_7 at hf
    refine lv_iload_n B.1.1 B.1.2.1 dX10_round_7 rfl (lv_at hl 1 rfl) ?_
    refine lv_sipush (v := 169) B.1.1 B.1.2.1 dX10_round_8 (by decide) ?_
    refine lv_icmp_ge (tgt := 32) B.1.1 B.1.2.1 dX10_round_11 (by decide) (fun c1 => ?_) (fun c1 => ?_)
    · rw [if_pos c1] at hf
      refine lv_iconst (v := 2) B.1.1 B.1.2.1 dX10_round_32 (by decide) ?_
      refine lv_istore_n (lv' := [(2, .int 2), (0, .ref (G.2.2.2.2.1 0))]) B.1.1 B.1.2.1 dX10_round_33 rfl hl (by decide) rfl (fun ls hl => ?_)
      exact bX10_round_34 hA B hR  hret _ _ _ _ _ _ hf w (lv_sub hl [1, 0] rfl)
    · rw [if_neg c1] at hf
      refine lv_aload_n B.1.1 B.1.2.1 dX10_round_14 rfl (lv_at hl 0 rfl) ?_
      refine hy_get (k := 41) (v := .ref (G.2.2.2.2.1 30)) B w (mwq_0 G) rfl in_X10_round_X10 (by decide) (by decide +kernel) rfl dX10_round_15 ?_
      refine lv_iload_n B.1.1 B.1.2.1 dX10_round_18 rfl (lv_at hl 1 rfl) ?_
      refine lv_aload_n B.1.1 B.1.2.1 dX10_round_19 rfl (lv_at hl 0 rfl) ?_
      refine hy_get (k := 40) (v := .ref (G.2.2.2.2.1 29)) B w (mwq_0 G) rfl in_X10_round_X10 (by decide) (by decide +kernel) rfl dX10_round_20 ?_
      refine lv_iload_n B.1.1 B.1.2.1 dX10_round_23 rfl (lv_at hl 1 rfl) ?_
      obtain ⟨h4, v2, e3, hf⟩ := hy_ga_some hf
      refine hy_iald B w (mwq_29 G) h4 e3 dX10_round_24 ?_
      obtain ⟨h7, σ5, e6, hf⟩ := hy_pa_some hf
      refine hy_iast B w (mwq_30 G) (mws_30 G) h7 e6 dX10_round_25 (fun H locs w => ?_)
      refine lv_iinc (v := (x2 + 1)) (lv' := [(2, .int (x2 + 1)), (0, .ref (G.2.2.2.2.1 0))]) B.1.1 B.1.2.1 dX10_round_26 hl (k := 1) rfl rfl (by decide) rfl (fun ls hl => ?_)
      refine lv_goto (tgt := 7) B.1.1 B.1.2.1 dX10_round_29 (by decide) ?_
      exact hk7 _ _ _ _ _ hf w (lv_sub hl [1, 0] rfl)
set_option maxHeartbeats 4000000 in
set_option maxRecDepth 100000 in
theorem bX10_round_0 (hA : ∀ q : Nat, s.heap.size ≤ q → A q) (B : hy_B RX10 cX10_round 7 wsX10_round G A p s m args c) (hR : 2 ≤ R.frames ∧ 53 ≤ R.locals) {o : hy_S × Int32}  (hret : ∀ (σ : hy_S) (v : Int32) (pc : Nat) (H : Heap) (locs : List Loc) (ls : Array Slot), o = (σ, v) → hy_w mw G A s σ H locs → decode cX10_round pc = .ok (.ireturn, 1) → W p l e R s m args below meth c H locs 0 0 Q (F0 m pc ls [.int v])) (σ : hy_S) (x1 : Int32) (H : Heap) (locs : List Loc) (ls : Array Slot) (hf : fX10_round σ x1 = some o) (w : hy_w mw G A s σ H locs) (hl : lv_has ls 7 [(0, .ref (G.2.2.2.2.1 0)), (1, .int x1)]) : W p l e R s m args below meth c H locs 0 0 Q (F0 m 0 ls []) := by
  unfold fX10_round at hf
  refine lv_aload_n B.1.1 B.1.2.1 dX10_round_0 rfl (lv_at hl 0 rfl) ?_
  refine lv_iload_n B.1.1 B.1.2.1 dX10_round_1 rfl (lv_at hl 1 rfl) ?_
  obtain ⟨σ1, v2, h3, hf⟩ := hy_bd_some hf
  refine hy_cvv (As := [.int x1]) (rest := []) (o := (σ1, v2)) mw_fix hA B w (fun sz => mX10_steps l G sz σ x1 _ h3) (cwV 1 B.1.2.2.2.2 gX10_round_X10_steps rfl rfl rfl (by decide +kernel) ⟨by have := hR.1; show 1 + 1 ≤ _; omega, by have := hR.2; show 8 + (4 + 11) + 30 ≤ _; omega⟩) rfl (mwq_0 G σ) rfl hl.1 rfl (Nat.le_of_ble_eq_true rfl) dX10_round_2 ⟨Nat.zero_le _, Nat.zero_le _⟩ (fun H locs w => ?_)
  refine lv_iconst (v := 0) B.1.1 B.1.2.1 dX10_round_5 (by decide) ?_
  refine lv_istore_n (lv' := [(2, .int 0), (0, .ref (G.2.2.2.2.1 0)), (1, .int x1)]) B.1.1 B.1.2.1 dX10_round_6 rfl hl (by decide) rfl (fun ls hl => ?_)
  exact bX10_round_7 hA B hR  hret _ _ _ _ _ _ hf w (lv_sub hl [1, 0] rfl)
set_option maxHeartbeats 4000000 in
set_option maxRecDepth 100000 in
theorem mX10_round (l : Launch) (G : hy_G) (sz : Nat) (σ : hy_S) (x1 : Int32) (o : hy_S × Int32) (hf : fX10_round σ x1 = some o) : hy_M l yX10_round wsX10_round ({ frames := 2, cells := 0, slots := 0, locals := 53 }) mw G σ sz [.ref (G.2.2.2.2.1 0), .int x1] o := by
  refine Met.ofW (cc := cX10_round) (maxL := 7) (ret := (some .int)) (by decide +kernel) rfl ?_
  intro p e s m args below meth c s₁ B hml hv
  obtain ⟨rfl, hsz, hP, hK, hD0, hN⟩ := hv
  have hx := B.exec
  have hb := B.bytes
  have hr := B.returns
  have hts := atoms_spec (ws := wsX10_round) B.pre
  have hown : s.vm.findClass RX10 = some m.cls := findClass_of_methodNamed B.named
  have hlocks := B.notSynchronized
  subst hsz
  have hD := hD0.self (sz := s.heap.size)
  have hA : ∀ q : Nat, s.heap.size ≤ q → va_A (mw G σ) s.heap.size q := fun q h => Or.inr h
  have hS : va_S (va_A (mw G σ) s.heap.size) s.heap s.heap [] := va_S.rf
  have hl := lv_entry ([.ref (G.2.2.2.2.1 0), .int x1]) (n := 7) (Nat.le_of_ble_eq_true rfl)
  rw [lg_entry_eq]
  generalize (lg_sl ([.ref (G.2.2.2.2.1 0), .int x1]) ++ List.replicate (7 - (lg_sl ([.ref (G.2.2.2.2.1 0), .int x1])).length) Slot.unset).toArray = ls at hl ⊢
  have hl : lv_has ls 7 [(0, .ref (G.2.2.2.2.1 0)), (1, .int x1)] := hl
  refine bX10_round_0 (A := va_A (mw G σ) s.heap.size) hA ⟨⟨hx, hb, hml, hown, hts⟩, hK, hN⟩ ⟨Nat.le_of_ble_eq_true rfl, Nat.le_of_ble_eq_true rfl⟩ (o := o) (fun τ v pc H locs ls ho w d => ?_) σ x1 _ _ _ hf ⟨hP, hD, hS⟩ hl
  exact W.iret hx hb hr (fun t ht hW => ⟨⟨v, τ, rfl, ⟨by rw [ho], by rw [ho]⟩, by have h9 := w.1; rw [← ht] at h9; exact h9⟩, w.2.2.F ht⟩) w.2.2.2.2 d
theorem in_X10_agree_X10 : ∀ w ∈ u_ws RX10 TX10 43, w ∈ wsX10_agree := fun _ h => xt1 (xr (h))
noncomputable def fX10_agree (σ : hy_S) (x1 : Int32) : Option (hy_S × Int32) := hy_pf σ 0 0 (fun σ1 => hy_bd (fX10_round σ1 x1) (fun σ3 v4 => (if v4 = 0 then some (σ3, 1) else some (σ3, 0))))
set_option maxHeartbeats 4000000 in
set_option maxRecDepth 100000 in
theorem bX10_agree_0 (hA : ∀ q : Nat, s.heap.size ≤ q → A q) (B : hy_B RX10 cX10_agree 2 wsX10_agree G A p s m args c) (hR : 3 ≤ R.frames ∧ 79 ≤ R.locals) {o : hy_S × Int32}  (hret : ∀ (σ : hy_S) (v : Int32) (pc : Nat) (H : Heap) (locs : List Loc) (ls : Array Slot), o = (σ, v) → (v = 0 ∨ v = 1) → hy_w mw G A s σ H locs → decode cX10_agree pc = .ok (.ireturn, 1) → W p l e R s m args below meth c H locs 0 0 Q (F0 m pc ls [.int v])) (σ : hy_S) (x1 : Int32) (H : Heap) (locs : List Loc) (ls : Array Slot) (hf : fX10_agree σ x1 = some o) (w : hy_w mw G A s σ H locs) (hl : lv_has ls 2 [(0, .ref (G.2.2.2.2.1 0)), (1, .int x1)]) : W p l e R s m args below meth c H locs 0 0 Q (F0 m 0 ls []) := by
  unfold fX10_agree at hf
  refine lv_aload_n B.1.1 B.1.2.1 dX10_agree_0 rfl (lv_at hl 0 rfl) ?_
  refine lv_iconst (v := 0) B.1.1 B.1.2.1 dX10_agree_1 (by decide) ?_
  obtain ⟨σ1, e2, hf⟩ := hy_pf_some hf
  refine hy_put (k := 0) B w (mwq_0 G) rfl in_X10_agree_X10 tyX10 tyX10_ok nmX10 (by decide) (by decide +kernel) rfl rfl (by show 0 < 43; decide) (mwp_0 G) e2 dX10_agree_2 (fun H locs w => ?_)
  refine lv_aload_n B.1.1 B.1.2.1 dX10_agree_5 rfl (lv_at hl 0 rfl) ?_
  refine lv_iload_n B.1.1 B.1.2.1 dX10_agree_6 rfl (lv_at hl 1 rfl) ?_
  obtain ⟨σ3, v4, h5, hf⟩ := hy_bd_some hf
  refine hy_cv (As := [.int x1]) (rest := []) (o := (σ3, v4)) mw_fix hA B w (fun sz => mX10_round l G sz σ1 x1 _ h5) (cwV 1 B.1.2.2.2.2 gX10_agree_X10_round rfl rfl rfl (by decide +kernel) ⟨by have := hR.1; show 2 + 1 ≤ _; omega, by have := hR.2; show 8 + (7 + 11) + 53 ≤ _; omega⟩) rfl (mwq_0 G σ1) rfl hl.1 rfl (Nat.le_of_ble_eq_true rfl) dX10_agree_7 ⟨Nat.zero_le _, Nat.zero_le _⟩ (fun H locs w => ?_)
  refine lv_if_ne (tgt := 17) B.1.1 B.1.2.1 dX10_agree_10 (by decide) (fun c6 => ?_) (fun c6 => ?_)
  · rw [if_neg c6] at hf
    refine lv_iconst (v := 0) B.1.1 B.1.2.1 dX10_agree_17 (by decide) ?_
    exact hret _ _ _ _ _ _ (Option.some.inj hf).symm (Or.inl rfl) w dX10_agree_18
  · rw [if_pos c6] at hf
    refine lv_iconst (v := 1) B.1.1 B.1.2.1 dX10_agree_13 (by decide) ?_
    refine lv_goto (tgt := 18) B.1.1 B.1.2.1 dX10_agree_14 (by decide) ?_
    exact hret _ _ _ _ _ _ (Option.some.inj hf).symm (Or.inr rfl) w dX10_agree_18
set_option maxHeartbeats 4000000 in
set_option maxRecDepth 100000 in
theorem mX10_agree (l : Launch) (G : hy_G) (sz : Nat) (σ : hy_S) (x1 : Int32) (o : hy_S × Int32) (hf : fX10_agree σ x1 = some o) : hy_M l yX10_agree wsX10_agree ({ frames := 3, cells := 0, slots := 0, locals := 79 }) mw G σ sz [.ref (G.2.2.2.2.1 0), .int x1] o := by
  refine Met.ofW (cc := cX10_agree) (maxL := 2) (ret := (some .boolean)) (by decide +kernel) rfl ?_
  intro p e s m args below meth c s₁ B hml hv
  obtain ⟨rfl, hsz, hP, hK, hD0, hN⟩ := hv
  have hx := B.exec
  have hb := B.bytes
  have hr := B.returns
  have hts := atoms_spec (ws := wsX10_agree) B.pre
  have hown : s.vm.findClass RX10 = some m.cls := findClass_of_methodNamed B.named
  have hlocks := B.notSynchronized
  subst hsz
  have hD := hD0.self (sz := s.heap.size)
  have hA : ∀ q : Nat, s.heap.size ≤ q → va_A (mw G σ) s.heap.size q := fun q h => Or.inr h
  have hS : va_S (va_A (mw G σ) s.heap.size) s.heap s.heap [] := va_S.rf
  have hl := lv_entry ([.ref (G.2.2.2.2.1 0), .int x1]) (n := 2) (Nat.le_of_ble_eq_true rfl)
  rw [lg_entry_eq]
  generalize (lg_sl ([.ref (G.2.2.2.2.1 0), .int x1]) ++ List.replicate (2 - (lg_sl ([.ref (G.2.2.2.2.1 0), .int x1])).length) Slot.unset).toArray = ls at hl ⊢
  have hl : lv_has ls 2 [(0, .ref (G.2.2.2.2.1 0)), (1, .int x1)] := hl
  refine bX10_agree_0 (A := va_A (mw G σ) s.heap.size) hA ⟨⟨hx, hb, hml, hown, hts⟩, hK, hN⟩ ⟨Nat.le_of_ble_eq_true rfl, Nat.le_of_ble_eq_true rfl⟩ (o := o) (fun τ v pc H locs ls ho hz w d => ?_) σ x1 _ _ _ hf ⟨hP, hD, hS⟩ hl
  exact W.zret hx hb hr (hy_bool hz) (fun t ht hW => ⟨⟨v, τ, rfl, ⟨by rw [ho], by rw [ho]⟩, by have h9 := w.1; rw [← ht] at h9; exact h9⟩, w.2.2.F ht⟩) w.2.2.2.2 d
theorem in_X10_quarrel_X10 : ∀ w ∈ u_ws RX10 TX10 43, w ∈ wsX10_quarrel := fun _ h => xt1 (xr (h))
noncomputable def fX10_quarrel (σ : hy_S) (x1 : Int32) : Option (hy_S × Int32) := hy_pf σ 0 0 (fun σ1 => hy_bd (fX10_round σ1 x1) (fun σ3 v4 => some (σ3, v4)))
set_option maxHeartbeats 4000000 in
set_option maxRecDepth 100000 in
theorem bX10_quarrel_0 (hA : ∀ q : Nat, s.heap.size ≤ q → A q) (B : hy_B RX10 cX10_quarrel 2 wsX10_quarrel G A p s m args c) (hR : 3 ≤ R.frames ∧ 79 ≤ R.locals) {o : hy_S × Int32}  (hret : ∀ (σ : hy_S) (v : Int32) (pc : Nat) (H : Heap) (locs : List Loc) (ls : Array Slot), o = (σ, v) → hy_w mw G A s σ H locs → decode cX10_quarrel pc = .ok (.ireturn, 1) → W p l e R s m args below meth c H locs 0 0 Q (F0 m pc ls [.int v])) (σ : hy_S) (x1 : Int32) (H : Heap) (locs : List Loc) (ls : Array Slot) (hf : fX10_quarrel σ x1 = some o) (w : hy_w mw G A s σ H locs) (hl : lv_has ls 2 [(0, .ref (G.2.2.2.2.1 0)), (1, .int x1)]) : W p l e R s m args below meth c H locs 0 0 Q (F0 m 0 ls []) := by
  unfold fX10_quarrel at hf
  refine lv_aload_n B.1.1 B.1.2.1 dX10_quarrel_0 rfl (lv_at hl 0 rfl) ?_
  refine lv_iconst (v := 0) B.1.1 B.1.2.1 dX10_quarrel_1 (by decide) ?_
  obtain ⟨σ1, e2, hf⟩ := hy_pf_some hf
  refine hy_put (k := 0) B w (mwq_0 G) rfl in_X10_quarrel_X10 tyX10 tyX10_ok nmX10 (by decide) (by decide +kernel) rfl rfl (by show 0 < 43; decide) (mwp_0 G) e2 dX10_quarrel_2 (fun H locs w => ?_)
  refine lv_aload_n B.1.1 B.1.2.1 dX10_quarrel_5 rfl (lv_at hl 0 rfl) ?_
  refine lv_iload_n B.1.1 B.1.2.1 dX10_quarrel_6 rfl (lv_at hl 1 rfl) ?_
  obtain ⟨σ3, v4, h5, hf⟩ := hy_bd_some hf
  refine hy_cv (As := [.int x1]) (rest := []) (o := (σ3, v4)) mw_fix hA B w (fun sz => mX10_round l G sz σ1 x1 _ h5) (cwV 1 B.1.2.2.2.2 gX10_quarrel_X10_round rfl rfl rfl (by decide +kernel) ⟨by have := hR.1; show 2 + 1 ≤ _; omega, by have := hR.2; show 8 + (7 + 11) + 53 ≤ _; omega⟩) rfl (mwq_0 G σ1) rfl hl.1 rfl (Nat.le_of_ble_eq_true rfl) dX10_quarrel_7 ⟨Nat.zero_le _, Nat.zero_le _⟩ (fun H locs w => ?_)
  exact hret _ _ _ _ _ _ (Option.some.inj hf).symm w dX10_quarrel_10
set_option maxHeartbeats 4000000 in
set_option maxRecDepth 100000 in
theorem mX10_quarrel (l : Launch) (G : hy_G) (sz : Nat) (σ : hy_S) (x1 : Int32) (o : hy_S × Int32) (hf : fX10_quarrel σ x1 = some o) : hy_M l yX10_quarrel wsX10_quarrel ({ frames := 3, cells := 0, slots := 0, locals := 79 }) mw G σ sz [.ref (G.2.2.2.2.1 0), .int x1] o := by
  refine Met.ofW (cc := cX10_quarrel) (maxL := 2) (ret := (some .int)) (by decide +kernel) rfl ?_
  intro p e s m args below meth c s₁ B hml hv
  obtain ⟨rfl, hsz, hP, hK, hD0, hN⟩ := hv
  have hx := B.exec
  have hb := B.bytes
  have hr := B.returns
  have hts := atoms_spec (ws := wsX10_quarrel) B.pre
  have hown : s.vm.findClass RX10 = some m.cls := findClass_of_methodNamed B.named
  have hlocks := B.notSynchronized
  subst hsz
  have hD := hD0.self (sz := s.heap.size)
  have hA : ∀ q : Nat, s.heap.size ≤ q → va_A (mw G σ) s.heap.size q := fun q h => Or.inr h
  have hS : va_S (va_A (mw G σ) s.heap.size) s.heap s.heap [] := va_S.rf
  have hl := lv_entry ([.ref (G.2.2.2.2.1 0), .int x1]) (n := 2) (Nat.le_of_ble_eq_true rfl)
  rw [lg_entry_eq]
  generalize (lg_sl ([.ref (G.2.2.2.2.1 0), .int x1]) ++ List.replicate (2 - (lg_sl ([.ref (G.2.2.2.2.1 0), .int x1])).length) Slot.unset).toArray = ls at hl ⊢
  have hl : lv_has ls 2 [(0, .ref (G.2.2.2.2.1 0)), (1, .int x1)] := hl
  refine bX10_quarrel_0 (A := va_A (mw G σ) s.heap.size) hA ⟨⟨hx, hb, hml, hown, hts⟩, hK, hN⟩ ⟨Nat.le_of_ble_eq_true rfl, Nat.le_of_ble_eq_true rfl⟩ (o := o) (fun τ v pc H locs ls ho w d => ?_) σ x1 _ _ _ hf ⟨hP, hD, hS⟩ hl
  exact W.iret hx hb hr (fun t ht hW => ⟨⟨v, τ, rfl, ⟨by rw [ho], by rw [ho]⟩, by have h9 := w.1; rw [← ht] at h9; exact h9⟩, w.2.2.F ht⟩) w.2.2.2.2 d
theorem in_X10_span_X10 : ∀ w ∈ u_ws RX10 TX10 43, w ∈ wsX10_span := fun _ h => xt1 (xr (h))
noncomputable def fX10_span_210 (σ : hy_S) (s0 : Int32) (x2 : Int32) (x4 : Int32) : Option (hy_S × Int32) := hy_bd (fX10_throwsIf σ s0 2) (fun σ1 v2 => (if v2 = 0 then (if x2 = 0 then some (σ1, x4) else some (σ1, (-x4))) else some (σ1, 0)))
noncomputable def fX10_span_195 (σ : hy_S) (s0 : Int32) (x2 : Int32) : Option (hy_S × Int32) := (if s0 = (-100000000) then fX10_span_210 σ 1 x2 s0 else fX10_span_210 σ 0 x2 s0)
noncomputable def fX10_span_148 (k43 : hy_S → Int32 → Int32 → Int32 → Option (hy_S × Int32)) (k53 : hy_S → Int32 → Int32 → Int32 → Int32 → Option (hy_S × Int32)) (k63 : hy_S → Int32 → Int32 → Int32 → Int32 → Int32 → Option (hy_S × Int32)) (σ : hy_S) (x1 : Int32) (x2 : Int32) (x4 : Int32) (x5 : Int32) (x6 : Int32) : Option (hy_S × Int32) := k63 σ x1 x2 x4 x5 (x6 + 1)
noncomputable def fX10_span_63 (k43 : hy_S → Int32 → Int32 → Int32 → Option (hy_S × Int32)) (k53 : hy_S → Int32 → Int32 → Int32 → Int32 → Option (hy_S × Int32)) : Nat → hy_S → Int32 → Int32 → Int32 → Int32 → Int32 → Option (hy_S × Int32)
  | 0, _, _, _, _, _, _ => none
  | n + 1, σ, x1, x2, x4, x5, x6 => (if 13 ≤ x6 then k53 σ x1 x2 x4 (x5 + 1) else hy_ga σ 28 169 ((13 * x5) + x4) (fun v2 => hy_ga σ 28 169 ((13 * x4) + x6) (fun v5 => (if v2 ≤ (-100000000) then fX10_span_148 k43 k53 (fX10_span_63 k43 k53 n) σ x1 x2 x4 x5 x6 else (if v5 ≤ (-100000000) then fX10_span_148 k43 k53 (fX10_span_63 k43 k53 n) σ x1 x2 x4 x5 x6 else hy_ga σ 28 169 ((13 * x5) + x6) (fun v10 => hy_pa σ 28 169 ((13 * x5) + x6) (if v10 < (v2 + v5) then (v2 + v5) else v10) (fun σ15 => fX10_span_148 k43 k53 (fX10_span_63 k43 k53 n) σ15 x1 x2 x4 x5 x6)))))))
noncomputable def fX10_span_53 (k43 : hy_S → Int32 → Int32 → Int32 → Option (hy_S × Int32)) : Nat → hy_S → Int32 → Int32 → Int32 → Int32 → Option (hy_S × Int32)
  | 0, _, _, _, _, _ => none
  | n + 1, σ, x1, x2, x4, x5 => (if 13 ≤ x5 then k43 σ x1 x2 (x4 + 1) else fX10_span_63 k43 (fX10_span_53 k43 n) hy_fu σ x1 x2 x4 x5 0)
noncomputable def fX10_span_43 : Nat → hy_S → Int32 → Int32 → Int32 → Option (hy_S × Int32)
  | 0, _, _, _, _ => none
  | n + 1, σ, x1, x2, x4 => (if 13 ≤ x4 then (if x2 = 0 then hy_ga σ 28 169 (156 + x1) (fun v3 => fX10_span_195 σ v3 x2) else hy_ga σ 28 169 ((13 * x1) + 12) (fun v6 => fX10_span_195 σ v6 x2)) else fX10_span_53 (fX10_span_43 n) hy_fu σ x1 x2 x4 0)
noncomputable def fX10_span_31 (σ : hy_S) (s0 : Int32) (x1 : Int32) (x2 : Int32) : Option (hy_S × Int32) := hy_bd (fX10_throwsIf σ s0 2) (fun σ1 v2 => (if v2 = 0 then fX10_span_43 hy_fu σ1 x1 x2 0 else some (σ1, 0)))
noncomputable def fX10_span (σ : hy_S) (x1 : Int32) (x2 : Int32) (x3 : Int32) : Option (hy_S × Int32) := hy_pf σ 0 0 (fun σ1 => hy_bd (fX10_noStamp σ1 x1) (fun σ3 v4 => hy_bd (fX10_throwsIf σ3 v4 1) (fun σ6 v7 => (if v7 = 0 then hy_bd (fX10_round σ6 x3) (fun σ10 v11 => (if v11 ≤ 0 then fX10_span_31 σ10 0 x1 x2 else fX10_span_31 σ10 1 x1 x2)) else some (σ6, 0)))))
set_option maxHeartbeats 4000000 in
set_option maxRecDepth 100000 in
theorem bX10_span_210 (hA : ∀ q : Nat, s.heap.size ≤ q → A q) (B : hy_B RX10 cX10_span 9 wsX10_span G A p s m args c) (hR : 3 ≤ R.frames ∧ 79 ≤ R.locals) {o : hy_S × Int32}  (hret : ∀ (σ : hy_S) (v : Int32) (pc : Nat) (H : Heap) (locs : List Loc) (ls : Array Slot), o = (σ, v) → hy_w mw G A s σ H locs → decode cX10_span pc = .ok (.ireturn, 1) → W p l e R s m args below meth c H locs 0 0 Q (F0 m pc ls [.int v])) (σ : hy_S) (s0 : Int32) (x2 : Int32) (x4 : Int32) (H : Heap) (locs : List Loc) (ls : Array Slot) (hf : fX10_span_210 σ s0 x2 x4 = some o) (w : hy_w mw G A s σ H locs) (hl : lv_has ls 9 [(2, .int x2), (4, .int x4)]) : W p l e R s m args below meth c H locs 0 0 Q (F0 m 210 ls [.int s0, .ref (G.2.2.2.2.1 0)]) := by
  unfold fX10_span_210 at hf
  refine lv_iconst (v := 2) B.1.1 B.1.2.1 dX10_span_210 (by decide) ?_
  obtain ⟨σ1, v2, h3, hf⟩ := hy_bd_some hf
  refine hy_cv (As := [.int s0, .int 2]) (rest := []) (o := (σ1, v2)) mw_fix hA B w (fun sz => mX10_throwsIf l G sz σ s0 2 _ h3) (cwV 2 B.1.2.2.2.2 gX10_span_X10_throwsIf rfl rfl rfl (by decide +kernel) ⟨by have := hR.1; show 0 + 1 ≤ _; omega, by have := hR.2; show 8 + (3 + 11) + 0 ≤ _; omega⟩) rfl (mwq_0 G σ) rfl hl.1 rfl (Nat.le_of_ble_eq_true rfl) dX10_span_211 ⟨Nat.zero_le _, Nat.zero_le _⟩ (fun H locs w => ?_)
  refine lv_if_eq (tgt := 219) B.1.1 B.1.2.1 dX10_span_214 (by decide) (fun c4 => ?_) (fun c4 => ?_)
  · rw [if_pos c4] at hf
    refine lv_iload_n B.1.1 B.1.2.1 dX10_span_219 rfl (lv_at hl 0 rfl) ?_
    refine lv_if_eq (tgt := 229) B.1.1 B.1.2.1 dX10_span_220 (by decide) (fun c5 => ?_) (fun c5 => ?_)
    · rw [if_pos c5] at hf
      refine lv_iload B.1.1 B.1.2.1 dX10_span_229 (lv_at hl 1 rfl) ?_
      exact hret _ _ _ _ _ _ (Option.some.inj hf).symm w dX10_span_231
    · rw [if_neg c5] at hf
      refine lv_iload B.1.1 B.1.2.1 dX10_span_223 (lv_at hl 1 rfl) ?_
      refine lv_ineg B.1.1 B.1.2.1 dX10_span_225 ?_
      refine lv_goto (tgt := 231) B.1.1 B.1.2.1 dX10_span_226 (by decide) ?_
      exact hret _ _ _ _ _ _ (Option.some.inj hf).symm w dX10_span_231
  · rw [if_neg c4] at hf
    refine lv_iconst (v := 0) B.1.1 B.1.2.1 dX10_span_217 (by decide) ?_
    exact hret _ _ _ _ _ _ (Option.some.inj hf).symm w dX10_span_218
set_option maxHeartbeats 4000000 in
set_option maxRecDepth 100000 in
theorem bX10_span_195 (hA : ∀ q : Nat, s.heap.size ≤ q → A q) (B : hy_B RX10 cX10_span 9 wsX10_span G A p s m args c) (hR : 3 ≤ R.frames ∧ 79 ≤ R.locals) {o : hy_S × Int32}  (hret : ∀ (σ : hy_S) (v : Int32) (pc : Nat) (H : Heap) (locs : List Loc) (ls : Array Slot), o = (σ, v) → hy_w mw G A s σ H locs → decode cX10_span pc = .ok (.ireturn, 1) → W p l e R s m args below meth c H locs 0 0 Q (F0 m pc ls [.int v])) (σ : hy_S) (s0 : Int32) (x2 : Int32) (H : Heap) (locs : List Loc) (ls : Array Slot) (hf : fX10_span_195 σ s0 x2 = some o) (w : hy_w mw G A s σ H locs) (hl : lv_has ls 9 [(0, .ref (G.2.2.2.2.1 0)), (2, .int x2)]) : W p l e R s m args below meth c H locs 0 0 Q (F0 m 195 ls [.int s0]) := by
  unfold fX10_span_195 at hf
  refine lv_istore (lv' := [(4, .int s0), (0, .ref (G.2.2.2.2.1 0)), (2, .int x2)]) B.1.1 B.1.2.1 dX10_span_195 hl (by decide) rfl (fun ls hl => ?_)
  refine lv_aload_n B.1.1 B.1.2.1 dX10_span_197 rfl (lv_at hl 1 rfl) ?_
  refine lv_iload B.1.1 B.1.2.1 dX10_span_198 (lv_at hl 0 rfl) ?_
  refine lv_ldc (v := (-100000000)) B.1.1 B.1.2.1 B.1.2.2.2.1 (B.1.2.2.2.2 (.constant RX10 233 (-100000000)) (by decide +kernel)) dX10_span_200 ?_
  refine lv_icmp_ne (tgt := 209) B.1.1 B.1.2.1 dX10_span_202 (by decide) (fun c1 => ?_) (fun c1 => ?_)
  · rw [if_neg c1] at hf
    refine lv_iconst (v := 0) B.1.1 B.1.2.1 dX10_span_209 (by decide) ?_
    exact bX10_span_210 hA B hR  hret _ _ _ _ _ _ _ hf w (lv_sub hl [2, 0] rfl)
  · rw [if_pos c1] at hf
    refine lv_iconst (v := 1) B.1.1 B.1.2.1 dX10_span_205 (by decide) ?_
    refine lv_goto (tgt := 210) B.1.1 B.1.2.1 dX10_span_206 (by decide) ?_
    exact bX10_span_210 hA B hR  hret _ _ _ _ _ _ _ hf w (lv_sub hl [2, 0] rfl)
set_option maxHeartbeats 4000000 in
set_option maxRecDepth 100000 in
theorem bX10_span_148 (hA : ∀ q : Nat, s.heap.size ≤ q → A q) (B : hy_B RX10 cX10_span 9 wsX10_span G A p s m args c) (hR : 3 ≤ R.frames ∧ 79 ≤ R.locals) {o : hy_S × Int32}  {k43 : hy_S → Int32 → Int32 → Int32 → Option (hy_S × Int32)} {k53 : hy_S → Int32 → Int32 → Int32 → Int32 → Option (hy_S × Int32)} {k63 : hy_S → Int32 → Int32 → Int32 → Int32 → Int32 → Option (hy_S × Int32)} (hk43 : ∀ (σ : hy_S) (x1 : Int32) (x2 : Int32) (x4 : Int32) (H : Heap) (locs : List Loc) (ls : Array Slot), k43 σ x1 x2 x4 = some o → hy_w mw G A s σ H locs → lv_has ls 9 [(0, .ref (G.2.2.2.2.1 0)), (1, .int x1), (2, .int x2), (4, .int x4)] → W p l e R s m args below meth c H locs 0 0 Q (F0 m 43 ls [])) (hk53 : ∀ (σ : hy_S) (x1 : Int32) (x2 : Int32) (x4 : Int32) (x5 : Int32) (H : Heap) (locs : List Loc) (ls : Array Slot), k53 σ x1 x2 x4 x5 = some o → hy_w mw G A s σ H locs → lv_has ls 9 [(0, .ref (G.2.2.2.2.1 0)), (1, .int x1), (2, .int x2), (4, .int x4), (5, .int x5)] → W p l e R s m args below meth c H locs 0 0 Q (F0 m 53 ls [])) (hk63 : ∀ (σ : hy_S) (x1 : Int32) (x2 : Int32) (x4 : Int32) (x5 : Int32) (x6 : Int32) (H : Heap) (locs : List Loc) (ls : Array Slot), k63 σ x1 x2 x4 x5 x6 = some o → hy_w mw G A s σ H locs → lv_has ls 9 [(0, .ref (G.2.2.2.2.1 0)), (1, .int x1), (2, .int x2), (4, .int x4), (5, .int x5), (6, .int x6)] → W p l e R s m args below meth c H locs 0 0 Q (F0 m 63 ls [])) (hret : ∀ (σ : hy_S) (v : Int32) (pc : Nat) (H : Heap) (locs : List Loc) (ls : Array Slot), o = (σ, v) → hy_w mw G A s σ H locs → decode cX10_span pc = .ok (.ireturn, 1) → W p l e R s m args below meth c H locs 0 0 Q (F0 m pc ls [.int v])) (σ : hy_S) (x1 : Int32) (x2 : Int32) (x4 : Int32) (x5 : Int32) (x6 : Int32) (H : Heap) (locs : List Loc) (ls : Array Slot) (hf : fX10_span_148 k43 k53 k63 σ x1 x2 x4 x5 x6 = some o) (w : hy_w mw G A s σ H locs) (hl : lv_has ls 9 [(0, .ref (G.2.2.2.2.1 0)), (1, .int x1), (2, .int x2), (4, .int x4), (5, .int x5), (6, .int x6)]) : W p l e R s m args below meth c H locs 0 0 Q (F0 m 148 ls []) := by
  unfold fX10_span_148 at hf
  refine lv_iinc (v := (x6 + 1)) (lv' := [(6, .int (x6 + 1)), (0, .ref (G.2.2.2.2.1 0)), (1, .int x1), (2, .int x2), (4, .int x4), (5, .int x5)]) B.1.1 B.1.2.1 dX10_span_148 hl (k := 5) rfl rfl (by decide) rfl (fun ls hl => ?_)
  refine lv_goto (tgt := 63) B.1.1 B.1.2.1 dX10_span_151 (by decide) ?_
  exact hk63 _ _ _ _ _ _ _ _ _ hf w (lv_sub hl [1, 2, 3, 4, 5, 0] rfl)
set_option maxHeartbeats 4000000 in
set_option maxRecDepth 100000 in
theorem bX10_span_63 (hA : ∀ q : Nat, s.heap.size ≤ q → A q) (B : hy_B RX10 cX10_span 9 wsX10_span G A p s m args c) (hR : 3 ≤ R.frames ∧ 79 ≤ R.locals) {o : hy_S × Int32}  {k43 : hy_S → Int32 → Int32 → Int32 → Option (hy_S × Int32)} {k53 : hy_S → Int32 → Int32 → Int32 → Int32 → Option (hy_S × Int32)} (hk43 : ∀ (σ : hy_S) (x1 : Int32) (x2 : Int32) (x4 : Int32) (H : Heap) (locs : List Loc) (ls : Array Slot), k43 σ x1 x2 x4 = some o → hy_w mw G A s σ H locs → lv_has ls 9 [(0, .ref (G.2.2.2.2.1 0)), (1, .int x1), (2, .int x2), (4, .int x4)] → W p l e R s m args below meth c H locs 0 0 Q (F0 m 43 ls [])) (hk53 : ∀ (σ : hy_S) (x1 : Int32) (x2 : Int32) (x4 : Int32) (x5 : Int32) (H : Heap) (locs : List Loc) (ls : Array Slot), k53 σ x1 x2 x4 x5 = some o → hy_w mw G A s σ H locs → lv_has ls 9 [(0, .ref (G.2.2.2.2.1 0)), (1, .int x1), (2, .int x2), (4, .int x4), (5, .int x5)] → W p l e R s m args below meth c H locs 0 0 Q (F0 m 53 ls [])) (hret : ∀ (σ : hy_S) (v : Int32) (pc : Nat) (H : Heap) (locs : List Loc) (ls : Array Slot), o = (σ, v) → hy_w mw G A s σ H locs → decode cX10_span pc = .ok (.ireturn, 1) → W p l e R s m args below meth c H locs 0 0 Q (F0 m pc ls [.int v])) : ∀ (n : Nat) (σ : hy_S) (x1 : Int32) (x2 : Int32) (x4 : Int32) (x5 : Int32) (x6 : Int32) (H : Heap) (locs : List Loc) (ls : Array Slot), fX10_span_63 k43 k53 n σ x1 x2 x4 x5 x6 = some o → hy_w mw G A s σ H locs → lv_has ls 9 [(0, .ref (G.2.2.2.2.1 0)), (1, .int x1), (2, .int x2), (4, .int x4), (5, .int x5), (6, .int x6)] → W p l e R s m args below meth c H locs 0 0 Q (F0 m 63 ls []) := by
  intro n
  induction n with
  | zero => intro σ x1 x2 x4 x5 x6 H locs ls hf; cases hf
  | succ n hk63 =>
    intro σ x1 x2 x4 x5 x6 H locs ls hf w hl
    unfold fX10_span_63 at hf
    refine lv_iload B.1.1 B.1.2.1 dX10_span_63 (lv_at hl 5 rfl) ?_
    refine lv_bipush (v := 13) B.1.1 B.1.2.1 dX10_span_65 (by decide) ?_
    refine lv_icmp_ge (tgt := 154) B.1.1 B.1.2.1 dX10_span_67 (by decide) (fun c1 => ?_) (fun c1 => ?_)
    · rw [if_pos c1] at hf
      refine lv_iinc (v := (x5 + 1)) (lv' := [(5, .int (x5 + 1)), (0, .ref (G.2.2.2.2.1 0)), (1, .int x1), (2, .int x2), (4, .int x4), (6, .int x6)]) B.1.1 B.1.2.1 dX10_span_154 hl (k := 4) rfl rfl (by decide) rfl (fun ls hl => ?_)
      refine lv_goto (tgt := 53) B.1.1 B.1.2.1 dX10_span_157 (by decide) ?_
      exact hk53 _ _ _ _ _ _ _ _ hf w (lv_sub hl [1, 2, 3, 4, 0] rfl)
    · rw [if_neg c1] at hf
      refine lv_aload_n B.1.1 B.1.2.1 dX10_span_70 rfl (lv_at hl 0 rfl) ?_
      refine hy_get (k := 40) (v := .ref (G.2.2.2.2.1 29)) B w (mwq_0 G) rfl in_X10_span_X10 (by decide) (by decide +kernel) rfl dX10_span_71 ?_
      refine lv_bipush (v := 13) B.1.1 B.1.2.1 dX10_span_74 (by decide) ?_
      refine lv_iload B.1.1 B.1.2.1 dX10_span_76 (lv_at hl 4 rfl) ?_
      refine lv_imul B.1.1 B.1.2.1 dX10_span_78 ?_
      refine lv_iload B.1.1 B.1.2.1 dX10_span_79 (lv_at hl 3 rfl) ?_
      refine lv_iadd B.1.1 B.1.2.1 dX10_span_81 ?_
      obtain ⟨h4, v2, e3, hf⟩ := hy_ga_some hf
      refine hy_iald B w (mwq_29 G) h4 e3 dX10_span_82 ?_
      refine lv_istore (lv' := [(7, .int v2), (0, .ref (G.2.2.2.2.1 0)), (1, .int x1), (2, .int x2), (4, .int x4), (5, .int x5), (6, .int x6)]) B.1.1 B.1.2.1 dX10_span_83 hl (by decide) rfl (fun ls hl => ?_)
      refine lv_aload_n B.1.1 B.1.2.1 dX10_span_85 rfl (lv_at hl 1 rfl) ?_
      refine hy_get (k := 40) (v := .ref (G.2.2.2.2.1 29)) B w (mwq_0 G) rfl in_X10_span_X10 (by decide) (by decide +kernel) rfl dX10_span_86 ?_
      refine lv_bipush (v := 13) B.1.1 B.1.2.1 dX10_span_89 (by decide) ?_
      refine lv_iload B.1.1 B.1.2.1 dX10_span_91 (lv_at hl 4 rfl) ?_
      refine lv_imul B.1.1 B.1.2.1 dX10_span_93 ?_
      refine lv_iload B.1.1 B.1.2.1 dX10_span_94 (lv_at hl 6 rfl) ?_
      refine lv_iadd B.1.1 B.1.2.1 dX10_span_96 ?_
      obtain ⟨h7, v5, e6, hf⟩ := hy_ga_some hf
      refine hy_iald B w (mwq_29 G) h7 e6 dX10_span_97 ?_
      refine lv_istore (lv' := [(8, .int v5), (7, .int v2), (0, .ref (G.2.2.2.2.1 0)), (1, .int x1), (2, .int x2), (4, .int x4), (5, .int x5), (6, .int x6)]) B.1.1 B.1.2.1 dX10_span_98 hl (by decide) rfl (fun ls hl => ?_)
      refine lv_iload B.1.1 B.1.2.1 dX10_span_100 (lv_at hl 1 rfl) ?_
      refine lv_ldc (v := (-100000000)) B.1.1 B.1.2.1 B.1.2.2.2.1 (B.1.2.2.2.2 (.constant RX10 233 (-100000000)) (by decide +kernel)) dX10_span_102 ?_
      refine lv_icmp_le (tgt := 148) B.1.1 B.1.2.1 dX10_span_104 (by decide) (fun c8 => ?_) (fun c8 => ?_)
      · rw [if_pos c8] at hf
        exact bX10_span_148 hA B hR hk43 hk53 hk63 hret _ _ _ _ _ _ _ _ _ hf w (lv_sub hl [2, 3, 4, 5, 6, 7] rfl)
      · rw [if_neg c8] at hf
        refine lv_iload B.1.1 B.1.2.1 dX10_span_107 (lv_at hl 0 rfl) ?_
        refine lv_ldc (v := (-100000000)) B.1.1 B.1.2.1 B.1.2.2.2.1 (B.1.2.2.2.2 (.constant RX10 233 (-100000000)) (by decide +kernel)) dX10_span_109 ?_
        refine lv_icmp_le (tgt := 148) B.1.1 B.1.2.1 dX10_span_111 (by decide) (fun c9 => ?_) (fun c9 => ?_)
        · rw [if_pos c9] at hf
          exact bX10_span_148 hA B hR hk43 hk53 hk63 hret _ _ _ _ _ _ _ _ _ hf w (lv_sub hl [2, 3, 4, 5, 6, 7] rfl)
        · rw [if_neg c9] at hf
          refine lv_aload_n B.1.1 B.1.2.1 dX10_span_114 rfl (lv_at hl 2 rfl) ?_
          refine hy_get (k := 40) (v := .ref (G.2.2.2.2.1 29)) B w (mwq_0 G) rfl in_X10_span_X10 (by decide) (by decide +kernel) rfl dX10_span_115 ?_
          refine lv_bipush (v := 13) B.1.1 B.1.2.1 dX10_span_118 (by decide) ?_
          refine lv_iload B.1.1 B.1.2.1 dX10_span_120 (lv_at hl 6 rfl) ?_
          refine lv_imul B.1.1 B.1.2.1 dX10_span_122 ?_
          refine lv_iload B.1.1 B.1.2.1 dX10_span_123 (lv_at hl 7 rfl) ?_
          refine lv_iadd B.1.1 B.1.2.1 dX10_span_125 ?_
          refine lv_aload_n B.1.1 B.1.2.1 dX10_span_126 rfl (lv_at hl 2 rfl) ?_
          refine hy_get (k := 40) (v := .ref (G.2.2.2.2.1 29)) B w (mwq_0 G) rfl in_X10_span_X10 (by decide) (by decide +kernel) rfl dX10_span_127 ?_
          refine lv_bipush (v := 13) B.1.1 B.1.2.1 dX10_span_130 (by decide) ?_
          refine lv_iload B.1.1 B.1.2.1 dX10_span_132 (lv_at hl 6 rfl) ?_
          refine lv_imul B.1.1 B.1.2.1 dX10_span_134 ?_
          refine lv_iload B.1.1 B.1.2.1 dX10_span_135 (lv_at hl 7 rfl) ?_
          refine lv_iadd B.1.1 B.1.2.1 dX10_span_137 ?_
          obtain ⟨h12, v10, e11, hf⟩ := hy_ga_some hf
          refine hy_iald B w (mwq_29 G) h12 e11 dX10_span_138 ?_
          refine lv_iload B.1.1 B.1.2.1 dX10_span_139 (lv_at hl 1 rfl) ?_
          refine lv_iload B.1.1 B.1.2.1 dX10_span_141 (lv_at hl 0 rfl) ?_
          refine lv_iadd B.1.1 B.1.2.1 dX10_span_143 ?_
          refine va_mmax B.1.1 B.1.2.1 (B.1.2.2.1.trans hl.1.symm) B.1.2.2.2.1 (B.1.2.2.2.2 (.methodLink RX10 153 Lib.Math.max.name) (by decide +kernel)) (B.1.2.2.2.2 (.static Lib.Math.max.name) (by decide +kernel)) (B.1.2.2.2.2 (.initialized "java/lang/Math") (by decide +kernel)) (B.1.2.2.2.2 (.code Lib.Math.max.name Lib.Math.max.code 2 (some .int)) (by decide +kernel)) (by have := hR; omega) (by have := hR; show _ ≤ _; simp [Value.category]; omega) (Nat.zero_le _) (Nat.zero_le _) dX10_span_144 ?_
          obtain ⟨h17, σ15, e16, hf⟩ := hy_pa_some hf
          refine hy_iast B w (mwq_29 G) (mws_29 G) h17 e16 dX10_span_147 (fun H locs w => ?_)
          exact bX10_span_148 hA B hR hk43 hk53 hk63 hret _ _ _ _ _ _ _ _ _ hf w (lv_sub hl [2, 3, 4, 5, 6, 7] rfl)
set_option maxHeartbeats 4000000 in
set_option maxRecDepth 100000 in
theorem bX10_span_53 (hA : ∀ q : Nat, s.heap.size ≤ q → A q) (B : hy_B RX10 cX10_span 9 wsX10_span G A p s m args c) (hR : 3 ≤ R.frames ∧ 79 ≤ R.locals) {o : hy_S × Int32}  {k43 : hy_S → Int32 → Int32 → Int32 → Option (hy_S × Int32)} (hk43 : ∀ (σ : hy_S) (x1 : Int32) (x2 : Int32) (x4 : Int32) (H : Heap) (locs : List Loc) (ls : Array Slot), k43 σ x1 x2 x4 = some o → hy_w mw G A s σ H locs → lv_has ls 9 [(0, .ref (G.2.2.2.2.1 0)), (1, .int x1), (2, .int x2), (4, .int x4)] → W p l e R s m args below meth c H locs 0 0 Q (F0 m 43 ls [])) (hret : ∀ (σ : hy_S) (v : Int32) (pc : Nat) (H : Heap) (locs : List Loc) (ls : Array Slot), o = (σ, v) → hy_w mw G A s σ H locs → decode cX10_span pc = .ok (.ireturn, 1) → W p l e R s m args below meth c H locs 0 0 Q (F0 m pc ls [.int v])) : ∀ (n : Nat) (σ : hy_S) (x1 : Int32) (x2 : Int32) (x4 : Int32) (x5 : Int32) (H : Heap) (locs : List Loc) (ls : Array Slot), fX10_span_53 k43 n σ x1 x2 x4 x5 = some o → hy_w mw G A s σ H locs → lv_has ls 9 [(0, .ref (G.2.2.2.2.1 0)), (1, .int x1), (2, .int x2), (4, .int x4), (5, .int x5)] → W p l e R s m args below meth c H locs 0 0 Q (F0 m 53 ls []) := by
  intro n
  induction n with
  | zero => intro σ x1 x2 x4 x5 H locs ls hf; cases hf
  | succ n hk53 =>
    intro σ x1 x2 x4 x5 H locs ls hf w hl
    unfold fX10_span_53 at hf
    refine lv_iload B.1.1 B.1.2.1 dX10_span_53 (lv_at hl 4 rfl) ?_
    refine lv_bipush (v := 13) B.1.1 B.1.2.1 dX10_span_55 (by decide) ?_
    refine lv_icmp_ge (tgt := 160) B.1.1 B.1.2.1 dX10_span_57 (by decide) (fun c1 => ?_) (fun c1 => ?_)
    · rw [if_pos c1] at hf
      refine lv_iinc (v := (x4 + 1)) (lv' := [(4, .int (x4 + 1)), (0, .ref (G.2.2.2.2.1 0)), (1, .int x1), (2, .int x2), (5, .int x5)]) B.1.1 B.1.2.1 dX10_span_160 hl (k := 3) rfl rfl (by decide) rfl (fun ls hl => ?_)
      refine lv_goto (tgt := 43) B.1.1 B.1.2.1 dX10_span_163 (by decide) ?_
      exact hk43 _ _ _ _ _ _ _ hf w (lv_sub hl [1, 2, 3, 0] rfl)
    · rw [if_neg c1] at hf
      refine lv_iconst (v := 0) B.1.1 B.1.2.1 dX10_span_60 (by decide) ?_
      refine lv_istore (lv' := [(6, .int 0), (0, .ref (G.2.2.2.2.1 0)), (1, .int x1), (2, .int x2), (4, .int x4), (5, .int x5)]) B.1.1 B.1.2.1 dX10_span_61 hl (by decide) rfl (fun ls hl => ?_)
      exact bX10_span_63 hA B hR hk43 hk53 hret _ _ _ _ _ _ _ _ _ _ hf w (lv_sub hl [1, 2, 3, 4, 5, 0] rfl)
set_option maxHeartbeats 4000000 in
set_option maxRecDepth 100000 in
theorem bX10_span_43 (hA : ∀ q : Nat, s.heap.size ≤ q → A q) (B : hy_B RX10 cX10_span 9 wsX10_span G A p s m args c) (hR : 3 ≤ R.frames ∧ 79 ≤ R.locals) {o : hy_S × Int32}  (hret : ∀ (σ : hy_S) (v : Int32) (pc : Nat) (H : Heap) (locs : List Loc) (ls : Array Slot), o = (σ, v) → hy_w mw G A s σ H locs → decode cX10_span pc = .ok (.ireturn, 1) → W p l e R s m args below meth c H locs 0 0 Q (F0 m pc ls [.int v])) : ∀ (n : Nat) (σ : hy_S) (x1 : Int32) (x2 : Int32) (x4 : Int32) (H : Heap) (locs : List Loc) (ls : Array Slot), fX10_span_43 n σ x1 x2 x4 = some o → hy_w mw G A s σ H locs → lv_has ls 9 [(0, .ref (G.2.2.2.2.1 0)), (1, .int x1), (2, .int x2), (4, .int x4)] → W p l e R s m args below meth c H locs 0 0 Q (F0 m 43 ls []) := by
  intro n
  induction n with
  | zero => intro σ x1 x2 x4 H locs ls hf; cases hf
  | succ n hk43 =>
    intro σ x1 x2 x4 H locs ls hf w hl
    unfold fX10_span_43 at hf
    refine lv_iload B.1.1 B.1.2.1 dX10_span_43 (lv_at hl 3 rfl) ?_
    refine lv_bipush (v := 13) B.1.1 B.1.2.1 dX10_span_45 (by decide) ?_
    refine lv_icmp_ge (tgt := 166) B.1.1 B.1.2.1 dX10_span_47 (by decide) (fun c1 => ?_) (fun c1 => ?_)
    · rw [if_pos c1] at hf
      refine lv_iload_n B.1.1 B.1.2.1 dX10_span_166 rfl (lv_at hl 2 rfl) ?_
      refine lv_if_eq (tgt := 185) B.1.1 B.1.2.1 dX10_span_167 (by decide) (fun c2 => ?_) (fun c2 => ?_)
      · rw [if_pos c2] at hf
        refine lv_aload_n B.1.1 B.1.2.1 dX10_span_185 rfl (lv_at hl 0 rfl) ?_
        refine hy_get (k := 40) (v := .ref (G.2.2.2.2.1 29)) B w (mwq_0 G) rfl in_X10_span_X10 (by decide) (by decide +kernel) rfl dX10_span_186 ?_
        refine lv_sipush (v := 156) B.1.1 B.1.2.1 dX10_span_189 (by decide) ?_
        refine lv_iload_n B.1.1 B.1.2.1 dX10_span_192 rfl (lv_at hl 1 rfl) ?_
        refine lv_iadd B.1.1 B.1.2.1 dX10_span_193 ?_
        obtain ⟨h5, v3, e4, hf⟩ := hy_ga_some hf
        refine hy_iald B w (mwq_29 G) h5 e4 dX10_span_194 ?_
        exact bX10_span_195 hA B hR  hret _ _ _ _ _ _ hf w (lv_sub hl [0, 2] rfl)
      · rw [if_neg c2] at hf
        refine lv_aload_n B.1.1 B.1.2.1 dX10_span_170 rfl (lv_at hl 0 rfl) ?_
        refine hy_get (k := 40) (v := .ref (G.2.2.2.2.1 29)) B w (mwq_0 G) rfl in_X10_span_X10 (by decide) (by decide +kernel) rfl dX10_span_171 ?_
        refine lv_bipush (v := 13) B.1.1 B.1.2.1 dX10_span_174 (by decide) ?_
        refine lv_iload_n B.1.1 B.1.2.1 dX10_span_176 rfl (lv_at hl 1 rfl) ?_
        refine lv_imul B.1.1 B.1.2.1 dX10_span_177 ?_
        refine lv_bipush (v := 12) B.1.1 B.1.2.1 dX10_span_178 (by decide) ?_
        refine lv_iadd B.1.1 B.1.2.1 dX10_span_180 ?_
        obtain ⟨h8, v6, e7, hf⟩ := hy_ga_some hf
        refine hy_iald B w (mwq_29 G) h8 e7 dX10_span_181 ?_
        refine lv_goto (tgt := 195) B.1.1 B.1.2.1 dX10_span_182 (by decide) ?_
        exact bX10_span_195 hA B hR  hret _ _ _ _ _ _ hf w (lv_sub hl [0, 2] rfl)
    · rw [if_neg c1] at hf
      refine lv_iconst (v := 0) B.1.1 B.1.2.1 dX10_span_50 (by decide) ?_
      refine lv_istore (lv' := [(5, .int 0), (0, .ref (G.2.2.2.2.1 0)), (1, .int x1), (2, .int x2), (4, .int x4)]) B.1.1 B.1.2.1 dX10_span_51 hl (by decide) rfl (fun ls hl => ?_)
      exact bX10_span_53 hA B hR hk43 hret _ _ _ _ _ _ _ _ _ hf w (lv_sub hl [1, 2, 3, 4, 0] rfl)
set_option maxHeartbeats 4000000 in
set_option maxRecDepth 100000 in
theorem bX10_span_31 (hA : ∀ q : Nat, s.heap.size ≤ q → A q) (B : hy_B RX10 cX10_span 9 wsX10_span G A p s m args c) (hR : 3 ≤ R.frames ∧ 79 ≤ R.locals) {o : hy_S × Int32}  (hret : ∀ (σ : hy_S) (v : Int32) (pc : Nat) (H : Heap) (locs : List Loc) (ls : Array Slot), o = (σ, v) → hy_w mw G A s σ H locs → decode cX10_span pc = .ok (.ireturn, 1) → W p l e R s m args below meth c H locs 0 0 Q (F0 m pc ls [.int v])) (σ : hy_S) (s0 : Int32) (x1 : Int32) (x2 : Int32) (H : Heap) (locs : List Loc) (ls : Array Slot) (hf : fX10_span_31 σ s0 x1 x2 = some o) (w : hy_w mw G A s σ H locs) (hl : lv_has ls 9 [(0, .ref (G.2.2.2.2.1 0)), (1, .int x1), (2, .int x2)]) : W p l e R s m args below meth c H locs 0 0 Q (F0 m 31 ls [.int s0, .ref (G.2.2.2.2.1 0)]) := by
  unfold fX10_span_31 at hf
  refine lv_iconst (v := 2) B.1.1 B.1.2.1 dX10_span_31 (by decide) ?_
  obtain ⟨σ1, v2, h3, hf⟩ := hy_bd_some hf
  refine hy_cv (As := [.int s0, .int 2]) (rest := []) (o := (σ1, v2)) mw_fix hA B w (fun sz => mX10_throwsIf l G sz σ s0 2 _ h3) (cwV 2 B.1.2.2.2.2 gX10_span_X10_throwsIf rfl rfl rfl (by decide +kernel) ⟨by have := hR.1; show 0 + 1 ≤ _; omega, by have := hR.2; show 8 + (3 + 11) + 0 ≤ _; omega⟩) rfl (mwq_0 G σ) rfl hl.1 rfl (Nat.le_of_ble_eq_true rfl) dX10_span_32 ⟨Nat.zero_le _, Nat.zero_le _⟩ (fun H locs w => ?_)
  refine lv_if_eq (tgt := 40) B.1.1 B.1.2.1 dX10_span_35 (by decide) (fun c4 => ?_) (fun c4 => ?_)
  · rw [if_pos c4] at hf
    refine lv_iconst (v := 0) B.1.1 B.1.2.1 dX10_span_40 (by decide) ?_
    refine lv_istore (lv' := [(4, .int 0), (0, .ref (G.2.2.2.2.1 0)), (1, .int x1), (2, .int x2)]) B.1.1 B.1.2.1 dX10_span_41 hl (by decide) rfl (fun ls hl => ?_)
    exact bX10_span_43 hA B hR  hret _ _ _ _ _ _ _ _ hf w (lv_sub hl [1, 2, 3, 0] rfl)
  · rw [if_neg c4] at hf
    refine lv_iconst (v := 0) B.1.1 B.1.2.1 dX10_span_38 (by decide) ?_
    exact hret _ _ _ _ _ _ (Option.some.inj hf).symm w dX10_span_39
set_option maxHeartbeats 4000000 in
set_option maxRecDepth 100000 in
theorem bX10_span_0 (hA : ∀ q : Nat, s.heap.size ≤ q → A q) (B : hy_B RX10 cX10_span 9 wsX10_span G A p s m args c) (hR : 3 ≤ R.frames ∧ 79 ≤ R.locals) {o : hy_S × Int32}  (hret : ∀ (σ : hy_S) (v : Int32) (pc : Nat) (H : Heap) (locs : List Loc) (ls : Array Slot), o = (σ, v) → hy_w mw G A s σ H locs → decode cX10_span pc = .ok (.ireturn, 1) → W p l e R s m args below meth c H locs 0 0 Q (F0 m pc ls [.int v])) (σ : hy_S) (x1 : Int32) (x2 : Int32) (x3 : Int32) (H : Heap) (locs : List Loc) (ls : Array Slot) (hf : fX10_span σ x1 x2 x3 = some o) (w : hy_w mw G A s σ H locs) (hl : lv_has ls 9 [(0, .ref (G.2.2.2.2.1 0)), (1, .int x1), (2, .int x2), (3, .int x3)]) : W p l e R s m args below meth c H locs 0 0 Q (F0 m 0 ls []) := by
  unfold fX10_span at hf
  refine lv_aload_n B.1.1 B.1.2.1 dX10_span_0 rfl (lv_at hl 0 rfl) ?_
  refine lv_iconst (v := 0) B.1.1 B.1.2.1 dX10_span_1 (by decide) ?_
  obtain ⟨σ1, e2, hf⟩ := hy_pf_some hf
  refine hy_put (k := 0) B w (mwq_0 G) rfl in_X10_span_X10 tyX10 tyX10_ok nmX10 (by decide) (by decide +kernel) rfl rfl (by show 0 < 43; decide) (mwp_0 G) e2 dX10_span_2 (fun H locs w => ?_)
  refine lv_aload_n B.1.1 B.1.2.1 dX10_span_5 rfl (lv_at hl 0 rfl) ?_
  refine lv_iload_n B.1.1 B.1.2.1 dX10_span_6 rfl (lv_at hl 1 rfl) ?_
  obtain ⟨σ3, v4, h5, hf⟩ := hy_bd_some hf
  refine hy_cs (As := [.int x1]) (rest := [.ref (G.2.2.2.2.1 0)]) (o := (σ3, v4)) mw_fix hA B w (fun sz => mX10_noStamp l G sz σ1 x1 _ h5) (cwS 1 B.1.2.2.2.2 gX10_span_X10_noStamp rfl rfl rfl (by decide +kernel) ⟨by have := hR.1; show 1 + 1 ≤ _; omega, by have := hR.2; show 8 + (1 + 11) + 22 ≤ _; omega⟩) rfl hl.1 rfl (Nat.le_of_ble_eq_true rfl) dX10_span_7 ⟨Nat.zero_le _, Nat.zero_le _⟩ (fun H locs w => ?_)
  refine lv_iconst (v := 1) B.1.1 B.1.2.1 dX10_span_10 (by decide) ?_
  obtain ⟨σ6, v7, h8, hf⟩ := hy_bd_some hf
  refine hy_cv (As := [.int v4, .int 1]) (rest := []) (o := (σ6, v7)) mw_fix hA B w (fun sz => mX10_throwsIf l G sz σ3 v4 1 _ h8) (cwV 2 B.1.2.2.2.2 gX10_span_X10_throwsIf rfl rfl rfl (by decide +kernel) ⟨by have := hR.1; show 0 + 1 ≤ _; omega, by have := hR.2; show 8 + (3 + 11) + 0 ≤ _; omega⟩) rfl (mwq_0 G σ3) rfl hl.1 rfl (Nat.le_of_ble_eq_true rfl) dX10_span_11 ⟨Nat.zero_le _, Nat.zero_le _⟩ (fun H locs w => ?_)
  refine lv_if_ne (tgt := 38) B.1.1 B.1.2.1 dX10_span_14 (by decide) (fun c9 => ?_) (fun c9 => ?_)
  · rw [if_neg c9] at hf
    refine lv_iconst (v := 0) B.1.1 B.1.2.1 dX10_span_38 (by decide) ?_
    exact hret _ _ _ _ _ _ (Option.some.inj hf).symm w dX10_span_39
  · rw [if_pos c9] at hf
    refine lv_aload_n B.1.1 B.1.2.1 dX10_span_17 rfl (lv_at hl 0 rfl) ?_
    refine lv_aload_n B.1.1 B.1.2.1 dX10_span_18 rfl (lv_at hl 0 rfl) ?_
    refine lv_iload_n B.1.1 B.1.2.1 dX10_span_19 rfl (lv_at hl 3 rfl) ?_
    obtain ⟨σ10, v11, h12, hf⟩ := hy_bd_some hf
    refine hy_cv (As := [.int x3]) (rest := [.ref (G.2.2.2.2.1 0)]) (o := (σ10, v11)) mw_fix hA B w (fun sz => mX10_round l G sz σ6 x3 _ h12) (cwV 1 B.1.2.2.2.2 gX10_span_X10_round rfl rfl rfl (by decide +kernel) ⟨by have := hR.1; show 2 + 1 ≤ _; omega, by have := hR.2; show 8 + (7 + 11) + 53 ≤ _; omega⟩) rfl (mwq_0 G σ6) rfl hl.1 rfl (Nat.le_of_ble_eq_true rfl) dX10_span_20 ⟨Nat.zero_le _, Nat.zero_le _⟩ (fun H locs w => ?_)
    refine lv_if_le (tgt := 30) B.1.1 B.1.2.1 dX10_span_23 (by decide) (fun c13 => ?_) (fun c13 => ?_)
    · rw [if_pos c13] at hf
      refine lv_iconst (v := 0) B.1.1 B.1.2.1 dX10_span_30 (by decide) ?_
      exact bX10_span_31 hA B hR  hret _ _ _ _ _ _ _ hf w (lv_sub hl [0, 1, 2] rfl)
    · rw [if_neg c13] at hf
      refine lv_iconst (v := 1) B.1.1 B.1.2.1 dX10_span_26 (by decide) ?_
      refine lv_goto (tgt := 31) B.1.1 B.1.2.1 dX10_span_27 (by decide) ?_
      exact bX10_span_31 hA B hR  hret _ _ _ _ _ _ _ hf w (lv_sub hl [0, 1, 2] rfl)
set_option maxHeartbeats 4000000 in
set_option maxRecDepth 100000 in
theorem mX10_span (l : Launch) (G : hy_G) (sz : Nat) (σ : hy_S) (x1 : Int32) (x2 : Int32) (x3 : Int32) (o : hy_S × Int32) (hf : fX10_span σ x1 x2 x3 = some o) : hy_M l yX10_span wsX10_span ({ frames := 3, cells := 0, slots := 0, locals := 79 }) mw G σ sz [.ref (G.2.2.2.2.1 0), .int x1, .int x2, .int x3] o := by
  refine Met.ofW (cc := cX10_span) (maxL := 9) (ret := (some .int)) (by decide +kernel) rfl ?_
  intro p e s m args below meth c s₁ B hml hv
  obtain ⟨rfl, hsz, hP, hK, hD0, hN⟩ := hv
  have hx := B.exec
  have hb := B.bytes
  have hr := B.returns
  have hts := atoms_spec (ws := wsX10_span) B.pre
  have hown : s.vm.findClass RX10 = some m.cls := findClass_of_methodNamed B.named
  have hlocks := B.notSynchronized
  subst hsz
  have hD := hD0.self (sz := s.heap.size)
  have hA : ∀ q : Nat, s.heap.size ≤ q → va_A (mw G σ) s.heap.size q := fun q h => Or.inr h
  have hS : va_S (va_A (mw G σ) s.heap.size) s.heap s.heap [] := va_S.rf
  have hl := lv_entry ([.ref (G.2.2.2.2.1 0), .int x1, .int x2, .int x3]) (n := 9) (Nat.le_of_ble_eq_true rfl)
  rw [lg_entry_eq]
  generalize (lg_sl ([.ref (G.2.2.2.2.1 0), .int x1, .int x2, .int x3]) ++ List.replicate (9 - (lg_sl ([.ref (G.2.2.2.2.1 0), .int x1, .int x2, .int x3])).length) Slot.unset).toArray = ls at hl ⊢
  have hl : lv_has ls 9 [(0, .ref (G.2.2.2.2.1 0)), (1, .int x1), (2, .int x2), (3, .int x3)] := hl
  refine bX10_span_0 (A := va_A (mw G σ) s.heap.size) hA ⟨⟨hx, hb, hml, hown, hts⟩, hK, hN⟩ ⟨Nat.le_of_ble_eq_true rfl, Nat.le_of_ble_eq_true rfl⟩ (o := o) (fun τ v pc H locs ls ho w d => ?_) σ x1 x2 x3 _ _ _ hf ⟨hP, hD, hS⟩ hl
  exact W.iret hx hb hr (fun t ht hW => ⟨⟨v, τ, rfl, ⟨by rw [ho], by rw [ho]⟩, by have h9 := w.1; rw [← ht] at h9; exact h9⟩, w.2.2.F ht⟩) w.2.2.2.2 d
theorem in_X10_count_X10 : ∀ w ∈ u_ws RX10 TX10 43, w ∈ wsX10_count := fun _ h => xt1 (xr (h))
noncomputable def fX10_count_143 (k114 : hy_S → Int32 → Int32 → Option (hy_S × Int32)) (σ : hy_S) (s0 : Int32) (s1 : Int32) (x3 : Int32) : Option (hy_S × Int32) := k114 σ (s1 + s0) (x3 + 1)
noncomputable def fX10_count_114 : Nat → hy_S → Int32 → Int32 → Option (hy_S × Int32)
  | 0, _, _, _ => none
  | n + 1, σ, x2, x3 => (if (σ.2 2) ≤ x3 then some (σ, x2) else hy_ga σ 7 60 x3 (fun v2 => (if v2 = 3 then fX10_count_143 (fX10_count_114 n) σ 0 x2 x3 else hy_ga σ 6 60 x3 (fun v6 => fX10_count_143 (fX10_count_114 n) σ v6 x2 x3))))
noncomputable def fX10_count_102 (k76 : hy_S → Int32 → Int32 → Int32 → Option (hy_S × Int32)) (σ : hy_S) (s0 : Int32) (s1 : Int32) (x1 : Int32) (x3 : Int32) : Option (hy_S × Int32) := k76 σ x1 (s1 + s0) (x3 + 1)
noncomputable def fX10_count_76 : Nat → hy_S → Int32 → Int32 → Int32 → Option (hy_S × Int32)
  | 0, _, _, _, _ => none
  | n + 1, σ, x1, x2, x3 => (if (σ.2 2) ≤ x3 then some (σ, x2) else hy_ga σ 7 60 x3 (fun v2 => (if v2 = (x1 - 2) then fX10_count_102 (fX10_count_76 n) σ 1 x2 x1 x3 else fX10_count_102 (fX10_count_76 n) σ 0 x2 x1 x3)))
noncomputable def fX10_count (σ : hy_S) (x1 : Int32) : Option (hy_S × Int32) := hy_pf σ 0 0 (fun σ1 => (if x1 = 0 then some (σ1, (σ1.2 1)) else (if x1 = 1 then some (σ1, (σ1.2 2)) else (if x1 = 2 then fX10_count_76 hy_fu σ1 x1 0 0 else (if x1 = 3 then fX10_count_76 hy_fu σ1 x1 0 0 else (if x1 = 4 then fX10_count_76 hy_fu σ1 x1 0 0 else (if x1 = 5 then fX10_count_76 hy_fu σ1 x1 0 0 else (if x1 = 6 then fX10_count_114 hy_fu σ1 0 0 else (if x1 = 7 then some (σ1, (σ1.2 9)) else (if x1 = 8 then some (σ1, (σ1.2 10)) else (if x1 = 9 then some (σ1, (σ1.2 11)) else some (σ1, (-1)))))))))))))
set_option maxHeartbeats 4000000 in
set_option maxRecDepth 100000 in
theorem bX10_count_143 (hA : ∀ q : Nat, s.heap.size ≤ q → A q) (B : hy_B RX10 cX10_count 4 wsX10_count G A p s m args c) (hR : 0 ≤ R.frames ∧ 0 ≤ R.locals) {o : hy_S × Int32}  {k114 : hy_S → Int32 → Int32 → Option (hy_S × Int32)} (hk114 : ∀ (σ : hy_S) (x2 : Int32) (x3 : Int32) (H : Heap) (locs : List Loc) (ls : Array Slot), k114 σ x2 x3 = some o → hy_w mw G A s σ H locs → lv_has ls 4 [(0, .ref (G.2.2.2.2.1 0)), (2, .int x2), (3, .int x3)] → W p l e R s m args below meth c H locs 0 0 Q (F0 m 114 ls [])) (hret : ∀ (σ : hy_S) (v : Int32) (pc : Nat) (H : Heap) (locs : List Loc) (ls : Array Slot), o = (σ, v) → hy_w mw G A s σ H locs → decode cX10_count pc = .ok (.ireturn, 1) → W p l e R s m args below meth c H locs 0 0 Q (F0 m pc ls [.int v])) (σ : hy_S) (s0 : Int32) (s1 : Int32) (x3 : Int32) (H : Heap) (locs : List Loc) (ls : Array Slot) (hf : fX10_count_143 k114 σ s0 s1 x3 = some o) (w : hy_w mw G A s σ H locs) (hl : lv_has ls 4 [(0, .ref (G.2.2.2.2.1 0)), (3, .int x3)]) : W p l e R s m args below meth c H locs 0 0 Q (F0 m 143 ls [.int s0, .int s1]) := by
  unfold fX10_count_143 at hf
  refine lv_iadd B.1.1 B.1.2.1 dX10_count_143 ?_
  refine lv_istore_n (lv' := [(2, .int (s1 + s0)), (0, .ref (G.2.2.2.2.1 0)), (3, .int x3)]) B.1.1 B.1.2.1 dX10_count_144 rfl hl (by decide) rfl (fun ls hl => ?_)
  refine lv_iinc (v := (x3 + 1)) (lv' := [(3, .int (x3 + 1)), (2, .int (s1 + s0)), (0, .ref (G.2.2.2.2.1 0))]) B.1.1 B.1.2.1 dX10_count_145 hl (k := 2) rfl rfl (by decide) rfl (fun ls hl => ?_)
  refine lv_goto (tgt := 114) B.1.1 B.1.2.1 dX10_count_148 (by decide) ?_
  exact hk114 _ _ _ _ _ _ hf w (lv_sub hl [2, 1, 0] rfl)
set_option maxHeartbeats 4000000 in
set_option maxRecDepth 100000 in
theorem bX10_count_114 (hA : ∀ q : Nat, s.heap.size ≤ q → A q) (B : hy_B RX10 cX10_count 4 wsX10_count G A p s m args c) (hR : 0 ≤ R.frames ∧ 0 ≤ R.locals) {o : hy_S × Int32}  (hret : ∀ (σ : hy_S) (v : Int32) (pc : Nat) (H : Heap) (locs : List Loc) (ls : Array Slot), o = (σ, v) → hy_w mw G A s σ H locs → decode cX10_count pc = .ok (.ireturn, 1) → W p l e R s m args below meth c H locs 0 0 Q (F0 m pc ls [.int v])) : ∀ (n : Nat) (σ : hy_S) (x2 : Int32) (x3 : Int32) (H : Heap) (locs : List Loc) (ls : Array Slot), fX10_count_114 n σ x2 x3 = some o → hy_w mw G A s σ H locs → lv_has ls 4 [(0, .ref (G.2.2.2.2.1 0)), (2, .int x2), (3, .int x3)] → W p l e R s m args below meth c H locs 0 0 Q (F0 m 114 ls []) := by
  intro n
  induction n with
  | zero => intro σ x2 x3 H locs ls hf; cases hf
  | succ n hk114 =>
    intro σ x2 x3 H locs ls hf w hl
    unfold fX10_count_114 at hf
    refine lv_iload_n B.1.1 B.1.2.1 dX10_count_114 rfl (lv_at hl 2 rfl) ?_
    refine lv_aload_n B.1.1 B.1.2.1 dX10_count_115 rfl (lv_at hl 0 rfl) ?_
    refine hy_get (k := 11) (v := .int (σ.2 2)) B w (mwq_0 G) rfl in_X10_count_X10 (by decide) (by decide +kernel) rfl dX10_count_116 ?_
    refine lv_icmp_ge (tgt := 151) B.1.1 B.1.2.1 dX10_count_119 (by decide) (fun c1 => ?_) (fun c1 => ?_)
    · rw [if_pos c1] at hf
      refine lv_iload_n B.1.1 B.1.2.1 dX10_count_151 rfl (lv_at hl 1 rfl) ?_
      exact hret _ _ _ _ _ _ (Option.some.inj hf).symm w dX10_count_152
    · rw [if_neg c1] at hf
      refine lv_iload_n B.1.1 B.1.2.1 dX10_count_122 rfl (lv_at hl 1 rfl) ?_
      refine lv_aload_n B.1.1 B.1.2.1 dX10_count_123 rfl (lv_at hl 0 rfl) ?_
      refine hy_get (k := 9) (v := .ref (G.2.2.2.2.1 8)) B w (mwq_0 G) rfl in_X10_count_X10 (by decide) (by decide +kernel) rfl dX10_count_124 ?_
      refine lv_iload_n B.1.1 B.1.2.1 dX10_count_127 rfl (lv_at hl 2 rfl) ?_
      obtain ⟨h4, v2, e3, hf⟩ := hy_ga_some hf
      refine hy_iald B w (mwq_8 G) h4 e3 dX10_count_128 ?_
      refine lv_iconst (v := 3) B.1.1 B.1.2.1 dX10_count_129 (by decide) ?_
      refine lv_icmp_ne (tgt := 137) B.1.1 B.1.2.1 dX10_count_130 (by decide) (fun c5 => ?_) (fun c5 => ?_)
      · rw [if_neg c5] at hf
        refine lv_aload_n B.1.1 B.1.2.1 dX10_count_137 rfl (lv_at hl 0 rfl) ?_
        refine hy_get (k := 8) (v := .ref (G.2.2.2.2.1 7)) B w (mwq_0 G) rfl in_X10_count_X10 (by decide) (by decide +kernel) rfl dX10_count_138 ?_
        refine lv_iload_n B.1.1 B.1.2.1 dX10_count_141 rfl (lv_at hl 2 rfl) ?_
        obtain ⟨h8, v6, e7, hf⟩ := hy_ga_some hf
        refine hy_iald B w (mwq_7 G) h8 e7 dX10_count_142 ?_
        exact bX10_count_143 hA B hR hk114 hret _ _ _ _ _ _ _ hf w (lv_sub hl [0, 2] rfl)
      · rw [if_pos c5] at hf
        refine lv_iconst (v := 0) B.1.1 B.1.2.1 dX10_count_133 (by decide) ?_
        refine lv_goto (tgt := 143) B.1.1 B.1.2.1 dX10_count_134 (by decide) ?_
        exact bX10_count_143 hA B hR hk114 hret _ _ _ _ _ _ _ hf w (lv_sub hl [0, 2] rfl)
set_option maxHeartbeats 4000000 in
set_option maxRecDepth 100000 in
theorem bX10_count_102 (hA : ∀ q : Nat, s.heap.size ≤ q → A q) (B : hy_B RX10 cX10_count 4 wsX10_count G A p s m args c) (hR : 0 ≤ R.frames ∧ 0 ≤ R.locals) {o : hy_S × Int32}  {k76 : hy_S → Int32 → Int32 → Int32 → Option (hy_S × Int32)} (hk76 : ∀ (σ : hy_S) (x1 : Int32) (x2 : Int32) (x3 : Int32) (H : Heap) (locs : List Loc) (ls : Array Slot), k76 σ x1 x2 x3 = some o → hy_w mw G A s σ H locs → lv_has ls 4 [(0, .ref (G.2.2.2.2.1 0)), (1, .int x1), (2, .int x2), (3, .int x3)] → W p l e R s m args below meth c H locs 0 0 Q (F0 m 76 ls [])) (hret : ∀ (σ : hy_S) (v : Int32) (pc : Nat) (H : Heap) (locs : List Loc) (ls : Array Slot), o = (σ, v) → hy_w mw G A s σ H locs → decode cX10_count pc = .ok (.ireturn, 1) → W p l e R s m args below meth c H locs 0 0 Q (F0 m pc ls [.int v])) (σ : hy_S) (s0 : Int32) (s1 : Int32) (x1 : Int32) (x3 : Int32) (H : Heap) (locs : List Loc) (ls : Array Slot) (hf : fX10_count_102 k76 σ s0 s1 x1 x3 = some o) (w : hy_w mw G A s σ H locs) (hl : lv_has ls 4 [(0, .ref (G.2.2.2.2.1 0)), (1, .int x1), (3, .int x3)]) : W p l e R s m args below meth c H locs 0 0 Q (F0 m 102 ls [.int s0, .int s1]) := by
  unfold fX10_count_102 at hf
  refine lv_iadd B.1.1 B.1.2.1 dX10_count_102 ?_
  refine lv_istore_n (lv' := [(2, .int (s1 + s0)), (0, .ref (G.2.2.2.2.1 0)), (1, .int x1), (3, .int x3)]) B.1.1 B.1.2.1 dX10_count_103 rfl hl (by decide) rfl (fun ls hl => ?_)
  refine lv_iinc (v := (x3 + 1)) (lv' := [(3, .int (x3 + 1)), (2, .int (s1 + s0)), (0, .ref (G.2.2.2.2.1 0)), (1, .int x1)]) B.1.1 B.1.2.1 dX10_count_104 hl (k := 3) rfl rfl (by decide) rfl (fun ls hl => ?_)
  refine lv_goto (tgt := 76) B.1.1 B.1.2.1 dX10_count_107 (by decide) ?_
  exact hk76 _ _ _ _ _ _ _ hf w (lv_sub hl [2, 3, 1, 0] rfl)
set_option maxHeartbeats 4000000 in
set_option maxRecDepth 100000 in
theorem bX10_count_76 (hA : ∀ q : Nat, s.heap.size ≤ q → A q) (B : hy_B RX10 cX10_count 4 wsX10_count G A p s m args c) (hR : 0 ≤ R.frames ∧ 0 ≤ R.locals) {o : hy_S × Int32}  (hret : ∀ (σ : hy_S) (v : Int32) (pc : Nat) (H : Heap) (locs : List Loc) (ls : Array Slot), o = (σ, v) → hy_w mw G A s σ H locs → decode cX10_count pc = .ok (.ireturn, 1) → W p l e R s m args below meth c H locs 0 0 Q (F0 m pc ls [.int v])) : ∀ (n : Nat) (σ : hy_S) (x1 : Int32) (x2 : Int32) (x3 : Int32) (H : Heap) (locs : List Loc) (ls : Array Slot), fX10_count_76 n σ x1 x2 x3 = some o → hy_w mw G A s σ H locs → lv_has ls 4 [(0, .ref (G.2.2.2.2.1 0)), (1, .int x1), (2, .int x2), (3, .int x3)] → W p l e R s m args below meth c H locs 0 0 Q (F0 m 76 ls []) := by
  intro n
  induction n with
  | zero => intro σ x1 x2 x3 H locs ls hf; cases hf
  | succ n hk76 =>
    intro σ x1 x2 x3 H locs ls hf w hl
    unfold fX10_count_76 at hf
    refine lv_iload_n B.1.1 B.1.2.1 dX10_count_76 rfl (lv_at hl 3 rfl) ?_
    refine lv_aload_n B.1.1 B.1.2.1 dX10_count_77 rfl (lv_at hl 0 rfl) ?_
    refine hy_get (k := 11) (v := .int (σ.2 2)) B w (mwq_0 G) rfl in_X10_count_X10 (by decide) (by decide +kernel) rfl dX10_count_78 ?_
    refine lv_icmp_ge (tgt := 110) B.1.1 B.1.2.1 dX10_count_81 (by decide) (fun c1 => ?_) (fun c1 => ?_)
    · rw [if_pos c1] at hf
      refine lv_iload_n B.1.1 B.1.2.1 dX10_count_110 rfl (lv_at hl 2 rfl) ?_
      exact hret _ _ _ _ _ _ (Option.some.inj hf).symm w dX10_count_111
    · rw [if_neg c1] at hf
      refine lv_iload_n B.1.1 B.1.2.1 dX10_count_84 rfl (lv_at hl 2 rfl) ?_
      refine lv_aload_n B.1.1 B.1.2.1 dX10_count_85 rfl (lv_at hl 0 rfl) ?_
      refine hy_get (k := 9) (v := .ref (G.2.2.2.2.1 8)) B w (mwq_0 G) rfl in_X10_count_X10 (by decide) (by decide +kernel) rfl dX10_count_86 ?_
      refine lv_iload_n B.1.1 B.1.2.1 dX10_count_89 rfl (lv_at hl 3 rfl) ?_
      obtain ⟨h4, v2, e3, hf⟩ := hy_ga_some hf
      refine hy_iald B w (mwq_8 G) h4 e3 dX10_count_90 ?_
      refine lv_iload_n B.1.1 B.1.2.1 dX10_count_91 rfl (lv_at hl 1 rfl) ?_
      refine lv_iconst (v := 2) B.1.1 B.1.2.1 dX10_count_92 (by decide) ?_
      refine lv_isub B.1.1 B.1.2.1 dX10_count_93 ?_
      refine lv_icmp_ne (tgt := 101) B.1.1 B.1.2.1 dX10_count_94 (by decide) (fun c5 => ?_) (fun c5 => ?_)
      · rw [if_neg c5] at hf
        refine lv_iconst (v := 0) B.1.1 B.1.2.1 dX10_count_101 (by decide) ?_
        exact bX10_count_102 hA B hR hk76 hret _ _ _ _ _ _ _ _ hf w (lv_sub hl [0, 1, 3] rfl)
      · rw [if_pos c5] at hf
        refine lv_iconst (v := 1) B.1.1 B.1.2.1 dX10_count_97 (by decide) ?_
        refine lv_goto (tgt := 102) B.1.1 B.1.2.1 dX10_count_98 (by decide) ?_
        exact bX10_count_102 hA B hR hk76 hret _ _ _ _ _ _ _ _ hf w (lv_sub hl [0, 1, 3] rfl)
set_option maxHeartbeats 4000000 in
set_option maxRecDepth 100000 in
theorem bX10_count_0 (hA : ∀ q : Nat, s.heap.size ≤ q → A q) (B : hy_B RX10 cX10_count 4 wsX10_count G A p s m args c) (hR : 0 ≤ R.frames ∧ 0 ≤ R.locals) {o : hy_S × Int32}  (hret : ∀ (σ : hy_S) (v : Int32) (pc : Nat) (H : Heap) (locs : List Loc) (ls : Array Slot), o = (σ, v) → hy_w mw G A s σ H locs → decode cX10_count pc = .ok (.ireturn, 1) → W p l e R s m args below meth c H locs 0 0 Q (F0 m pc ls [.int v])) (σ : hy_S) (x1 : Int32) (H : Heap) (locs : List Loc) (ls : Array Slot) (hf : fX10_count σ x1 = some o) (w : hy_w mw G A s σ H locs) (hl : lv_has ls 4 [(0, .ref (G.2.2.2.2.1 0)), (1, .int x1)]) : W p l e R s m args below meth c H locs 0 0 Q (F0 m 0 ls []) := by
  unfold fX10_count at hf
  refine lv_aload_n B.1.1 B.1.2.1 dX10_count_0 rfl (lv_at hl 0 rfl) ?_
  refine lv_iconst (v := 0) B.1.1 B.1.2.1 dX10_count_1 (by decide) ?_
  obtain ⟨σ1, e2, hf⟩ := hy_pf_some hf
  refine hy_put (k := 0) B w (mwq_0 G) rfl in_X10_count_X10 tyX10 tyX10_ok nmX10 (by decide) (by decide +kernel) rfl rfl (by show 0 < 43; decide) (mwp_0 G) e2 dX10_count_2 (fun H locs w => ?_)
  refine lv_iconst (v := 0) B.1.1 B.1.2.1 dX10_count_5 (by decide) ?_
  refine lv_istore_n (lv' := [(2, .int 0), (0, .ref (G.2.2.2.2.1 0)), (1, .int x1)]) B.1.1 B.1.2.1 dX10_count_6 rfl hl (by decide) rfl (fun ls hl => ?_)
  refine lv_iload_n B.1.1 B.1.2.1 dX10_count_7 rfl (lv_at hl 2 rfl) ?_
  by_cases c3 : x1 = 0
  · rw [if_pos c3] at hf
    have c3e : Int32.toInt x1 = 0 := by rw [c3]; rfl
    refine lv_tableIn (tgt := 64) B.1.1 B.1.2.1 dX10_count_8 (by rw [c3e]; decide) (by rw [c3e]; decide) (by rw [c3e]; rfl) (by decide) ?_
    refine lv_aload_n B.1.1 B.1.2.1 dX10_count_64 rfl (lv_at hl 1 rfl) ?_
    refine hy_get (k := 4) (v := .int (σ1.2 1)) B w (mwq_0 G) rfl in_X10_count_X10 (by decide) (by decide +kernel) rfl dX10_count_65 ?_
    exact hret _ _ _ _ _ _ (Option.some.inj hf).symm w dX10_count_68
  · rw [if_neg c3] at hf
    by_cases c4 : x1 = 1
    · rw [if_pos c4] at hf
      have c4e : Int32.toInt x1 = 1 := by rw [c4]; rfl
      refine lv_tableIn (tgt := 69) B.1.1 B.1.2.1 dX10_count_8 (by rw [c4e]; decide) (by rw [c4e]; decide) (by rw [c4e]; rfl) (by decide) ?_
      refine lv_aload_n B.1.1 B.1.2.1 dX10_count_69 rfl (lv_at hl 1 rfl) ?_
      refine hy_get (k := 11) (v := .int (σ1.2 2)) B w (mwq_0 G) rfl in_X10_count_X10 (by decide) (by decide +kernel) rfl dX10_count_70 ?_
      exact hret _ _ _ _ _ _ (Option.some.inj hf).symm w dX10_count_73
    · rw [if_neg c4] at hf
      by_cases c5 : x1 = 2
      · rw [if_pos c5] at hf
        have c5e : Int32.toInt x1 = 2 := by rw [c5]; rfl
        refine lv_tableIn (tgt := 74) B.1.1 B.1.2.1 dX10_count_8 (by rw [c5e]; decide) (by rw [c5e]; decide) (by rw [c5e]; rfl) (by decide) ?_
        refine lv_iconst (v := 0) B.1.1 B.1.2.1 dX10_count_74 (by decide) ?_
        refine lv_istore_n (lv' := [(3, .int 0), (2, .int 0), (0, .ref (G.2.2.2.2.1 0)), (1, .int x1)]) B.1.1 B.1.2.1 dX10_count_75 rfl hl (by decide) rfl (fun ls hl => ?_)
        exact bX10_count_76 hA B hR  hret _ _ _ _ _ _ _ _ hf w (lv_sub hl [2, 3, 1, 0] rfl)
      · rw [if_neg c5] at hf
        by_cases c6 : x1 = 3
        · rw [if_pos c6] at hf
          have c6e : Int32.toInt x1 = 3 := by rw [c6]; rfl
          refine lv_tableIn (tgt := 74) B.1.1 B.1.2.1 dX10_count_8 (by rw [c6e]; decide) (by rw [c6e]; decide) (by rw [c6e]; rfl) (by decide) ?_
          refine lv_iconst (v := 0) B.1.1 B.1.2.1 dX10_count_74 (by decide) ?_
          refine lv_istore_n (lv' := [(3, .int 0), (2, .int 0), (0, .ref (G.2.2.2.2.1 0)), (1, .int x1)]) B.1.1 B.1.2.1 dX10_count_75 rfl hl (by decide) rfl (fun ls hl => ?_)
          exact bX10_count_76 hA B hR  hret _ _ _ _ _ _ _ _ hf w (lv_sub hl [2, 3, 1, 0] rfl)
        · rw [if_neg c6] at hf
          by_cases c7 : x1 = 4
          · rw [if_pos c7] at hf
            have c7e : Int32.toInt x1 = 4 := by rw [c7]; rfl
            refine lv_tableIn (tgt := 74) B.1.1 B.1.2.1 dX10_count_8 (by rw [c7e]; decide) (by rw [c7e]; decide) (by rw [c7e]; rfl) (by decide) ?_
            refine lv_iconst (v := 0) B.1.1 B.1.2.1 dX10_count_74 (by decide) ?_
            refine lv_istore_n (lv' := [(3, .int 0), (2, .int 0), (0, .ref (G.2.2.2.2.1 0)), (1, .int x1)]) B.1.1 B.1.2.1 dX10_count_75 rfl hl (by decide) rfl (fun ls hl => ?_)
            exact bX10_count_76 hA B hR  hret _ _ _ _ _ _ _ _ hf w (lv_sub hl [2, 3, 1, 0] rfl)
          · rw [if_neg c7] at hf
            by_cases c8 : x1 = 5
            · rw [if_pos c8] at hf
              have c8e : Int32.toInt x1 = 5 := by rw [c8]; rfl
              refine lv_tableIn (tgt := 74) B.1.1 B.1.2.1 dX10_count_8 (by rw [c8e]; decide) (by rw [c8e]; decide) (by rw [c8e]; rfl) (by decide) ?_
              refine lv_iconst (v := 0) B.1.1 B.1.2.1 dX10_count_74 (by decide) ?_
              refine lv_istore_n (lv' := [(3, .int 0), (2, .int 0), (0, .ref (G.2.2.2.2.1 0)), (1, .int x1)]) B.1.1 B.1.2.1 dX10_count_75 rfl hl (by decide) rfl (fun ls hl => ?_)
              exact bX10_count_76 hA B hR  hret _ _ _ _ _ _ _ _ hf w (lv_sub hl [2, 3, 1, 0] rfl)
            · rw [if_neg c8] at hf
              by_cases c9 : x1 = 6
              · rw [if_pos c9] at hf
                have c9e : Int32.toInt x1 = 6 := by rw [c9]; rfl
                refine lv_tableIn (tgt := 112) B.1.1 B.1.2.1 dX10_count_8 (by rw [c9e]; decide) (by rw [c9e]; decide) (by rw [c9e]; rfl) (by decide) ?_
                refine lv_iconst (v := 0) B.1.1 B.1.2.1 dX10_count_112 (by decide) ?_
                refine lv_istore_n (lv' := [(3, .int 0), (2, .int 0), (0, .ref (G.2.2.2.2.1 0)), (1, .int x1)]) B.1.1 B.1.2.1 dX10_count_113 rfl hl (by decide) rfl (fun ls hl => ?_)
                exact bX10_count_114 hA B hR  hret _ _ _ _ _ _ _ hf w (lv_sub hl [2, 1, 0] rfl)
              · rw [if_neg c9] at hf
                by_cases c10 : x1 = 7
                · rw [if_pos c10] at hf
                  have c10e : Int32.toInt x1 = 7 := by rw [c10]; rfl
                  refine lv_tableIn (tgt := 153) B.1.1 B.1.2.1 dX10_count_8 (by rw [c10e]; decide) (by rw [c10e]; decide) (by rw [c10e]; rfl) (by decide) ?_
                  refine lv_aload_n B.1.1 B.1.2.1 dX10_count_153 rfl (lv_at hl 1 rfl) ?_
                  refine hy_get (k := 32) (v := .int (σ1.2 9)) B w (mwq_0 G) rfl in_X10_count_X10 (by decide) (by decide +kernel) rfl dX10_count_154 ?_
                  exact hret _ _ _ _ _ _ (Option.some.inj hf).symm w dX10_count_157
                · rw [if_neg c10] at hf
                  by_cases c11 : x1 = 8
                  · rw [if_pos c11] at hf
                    have c11e : Int32.toInt x1 = 8 := by rw [c11]; rfl
                    refine lv_tableIn (tgt := 158) B.1.1 B.1.2.1 dX10_count_8 (by rw [c11e]; decide) (by rw [c11e]; decide) (by rw [c11e]; rfl) (by decide) ?_
                    refine lv_aload_n B.1.1 B.1.2.1 dX10_count_158 rfl (lv_at hl 1 rfl) ?_
                    refine hy_get (k := 38) (v := .int (σ1.2 10)) B w (mwq_0 G) rfl in_X10_count_X10 (by decide) (by decide +kernel) rfl dX10_count_159 ?_
                    exact hret _ _ _ _ _ _ (Option.some.inj hf).symm w dX10_count_162
                  · rw [if_neg c11] at hf
                    by_cases c12 : x1 = 9
                    · rw [if_pos c12] at hf
                      have c12e : Int32.toInt x1 = 9 := by rw [c12]; rfl
                      refine lv_tableIn (tgt := 163) B.1.1 B.1.2.1 dX10_count_8 (by rw [c12e]; decide) (by rw [c12e]; decide) (by rw [c12e]; rfl) (by decide) ?_
                      refine lv_aload_n B.1.1 B.1.2.1 dX10_count_163 rfl (lv_at hl 1 rfl) ?_
                      refine hy_get (k := 39) (v := .int (σ1.2 11)) B w (mwq_0 G) rfl in_X10_count_X10 (by decide) (by decide +kernel) rfl dX10_count_164 ?_
                      exact hret _ _ _ _ _ _ (Option.some.inj hf).symm w dX10_count_167
                    · rw [if_neg c12] at hf
                      have c3t := lv_neT (a := 0) c3 rfl
                      have c4t := lv_neT (a := 1) c4 rfl
                      have c5t := lv_neT (a := 2) c5 rfl
                      have c6t := lv_neT (a := 3) c6 rfl
                      have c7t := lv_neT (a := 4) c7 rfl
                      have c8t := lv_neT (a := 5) c8 rfl
                      have c9t := lv_neT (a := 6) c9 rfl
                      have c10t := lv_neT (a := 7) c10 rfl
                      have c11t := lv_neT (a := 8) c11 rfl
                      have c12t := lv_neT (a := 9) c12 rfl
                      refine lv_tableOut (tgt := 168) B.1.1 B.1.2.1 dX10_count_8 (by omega) (by decide) ?_
                      refine lv_iconst (v := (-1)) B.1.1 B.1.2.1 dX10_count_168 (by decide) ?_
                      exact hret _ _ _ _ _ _ (Option.some.inj hf).symm w dX10_count_169
set_option maxHeartbeats 4000000 in
set_option maxRecDepth 100000 in
theorem mX10_count (l : Launch) (G : hy_G) (sz : Nat) (σ : hy_S) (x1 : Int32) (o : hy_S × Int32) (hf : fX10_count σ x1 = some o) : hy_M l yX10_count wsX10_count ({ frames := 0, cells := 0, slots := 0, locals := 0 }) mw G σ sz [.ref (G.2.2.2.2.1 0), .int x1] o := by
  refine Met.ofW (cc := cX10_count) (maxL := 4) (ret := (some .int)) (by decide +kernel) rfl ?_
  intro p e s m args below meth c s₁ B hml hv
  obtain ⟨rfl, hsz, hP, hK, hD0, hN⟩ := hv
  have hx := B.exec
  have hb := B.bytes
  have hr := B.returns
  have hts := atoms_spec (ws := wsX10_count) B.pre
  have hown : s.vm.findClass RX10 = some m.cls := findClass_of_methodNamed B.named
  have hlocks := B.notSynchronized
  subst hsz
  have hD := hD0.self (sz := s.heap.size)
  have hA : ∀ q : Nat, s.heap.size ≤ q → va_A (mw G σ) s.heap.size q := fun q h => Or.inr h
  have hS : va_S (va_A (mw G σ) s.heap.size) s.heap s.heap [] := va_S.rf
  have hl := lv_entry ([.ref (G.2.2.2.2.1 0), .int x1]) (n := 4) (Nat.le_of_ble_eq_true rfl)
  rw [lg_entry_eq]
  generalize (lg_sl ([.ref (G.2.2.2.2.1 0), .int x1]) ++ List.replicate (4 - (lg_sl ([.ref (G.2.2.2.2.1 0), .int x1])).length) Slot.unset).toArray = ls at hl ⊢
  have hl : lv_has ls 4 [(0, .ref (G.2.2.2.2.1 0)), (1, .int x1)] := hl
  refine bX10_count_0 (A := va_A (mw G σ) s.heap.size) hA ⟨⟨hx, hb, hml, hown, hts⟩, hK, hN⟩ ⟨Nat.le_of_ble_eq_true rfl, Nat.le_of_ble_eq_true rfl⟩ (o := o) (fun τ v pc H locs ls ho w d => ?_) σ x1 _ _ _ hf ⟨hP, hD, hS⟩ hl
  exact W.iret hx hb hr (fun t ht hW => ⟨⟨v, τ, rfl, ⟨by rw [ho], by rw [ho]⟩, by have h9 := w.1; rw [← ht] at h9; exact h9⟩, w.2.2.F ht⟩) w.2.2.2.2 d
end HM4
