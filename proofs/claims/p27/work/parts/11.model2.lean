section HM2
variable {p : Program} {l : Launch} {e : Env} {R : Room} {s : State} {m : MethodId} {args : Array Value} {below : List Frame} {meth : Method} {c : Code} {Q : State → Prop} {G : hy_G} {A : Nat → Prop} {Qc : Array Value → State → Outcome → State → Prop}
theorem in_X10_meets_X10 : ∀ w ∈ u_ws RX10 TX10 43, w ∈ wsX10_meets := fun _ h => xt1 (xr (h))
noncomputable def fX10_meets_153 (k87 : hy_S → Int32 → Int32 → Int32 → Int32 → Option (hy_S × Int32)) (σ : hy_S) (x1 : Int32) (x3 : Int32) (x4 : Int32) (x5 : Int32) : Option (hy_S × Int32) := k87 σ x1 x3 x4 (x5 + 1)
noncomputable def fX10_meets_87 : Nat → hy_S → Int32 → Int32 → Int32 → Int32 → Option (hy_S × Int32)
  | 0, _, _, _, _, _ => none
  | n + 1, σ, x1, x3, x4, x5 => (if x4 ≤ x5 then hy_pa σ 10 24 x1 x3 (fun σ2 => some (σ2, (x4 - x3))) else hy_ga σ 9 240 ((10 * x1) + x5) (fun v5 => hy_ga σ 11 10 x5 (fun v8 => (if v8 = 0 then hy_pa σ 9 240 ((10 * x1) + x3) v5 (fun σ12 => fX10_meets_153 (fX10_meets_87 n) σ12 x1 (x3 + 1) x4 x5) else hy_pa σ 7 60 v5 3 (fun σ15 => hy_pa σ15 8 60 v5 (-1) (fun σ18 => fX10_meets_153 (fX10_meets_87 n) σ18 x1 x3 x4 x5))))))
noncomputable def fX10_meets_67 (k2 : hy_S → Int32 → Int32 → Int32 → Option (hy_S × Int32)) (σ : hy_S) (s0 : Int32) (s1 : Int32) (x1 : Int32) (x2 : Int32) (x3 : Int32) : Option (hy_S × Int32) := hy_pa σ 11 10 s1 (vp_nar .boolean s0) (fun σ1 => k2 σ1 x1 x2 (x3 + 1))
noncomputable def fX10_meets_2 : Nat → hy_S → Int32 → Int32 → Int32 → Option (hy_S × Int32)
  | 0, _, _, _, _ => none
  | n + 1, σ, x1, x2, x3 => hy_ga σ 10 24 x1 (fun v1 => (if v1 ≤ x3 then hy_ga σ 10 24 x1 (fun v5 => fX10_meets_87 hy_fu σ x1 0 v5 0) else hy_ga σ 9 240 ((10 * x1) + x3) (fun v8 => hy_ga σ 3 60 v8 (fun v11 => hy_ga σ 2 8 v11 (fun v14 => hy_bd (fX10_above σ x1 x3) (fun σ17 v18 => (if v18 ≤ (v14 - (((v14 * x2) + 99) / 100)) then fX10_meets_67 (fX10_meets_2 n) σ17 0 x3 x1 x2 x3 else fX10_meets_67 (fX10_meets_2 n) σ17 1 x3 x1 x2 x3)))))))
noncomputable def fX10_meets (σ : hy_S) (x1 : Int32) (x2 : Int32) : Option (hy_S × Int32) := fX10_meets_2 hy_fu σ x1 x2 0
set_option maxHeartbeats 4000000 in
set_option maxRecDepth 100000 in
theorem bX10_meets_153 (hA : ∀ q : Nat, s.heap.size ≤ q → A q) (B : hy_B RX10 cX10_meets 7 wsX10_meets G A p s m args c) (hR : 2 ≤ R.frames ∧ 45 ≤ R.locals) {o : hy_S × Int32}  {k87 : hy_S → Int32 → Int32 → Int32 → Int32 → Option (hy_S × Int32)} (hk87 : ∀ (σ : hy_S) (x1 : Int32) (x3 : Int32) (x4 : Int32) (x5 : Int32) (H : Heap) (locs : List Loc) (ls : Array Slot), k87 σ x1 x3 x4 x5 = some o → hy_w mw G A s σ H locs → lv_has ls 7 [(0, .ref (G.2.2.2.2.1 0)), (1, .int x1), (3, .int x3), (4, .int x4), (5, .int x5)] → W p l e R s m args below meth c H locs 0 0 Q (F0 m 87 ls [])) (hret : ∀ (σ : hy_S) (v : Int32) (pc : Nat) (H : Heap) (locs : List Loc) (ls : Array Slot), o = (σ, v) → hy_w mw G A s σ H locs → decode cX10_meets pc = .ok (.ireturn, 1) → W p l e R s m args below meth c H locs 0 0 Q (F0 m pc ls [.int v])) (σ : hy_S) (x1 : Int32) (x3 : Int32) (x4 : Int32) (x5 : Int32) (H : Heap) (locs : List Loc) (ls : Array Slot) (hf : fX10_meets_153 k87 σ x1 x3 x4 x5 = some o) (w : hy_w mw G A s σ H locs) (hl : lv_has ls 7 [(0, .ref (G.2.2.2.2.1 0)), (1, .int x1), (3, .int x3), (4, .int x4), (5, .int x5)]) : W p l e R s m args below meth c H locs 0 0 Q (F0 m 153 ls []) := by
  unfold fX10_meets_153 at hf
  refine lv_iinc (v := (x5 + 1)) (lv' := [(5, .int (x5 + 1)), (0, .ref (G.2.2.2.2.1 0)), (1, .int x1), (3, .int x3), (4, .int x4)]) B.1.1 B.1.2.1 dX10_meets_153 hl (k := 4) rfl rfl (by decide) rfl (fun ls hl => ?_)
  refine lv_goto (tgt := 87) B.1.1 B.1.2.1 dX10_meets_156 (by decide) ?_
  exact hk87 _ _ _ _ _ _ _ _ hf w (lv_sub hl [1, 2, 3, 4, 0] rfl)
set_option maxHeartbeats 4000000 in
set_option maxRecDepth 100000 in
theorem bX10_meets_87 (hA : ∀ q : Nat, s.heap.size ≤ q → A q) (B : hy_B RX10 cX10_meets 7 wsX10_meets G A p s m args c) (hR : 2 ≤ R.frames ∧ 45 ≤ R.locals) {o : hy_S × Int32}  (hret : ∀ (σ : hy_S) (v : Int32) (pc : Nat) (H : Heap) (locs : List Loc) (ls : Array Slot), o = (σ, v) → hy_w mw G A s σ H locs → decode cX10_meets pc = .ok (.ireturn, 1) → W p l e R s m args below meth c H locs 0 0 Q (F0 m pc ls [.int v])) : ∀ (n : Nat) (σ : hy_S) (x1 : Int32) (x3 : Int32) (x4 : Int32) (x5 : Int32) (H : Heap) (locs : List Loc) (ls : Array Slot), fX10_meets_87 n σ x1 x3 x4 x5 = some o → hy_w mw G A s σ H locs → lv_has ls 7 [(0, .ref (G.2.2.2.2.1 0)), (1, .int x1), (3, .int x3), (4, .int x4), (5, .int x5)] → W p l e R s m args below meth c H locs 0 0 Q (F0 m 87 ls []) := by
  intro n
  induction n with
  | zero => intro σ x1 x3 x4 x5 H locs ls hf; cases hf
  | succ n hk87 =>
    intro σ x1 x3 x4 x5 H locs ls hf w hl
    unfold fX10_meets_87 at hf
    refine lv_iload B.1.1 B.1.2.1 dX10_meets_87 (lv_at hl 4 rfl) ?_
    refine lv_iload B.1.1 B.1.2.1 dX10_meets_89 (lv_at hl 3 rfl) ?_
    refine lv_icmp_ge (tgt := 159) B.1.1 B.1.2.1 dX10_meets_91 (by decide) (fun c1 => ?_) (fun c1 => ?_)
    · rw [if_pos c1] at hf
      refine lv_aload_n B.1.1 B.1.2.1 dX10_meets_159 rfl (lv_at hl 0 rfl) ?_
      refine hy_get (k := 13) (v := .ref (G.2.2.2.2.1 11)) B w (mwq_0 G) rfl in_X10_meets_X10 (by decide) (by decide +kernel) rfl dX10_meets_160 ?_
      refine lv_iload_n B.1.1 B.1.2.1 dX10_meets_163 rfl (lv_at hl 1 rfl) ?_
      refine lv_iload_n B.1.1 B.1.2.1 dX10_meets_164 rfl (lv_at hl 2 rfl) ?_
      obtain ⟨h4, σ2, e3, hf⟩ := hy_pa_some hf
      refine hy_iast B w (mwq_11 G) (mws_11 G) h4 e3 dX10_meets_165 (fun H locs w => ?_)
      refine lv_iload B.1.1 B.1.2.1 dX10_meets_166 (lv_at hl 3 rfl) ?_
      refine lv_iload_n B.1.1 B.1.2.1 dX10_meets_168 rfl (lv_at hl 2 rfl) ?_
      refine lv_isub B.1.1 B.1.2.1 dX10_meets_169 ?_
      exact hret _ _ _ _ _ _ (Option.some.inj hf).symm w dX10_meets_170
    · rw [if_neg c1] at hf
      refine lv_aload_n B.1.1 B.1.2.1 dX10_meets_94 rfl (lv_at hl 0 rfl) ?_
      refine hy_get (k := 12) (v := .ref (G.2.2.2.2.1 10)) B w (mwq_0 G) rfl in_X10_meets_X10 (by decide) (by decide +kernel) rfl dX10_meets_95 ?_
      refine lv_bipush (v := 10) B.1.1 B.1.2.1 dX10_meets_98 (by decide) ?_
      refine lv_iload_n B.1.1 B.1.2.1 dX10_meets_100 rfl (lv_at hl 1 rfl) ?_
      refine lv_imul B.1.1 B.1.2.1 dX10_meets_101 ?_
      refine lv_iload B.1.1 B.1.2.1 dX10_meets_102 (lv_at hl 4 rfl) ?_
      refine lv_iadd B.1.1 B.1.2.1 dX10_meets_104 ?_
      obtain ⟨h7, v5, e6, hf⟩ := hy_ga_some hf
      refine hy_iald B w (mwq_10 G) h7 e6 dX10_meets_105 ?_
      refine lv_istore (lv' := [(6, .int v5), (0, .ref (G.2.2.2.2.1 0)), (1, .int x1), (3, .int x3), (4, .int x4), (5, .int x5)]) B.1.1 B.1.2.1 dX10_meets_106 hl (by decide) rfl (fun ls hl => ?_)
      refine lv_aload_n B.1.1 B.1.2.1 dX10_meets_108 rfl (lv_at hl 1 rfl) ?_
      refine hy_get (k := 15) (v := .ref (G.2.2.2.2.1 12)) B w (mwq_0 G) rfl in_X10_meets_X10 (by decide) (by decide +kernel) rfl dX10_meets_109 ?_
      refine lv_iload B.1.1 B.1.2.1 dX10_meets_112 (lv_at hl 5 rfl) ?_
      obtain ⟨h10, v8, e9, hf⟩ := hy_ga_some hf
      refine hy_zald B w (mwq_12 G) h10 e9 dX10_meets_114 ?_
      refine lv_if_eq (tgt := 137) B.1.1 B.1.2.1 dX10_meets_115 (by decide) (fun c11 => ?_) (fun c11 => ?_)
      · rw [if_pos c11] at hf
        refine lv_aload_n B.1.1 B.1.2.1 dX10_meets_137 rfl (lv_at hl 1 rfl) ?_
        refine hy_get (k := 12) (v := .ref (G.2.2.2.2.1 10)) B w (mwq_0 G) rfl in_X10_meets_X10 (by decide) (by decide +kernel) rfl dX10_meets_138 ?_
        refine lv_bipush (v := 10) B.1.1 B.1.2.1 dX10_meets_141 (by decide) ?_
        refine lv_iload_n B.1.1 B.1.2.1 dX10_meets_143 rfl (lv_at hl 2 rfl) ?_
        refine lv_imul B.1.1 B.1.2.1 dX10_meets_144 ?_
        refine lv_iload_n B.1.1 B.1.2.1 dX10_meets_145 rfl (lv_at hl 3 rfl) ?_
        refine lv_iadd B.1.1 B.1.2.1 dX10_meets_146 ?_
        refine lv_iload B.1.1 B.1.2.1 dX10_meets_147 (lv_at hl 0 rfl) ?_
        obtain ⟨h14, σ12, e13, hf⟩ := hy_pa_some hf
        refine hy_iast B w (mwq_10 G) (mws_10 G) h14 e13 dX10_meets_149 (fun H locs w => ?_)
        refine lv_iinc (v := (x3 + 1)) (lv' := [(3, .int (x3 + 1)), (6, .int v5), (0, .ref (G.2.2.2.2.1 0)), (1, .int x1), (4, .int x4), (5, .int x5)]) B.1.1 B.1.2.1 dX10_meets_150 hl (k := 3) rfl rfl (by decide) rfl (fun ls hl => ?_)
        exact bX10_meets_153 hA B hR hk87 hret _ _ _ _ _ _ _ _ hf w (lv_sub hl [2, 3, 0, 4, 5] rfl)
      · rw [if_neg c11] at hf
        refine lv_aload_n B.1.1 B.1.2.1 dX10_meets_118 rfl (lv_at hl 1 rfl) ?_
        refine hy_get (k := 9) (v := .ref (G.2.2.2.2.1 8)) B w (mwq_0 G) rfl in_X10_meets_X10 (by decide) (by decide +kernel) rfl dX10_meets_119 ?_
        refine lv_iload B.1.1 B.1.2.1 dX10_meets_122 (lv_at hl 0 rfl) ?_
        refine lv_iconst (v := 3) B.1.1 B.1.2.1 dX10_meets_124 (by decide) ?_
        obtain ⟨h17, σ15, e16, hf⟩ := hy_pa_some hf
        refine hy_iast B w (mwq_8 G) (mws_8 G) h17 e16 dX10_meets_125 (fun H locs w => ?_)
        refine lv_aload_n B.1.1 B.1.2.1 dX10_meets_126 rfl (lv_at hl 1 rfl) ?_
        refine hy_get (k := 10) (v := .ref (G.2.2.2.2.1 9)) B w (mwq_0 G) rfl in_X10_meets_X10 (by decide) (by decide +kernel) rfl dX10_meets_127 ?_
        refine lv_iload B.1.1 B.1.2.1 dX10_meets_130 (lv_at hl 0 rfl) ?_
        refine lv_iconst (v := (-1)) B.1.1 B.1.2.1 dX10_meets_132 (by decide) ?_
        obtain ⟨h20, σ18, e19, hf⟩ := hy_pa_some hf
        refine hy_iast B w (mwq_9 G) (mws_9 G) h20 e19 dX10_meets_133 (fun H locs w => ?_)
        refine lv_goto (tgt := 153) B.1.1 B.1.2.1 dX10_meets_134 (by decide) ?_
        exact bX10_meets_153 hA B hR hk87 hret _ _ _ _ _ _ _ _ hf w (lv_sub hl [1, 2, 3, 4, 5] rfl)
set_option maxHeartbeats 4000000 in
set_option maxRecDepth 100000 in
theorem bX10_meets_67 (hA : ∀ q : Nat, s.heap.size ≤ q → A q) (B : hy_B RX10 cX10_meets 7 wsX10_meets G A p s m args c) (hR : 2 ≤ R.frames ∧ 45 ≤ R.locals) {o : hy_S × Int32}  {k2 : hy_S → Int32 → Int32 → Int32 → Option (hy_S × Int32)} (hk2 : ∀ (σ : hy_S) (x1 : Int32) (x2 : Int32) (x3 : Int32) (H : Heap) (locs : List Loc) (ls : Array Slot), k2 σ x1 x2 x3 = some o → hy_w mw G A s σ H locs → lv_has ls 7 [(0, .ref (G.2.2.2.2.1 0)), (1, .int x1), (2, .int x2), (3, .int x3)] → W p l e R s m args below meth c H locs 0 0 Q (F0 m 2 ls [])) (hret : ∀ (σ : hy_S) (v : Int32) (pc : Nat) (H : Heap) (locs : List Loc) (ls : Array Slot), o = (σ, v) → hy_w mw G A s σ H locs → decode cX10_meets pc = .ok (.ireturn, 1) → W p l e R s m args below meth c H locs 0 0 Q (F0 m pc ls [.int v])) (σ : hy_S) (s0 : Int32) (s1 : Int32) (x1 : Int32) (x2 : Int32) (x3 : Int32) (H : Heap) (locs : List Loc) (ls : Array Slot) (hf : fX10_meets_67 k2 σ s0 s1 x1 x2 x3 = some o) (w : hy_w mw G A s σ H locs) (hl : lv_has ls 7 [(0, .ref (G.2.2.2.2.1 0)), (1, .int x1), (2, .int x2), (3, .int x3)]) : W p l e R s m args below meth c H locs 0 0 Q (F0 m 67 ls [.int s0, .int s1, .ref (G.2.2.2.2.1 12)]) := by
  unfold fX10_meets_67 at hf
  obtain ⟨h3, σ1, e2, hf⟩ := hy_pa_some hf
  refine hy_zast B w (mwq_12 G) (mws_12 G) h3 e2 dX10_meets_67 (fun H locs w => ?_)
  refine lv_iinc (v := (x3 + 1)) (lv' := [(3, .int (x3 + 1)), (0, .ref (G.2.2.2.2.1 0)), (1, .int x1), (2, .int x2)]) B.1.1 B.1.2.1 dX10_meets_68 hl (k := 3) rfl rfl (by decide) rfl (fun ls hl => ?_)
  refine lv_goto (tgt := 2) B.1.1 B.1.2.1 dX10_meets_71 (by decide) ?_
  exact hk2 _ _ _ _ _ _ _ hf w (lv_sub hl [1, 2, 3, 0] rfl)
set_option maxHeartbeats 4000000 in
set_option maxRecDepth 100000 in
theorem bX10_meets_2 (hA : ∀ q : Nat, s.heap.size ≤ q → A q) (B : hy_B RX10 cX10_meets 7 wsX10_meets G A p s m args c) (hR : 2 ≤ R.frames ∧ 45 ≤ R.locals) {o : hy_S × Int32}  (hret : ∀ (σ : hy_S) (v : Int32) (pc : Nat) (H : Heap) (locs : List Loc) (ls : Array Slot), o = (σ, v) → hy_w mw G A s σ H locs → decode cX10_meets pc = .ok (.ireturn, 1) → W p l e R s m args below meth c H locs 0 0 Q (F0 m pc ls [.int v])) : ∀ (n : Nat) (σ : hy_S) (x1 : Int32) (x2 : Int32) (x3 : Int32) (H : Heap) (locs : List Loc) (ls : Array Slot), fX10_meets_2 n σ x1 x2 x3 = some o → hy_w mw G A s σ H locs → lv_has ls 7 [(0, .ref (G.2.2.2.2.1 0)), (1, .int x1), (2, .int x2), (3, .int x3)] → W p l e R s m args below meth c H locs 0 0 Q (F0 m 2 ls []) := by
  intro n
  induction n with
  | zero => intro σ x1 x2 x3 H locs ls hf; cases hf
  | succ n hk2 =>
    intro σ x1 x2 x3 H locs ls hf w hl
    unfold fX10_meets_2 at hf
    refine lv_iload_n B.1.1 B.1.2.1 dX10_meets_2 rfl (lv_at hl 3 rfl) ?_
    refine lv_aload_n B.1.1 B.1.2.1 dX10_meets_3 rfl (lv_at hl 0 rfl) ?_
    refine hy_get (k := 13) (v := .ref (G.2.2.2.2.1 11)) B w (mwq_0 G) rfl in_X10_meets_X10 (by decide) (by decide +kernel) rfl dX10_meets_4 ?_
    refine lv_iload_n B.1.1 B.1.2.1 dX10_meets_7 rfl (lv_at hl 1 rfl) ?_
    obtain ⟨h3, v1, e2, hf⟩ := hy_ga_some hf
    refine hy_iald B w (mwq_11 G) h3 e2 dX10_meets_8 ?_
    refine lv_icmp_ge (tgt := 74) B.1.1 B.1.2.1 dX10_meets_9 (by decide) (fun c4 => ?_) (fun c4 => ?_)
    · rw [if_pos c4] at hf
      refine lv_iconst (v := 0) B.1.1 B.1.2.1 dX10_meets_74 (by decide) ?_
      refine lv_istore_n (lv' := [(3, .int 0), (0, .ref (G.2.2.2.2.1 0)), (1, .int x1), (2, .int x2)]) B.1.1 B.1.2.1 dX10_meets_75 rfl hl (by decide) rfl (fun ls hl => ?_)
      refine lv_aload_n B.1.1 B.1.2.1 dX10_meets_76 rfl (lv_at hl 1 rfl) ?_
      refine hy_get (k := 13) (v := .ref (G.2.2.2.2.1 11)) B w (mwq_0 G) rfl in_X10_meets_X10 (by decide) (by decide +kernel) rfl dX10_meets_77 ?_
      refine lv_iload_n B.1.1 B.1.2.1 dX10_meets_80 rfl (lv_at hl 2 rfl) ?_
      obtain ⟨h7, v5, e6, hf⟩ := hy_ga_some hf
      refine hy_iald B w (mwq_11 G) h7 e6 dX10_meets_81 ?_
      refine lv_istore (lv' := [(4, .int v5), (3, .int 0), (0, .ref (G.2.2.2.2.1 0)), (1, .int x1), (2, .int x2)]) B.1.1 B.1.2.1 dX10_meets_82 hl (by decide) rfl (fun ls hl => ?_)
      refine lv_iconst (v := 0) B.1.1 B.1.2.1 dX10_meets_84 (by decide) ?_
      refine lv_istore (lv' := [(5, .int 0), (4, .int v5), (3, .int 0), (0, .ref (G.2.2.2.2.1 0)), (1, .int x1), (2, .int x2)]) B.1.1 B.1.2.1 dX10_meets_85 hl (by decide) rfl (fun ls hl => ?_)
      exact bX10_meets_87 hA B hR  hret _ _ _ _ _ _ _ _ _ hf w (lv_sub hl [3, 4, 2, 1, 0] rfl)
    · rw [if_neg c4] at hf
      refine lv_aload_n B.1.1 B.1.2.1 dX10_meets_12 rfl (lv_at hl 0 rfl) ?_
      refine hy_get (k := 3) (v := .ref (G.2.2.2.2.1 3)) B w (mwq_0 G) rfl in_X10_meets_X10 (by decide) (by decide +kernel) rfl dX10_meets_13 ?_
      refine lv_aload_n B.1.1 B.1.2.1 dX10_meets_16 rfl (lv_at hl 0 rfl) ?_
      refine hy_get (k := 5) (v := .ref (G.2.2.2.2.1 4)) B w (mwq_0 G) rfl in_X10_meets_X10 (by decide) (by decide +kernel) rfl dX10_meets_17 ?_
      refine lv_aload_n B.1.1 B.1.2.1 dX10_meets_20 rfl (lv_at hl 0 rfl) ?_
      refine hy_get (k := 12) (v := .ref (G.2.2.2.2.1 10)) B w (mwq_0 G) rfl in_X10_meets_X10 (by decide) (by decide +kernel) rfl dX10_meets_21 ?_
      refine lv_bipush (v := 10) B.1.1 B.1.2.1 dX10_meets_24 (by decide) ?_
      refine lv_iload_n B.1.1 B.1.2.1 dX10_meets_26 rfl (lv_at hl 1 rfl) ?_
      refine lv_imul B.1.1 B.1.2.1 dX10_meets_27 ?_
      refine lv_iload_n B.1.1 B.1.2.1 dX10_meets_28 rfl (lv_at hl 3 rfl) ?_
      refine lv_iadd B.1.1 B.1.2.1 dX10_meets_29 ?_
      obtain ⟨h10, v8, e9, hf⟩ := hy_ga_some hf
      refine hy_iald B w (mwq_10 G) h10 e9 dX10_meets_30 ?_
      obtain ⟨h13, v11, e12, hf⟩ := hy_ga_some hf
      refine hy_iald B w (mwq_4 G) h13 e12 dX10_meets_31 ?_
      obtain ⟨h16, v14, e15, hf⟩ := hy_ga_some hf
      refine hy_iald B w (mwq_3 G) h16 e15 dX10_meets_32 ?_
      refine lv_istore (lv' := [(4, .int v14), (0, .ref (G.2.2.2.2.1 0)), (1, .int x1), (2, .int x2), (3, .int x3)]) B.1.1 B.1.2.1 dX10_meets_33 hl (by decide) rfl (fun ls hl => ?_)
      refine lv_aload_n B.1.1 B.1.2.1 dX10_meets_35 rfl (lv_at hl 1 rfl) ?_
      refine hy_get (k := 15) (v := .ref (G.2.2.2.2.1 12)) B w (mwq_0 G) rfl in_X10_meets_X10 (by decide) (by decide +kernel) rfl dX10_meets_36 ?_
      refine lv_iload_n B.1.1 B.1.2.1 dX10_meets_39 rfl (lv_at hl 4 rfl) ?_
      refine lv_aload_n B.1.1 B.1.2.1 dX10_meets_40 rfl (lv_at hl 1 rfl) ?_
      refine lv_iload_n B.1.1 B.1.2.1 dX10_meets_41 rfl (lv_at hl 2 rfl) ?_
      refine lv_iload_n B.1.1 B.1.2.1 dX10_meets_42 rfl (lv_at hl 4 rfl) ?_
      obtain ⟨σ17, v18, h19, hf⟩ := hy_bd_some hf
      refine hy_cv (As := [.int x1, .int x3]) (rest := [.int x3, .ref (G.2.2.2.2.1 12)]) (o := (σ17, v18)) mw_fix hA B w (fun sz => mX10_above l G sz σ x1 x3 _ h19) (cwV 2 B.1.2.2.2.2 gX10_meets_X10_above rfl rfl rfl (by decide +kernel) ⟨by have := hR.1; show 1 + 1 ≤ _; omega, by have := hR.2; show 8 + (5 + 11) + 21 ≤ _; omega⟩) rfl (mwq_0 G σ) rfl hl.1 rfl (Nat.le_of_ble_eq_true rfl) dX10_meets_43 ⟨Nat.zero_le _, Nat.zero_le _⟩ (fun H locs w => ?_)
      refine lv_iload B.1.1 B.1.2.1 dX10_meets_46 (lv_at hl 0 rfl) ?_
      refine lv_iload B.1.1 B.1.2.1 dX10_meets_48 (lv_at hl 0 rfl) ?_
      refine lv_iload_n B.1.1 B.1.2.1 dX10_meets_50 rfl (lv_at hl 3 rfl) ?_
      refine lv_imul B.1.1 B.1.2.1 dX10_meets_51 ?_
      refine lv_bipush (v := 99) B.1.1 B.1.2.1 dX10_meets_52 (by decide) ?_
      refine lv_iadd B.1.1 B.1.2.1 dX10_meets_54 ?_
      refine lv_bipush (v := 100) B.1.1 B.1.2.1 dX10_meets_55 (by decide) ?_
      refine lv_idiv B.1.1 B.1.2.1 dX10_meets_57 (by decide) ?_
      refine lv_isub B.1.1 B.1.2.1 dX10_meets_58 ?_
      refine lv_icmp_le (tgt := 66) B.1.1 B.1.2.1 dX10_meets_59 (by decide) (fun c20 => ?_) (fun c20 => ?_)
      · rw [if_pos c20] at hf
        refine lv_iconst (v := 0) B.1.1 B.1.2.1 dX10_meets_66 (by decide) ?_
        exact bX10_meets_67 hA B hR hk2 hret _ _ _ _ _ _ _ _ _ hf w (lv_sub hl [1, 2, 3, 4] rfl)
      · rw [if_neg c20] at hf
        refine lv_iconst (v := 1) B.1.1 B.1.2.1 dX10_meets_62 (by decide) ?_
        refine lv_goto (tgt := 67) B.1.1 B.1.2.1 dX10_meets_63 (by decide) ?_
        exact bX10_meets_67 hA B hR hk2 hret _ _ _ _ _ _ _ _ _ hf w (lv_sub hl [1, 2, 3, 4] rfl)
set_option maxHeartbeats 4000000 in
set_option maxRecDepth 100000 in
theorem bX10_meets_0 (hA : ∀ q : Nat, s.heap.size ≤ q → A q) (B : hy_B RX10 cX10_meets 7 wsX10_meets G A p s m args c) (hR : 2 ≤ R.frames ∧ 45 ≤ R.locals) {o : hy_S × Int32}  (hret : ∀ (σ : hy_S) (v : Int32) (pc : Nat) (H : Heap) (locs : List Loc) (ls : Array Slot), o = (σ, v) → hy_w mw G A s σ H locs → decode cX10_meets pc = .ok (.ireturn, 1) → W p l e R s m args below meth c H locs 0 0 Q (F0 m pc ls [.int v])) (σ : hy_S) (x1 : Int32) (x2 : Int32) (H : Heap) (locs : List Loc) (ls : Array Slot) (hf : fX10_meets σ x1 x2 = some o) (w : hy_w mw G A s σ H locs) (hl : lv_has ls 7 [(0, .ref (G.2.2.2.2.1 0)), (1, .int x1), (2, .int x2)]) : W p l e R s m args below meth c H locs 0 0 Q (F0 m 0 ls []) := by
  unfold fX10_meets at hf
  refine lv_iconst (v := 0) B.1.1 B.1.2.1 dX10_meets_0 (by decide) ?_
  refine lv_istore_n (lv' := [(3, .int 0), (0, .ref (G.2.2.2.2.1 0)), (1, .int x1), (2, .int x2)]) B.1.1 B.1.2.1 dX10_meets_1 rfl hl (by decide) rfl (fun ls hl => ?_)
  exact bX10_meets_2 hA B hR  hret _ _ _ _ _ _ _ _ hf w (lv_sub hl [1, 2, 3, 0] rfl)
set_option maxHeartbeats 4000000 in
set_option maxRecDepth 100000 in
theorem mX10_meets (l : Launch) (G : hy_G) (sz : Nat) (σ : hy_S) (x1 : Int32) (x2 : Int32) (o : hy_S × Int32) (hf : fX10_meets σ x1 x2 = some o) : hy_M l yX10_meets wsX10_meets ({ frames := 2, cells := 0, slots := 0, locals := 45 }) mw G σ sz [.ref (G.2.2.2.2.1 0), .int x1, .int x2] o := by
  refine Met.ofW (cc := cX10_meets) (maxL := 7) (ret := (some .int)) (by decide +kernel) rfl ?_
  intro p e s m args below meth c s₁ B hml hv
  obtain ⟨rfl, hsz, hP, hK, hD0, hN⟩ := hv
  have hx := B.exec
  have hb := B.bytes
  have hr := B.returns
  have hts := atoms_spec (ws := wsX10_meets) B.pre
  have hown : s.vm.findClass RX10 = some m.cls := findClass_of_methodNamed B.named
  have hlocks := B.notSynchronized
  subst hsz
  have hD := hD0.self (sz := s.heap.size)
  have hA : ∀ q : Nat, s.heap.size ≤ q → va_A (mw G σ) s.heap.size q := fun q h => Or.inr h
  have hS : va_S (va_A (mw G σ) s.heap.size) s.heap s.heap [] := va_S.rf
  have hl := lv_entry ([.ref (G.2.2.2.2.1 0), .int x1, .int x2]) (n := 7) (Nat.le_of_ble_eq_true rfl)
  rw [lg_entry_eq]
  generalize (lg_sl ([.ref (G.2.2.2.2.1 0), .int x1, .int x2]) ++ List.replicate (7 - (lg_sl ([.ref (G.2.2.2.2.1 0), .int x1, .int x2])).length) Slot.unset).toArray = ls at hl ⊢
  have hl : lv_has ls 7 [(0, .ref (G.2.2.2.2.1 0)), (1, .int x1), (2, .int x2)] := hl
  refine bX10_meets_0 (A := va_A (mw G σ) s.heap.size) hA ⟨⟨hx, hb, hml, hown, hts⟩, hK, hN⟩ ⟨Nat.le_of_ble_eq_true rfl, Nat.le_of_ble_eq_true rfl⟩ (o := o) (fun τ v pc H locs ls ho w d => ?_) σ x1 x2 _ _ _ hf ⟨hP, hD, hS⟩ hl
  exact W.iret hx hb hr (fun t ht hW => ⟨⟨v, τ, rfl, ⟨by rw [ho], by rw [ho]⟩, by have h9 := w.1; rw [← ht] at h9; exact h9⟩, w.2.2.F ht⟩) w.2.2.2.2 d
theorem in_X10_storm_X10 : ∀ w ∈ u_ws RX10 TX10 43, w ∈ wsX10_storm := fun _ h => xt1 (xr (h))
noncomputable def fX10_storm_62 : Nat → hy_S → Int32 → Int32 → Int32 → Int32 → Option (hy_S × Int32)
  | 0, _, _, _, _, _ => none
  | n + 1, σ, x1, x2, x3, x4 => (if 6 ≤ x4 then some (σ, x3) else hy_bd (fX10_meets σ ((6 * x1) + x4) x2) (fun σ2 v3 => (fX10_storm_62 n) σ2 x1 x2 (x3 + v3) (x4 + 1)))
noncomputable def fX10_storm_48 (σ : hy_S) (s0 : Int32) (x1 : Int32) (x2 : Int32) : Option (hy_S × Int32) := hy_bd (fX10_throwsIf σ s0 2) (fun σ1 v2 => (if v2 = 0 then fX10_storm_62 hy_fu σ1 x1 x2 0 0 else some (σ1, 0)))
noncomputable def fX10_storm_25 (σ : hy_S) (s0 : Int32) (x1 : Int32) (x2 : Int32) : Option (hy_S × Int32) := hy_bd (fX10_throwsIf σ s0 1) (fun σ1 v2 => (if v2 = 0 then hy_bd (fX10_in σ1 x2 0 100) (fun σ5 v6 => (if v6 = 0 then fX10_storm_48 σ5 1 x1 x2 else fX10_storm_48 σ5 0 x1 x2)) else some (σ1, 0)))
noncomputable def fX10_storm (σ : hy_S) (x1 : Int32) (x2 : Int32) : Option (hy_S × Int32) := hy_pf σ 0 0 (fun σ1 => hy_bd (fX10_in σ1 x1 0 ((σ1.2 3) - 1)) (fun σ3 v4 => (if v4 = 0 then fX10_storm_25 σ3 1 x1 x2 else fX10_storm_25 σ3 0 x1 x2)))
set_option maxHeartbeats 4000000 in
set_option maxRecDepth 100000 in
theorem bX10_storm_62 (hA : ∀ q : Nat, s.heap.size ≤ q → A q) (B : hy_B RX10 cX10_storm 5 wsX10_storm G A p s m args c) (hR : 3 ≤ R.frames ∧ 71 ≤ R.locals) {o : hy_S × Int32}  (hret : ∀ (σ : hy_S) (v : Int32) (pc : Nat) (H : Heap) (locs : List Loc) (ls : Array Slot), o = (σ, v) → hy_w mw G A s σ H locs → decode cX10_storm pc = .ok (.ireturn, 1) → W p l e R s m args below meth c H locs 0 0 Q (F0 m pc ls [.int v])) : ∀ (n : Nat) (σ : hy_S) (x1 : Int32) (x2 : Int32) (x3 : Int32) (x4 : Int32) (H : Heap) (locs : List Loc) (ls : Array Slot), fX10_storm_62 n σ x1 x2 x3 x4 = some o → hy_w mw G A s σ H locs → lv_has ls 5 [(0, .ref (G.2.2.2.2.1 0)), (1, .int x1), (2, .int x2), (3, .int x3), (4, .int x4)] → W p l e R s m args below meth c H locs 0 0 Q (F0 m 62 ls []) := by
  intro n
  induction n with
  | zero => intro σ x1 x2 x3 x4 H locs ls hf; cases hf
  | succ n hk62 =>
    intro σ x1 x2 x3 x4 H locs ls hf w hl
    unfold fX10_storm_62 at hf
    refine lv_iload B.1.1 B.1.2.1 dX10_storm_62 (lv_at hl 4 rfl) ?_
    refine lv_bipush (v := 6) B.1.1 B.1.2.1 dX10_storm_64 (by decide) ?_
    refine lv_icmp_ge (tgt := 90) B.1.1 B.1.2.1 dX10_storm_66 (by decide) (fun c1 => ?_) (fun c1 => ?_)
    · rw [if_pos c1] at hf
      refine lv_iload_n B.1.1 B.1.2.1 dX10_storm_90 rfl (lv_at hl 3 rfl) ?_
      exact hret _ _ _ _ _ _ (Option.some.inj hf).symm w dX10_storm_91
    · rw [if_neg c1] at hf
      refine lv_iload_n B.1.1 B.1.2.1 dX10_storm_69 rfl (lv_at hl 3 rfl) ?_
      refine lv_aload_n B.1.1 B.1.2.1 dX10_storm_70 rfl (lv_at hl 0 rfl) ?_
      refine lv_bipush (v := 6) B.1.1 B.1.2.1 dX10_storm_71 (by decide) ?_
      refine lv_iload_n B.1.1 B.1.2.1 dX10_storm_73 rfl (lv_at hl 1 rfl) ?_
      refine lv_imul B.1.1 B.1.2.1 dX10_storm_74 ?_
      refine lv_iload B.1.1 B.1.2.1 dX10_storm_75 (lv_at hl 4 rfl) ?_
      refine lv_iadd B.1.1 B.1.2.1 dX10_storm_77 ?_
      refine lv_iload_n B.1.1 B.1.2.1 dX10_storm_78 rfl (lv_at hl 2 rfl) ?_
      obtain ⟨σ2, v3, h4, hf⟩ := hy_bd_some hf
      refine hy_cv (As := [.int ((6 * x1) + x4), .int x2]) (rest := [.int x3]) (o := (σ2, v3)) mw_fix hA B w (fun sz => mX10_meets l G sz σ ((6 * x1) + x4) x2 _ h4) (cwV 2 B.1.2.2.2.2 gX10_storm_X10_meets rfl rfl rfl (by decide +kernel) ⟨by have := hR.1; show 2 + 1 ≤ _; omega, by have := hR.2; show 8 + (7 + 11) + 45 ≤ _; omega⟩) rfl (mwq_0 G σ) rfl hl.1 rfl (Nat.le_of_ble_eq_true rfl) dX10_storm_79 ⟨Nat.zero_le _, Nat.zero_le _⟩ (fun H locs w => ?_)
      refine lv_iadd B.1.1 B.1.2.1 dX10_storm_82 ?_
      refine lv_istore_n (lv' := [(3, .int (x3 + v3)), (0, .ref (G.2.2.2.2.1 0)), (1, .int x1), (2, .int x2), (4, .int x4)]) B.1.1 B.1.2.1 dX10_storm_83 rfl hl (by decide) rfl (fun ls hl => ?_)
      refine lv_iinc (v := (x4 + 1)) (lv' := [(4, .int (x4 + 1)), (3, .int (x3 + v3)), (0, .ref (G.2.2.2.2.1 0)), (1, .int x1), (2, .int x2)]) B.1.1 B.1.2.1 dX10_storm_84 hl (k := 4) rfl rfl (by decide) rfl (fun ls hl => ?_)
      refine lv_goto (tgt := 62) B.1.1 B.1.2.1 dX10_storm_87 (by decide) ?_
      exact hk62 _ _ _ _ _ _ _ _ hf w (lv_sub hl [2, 3, 4, 1, 0] rfl)
set_option maxHeartbeats 4000000 in
set_option maxRecDepth 100000 in
theorem bX10_storm_48 (hA : ∀ q : Nat, s.heap.size ≤ q → A q) (B : hy_B RX10 cX10_storm 5 wsX10_storm G A p s m args c) (hR : 3 ≤ R.frames ∧ 71 ≤ R.locals) {o : hy_S × Int32}  (hret : ∀ (σ : hy_S) (v : Int32) (pc : Nat) (H : Heap) (locs : List Loc) (ls : Array Slot), o = (σ, v) → hy_w mw G A s σ H locs → decode cX10_storm pc = .ok (.ireturn, 1) → W p l e R s m args below meth c H locs 0 0 Q (F0 m pc ls [.int v])) (σ : hy_S) (s0 : Int32) (x1 : Int32) (x2 : Int32) (H : Heap) (locs : List Loc) (ls : Array Slot) (hf : fX10_storm_48 σ s0 x1 x2 = some o) (w : hy_w mw G A s σ H locs) (hl : lv_has ls 5 [(0, .ref (G.2.2.2.2.1 0)), (1, .int x1), (2, .int x2)]) : W p l e R s m args below meth c H locs 0 0 Q (F0 m 48 ls [.int s0, .ref (G.2.2.2.2.1 0)]) := by
  unfold fX10_storm_48 at hf
  refine lv_iconst (v := 2) B.1.1 B.1.2.1 dX10_storm_48 (by decide) ?_
  obtain ⟨σ1, v2, h3, hf⟩ := hy_bd_some hf
  refine hy_cv (As := [.int s0, .int 2]) (rest := []) (o := (σ1, v2)) mw_fix hA B w (fun sz => mX10_throwsIf l G sz σ s0 2 _ h3) (cwV 2 B.1.2.2.2.2 gX10_storm_X10_throwsIf rfl rfl rfl (by decide +kernel) ⟨by have := hR.1; show 0 + 1 ≤ _; omega, by have := hR.2; show 8 + (3 + 11) + 0 ≤ _; omega⟩) rfl (mwq_0 G σ) rfl hl.1 rfl (Nat.le_of_ble_eq_true rfl) dX10_storm_49 ⟨Nat.zero_le _, Nat.zero_le _⟩ (fun H locs w => ?_)
  refine lv_if_eq (tgt := 57) B.1.1 B.1.2.1 dX10_storm_52 (by decide) (fun c4 => ?_) (fun c4 => ?_)
  · rw [if_pos c4] at hf
    refine lv_iconst (v := 0) B.1.1 B.1.2.1 dX10_storm_57 (by decide) ?_
    refine lv_istore_n (lv' := [(3, .int 0), (0, .ref (G.2.2.2.2.1 0)), (1, .int x1), (2, .int x2)]) B.1.1 B.1.2.1 dX10_storm_58 rfl hl (by decide) rfl (fun ls hl => ?_)
    refine lv_iconst (v := 0) B.1.1 B.1.2.1 dX10_storm_59 (by decide) ?_
    refine lv_istore (lv' := [(4, .int 0), (3, .int 0), (0, .ref (G.2.2.2.2.1 0)), (1, .int x1), (2, .int x2)]) B.1.1 B.1.2.1 dX10_storm_60 hl (by decide) rfl (fun ls hl => ?_)
    exact bX10_storm_62 hA B hR  hret _ _ _ _ _ _ _ _ _ hf w (lv_sub hl [2, 3, 4, 1, 0] rfl)
  · rw [if_neg c4] at hf
    refine lv_iconst (v := 0) B.1.1 B.1.2.1 dX10_storm_55 (by decide) ?_
    exact hret _ _ _ _ _ _ (Option.some.inj hf).symm w dX10_storm_56
set_option maxHeartbeats 4000000 in
set_option maxRecDepth 100000 in
theorem bX10_storm_25 (hA : ∀ q : Nat, s.heap.size ≤ q → A q) (B : hy_B RX10 cX10_storm 5 wsX10_storm G A p s m args c) (hR : 3 ≤ R.frames ∧ 71 ≤ R.locals) {o : hy_S × Int32}  (hret : ∀ (σ : hy_S) (v : Int32) (pc : Nat) (H : Heap) (locs : List Loc) (ls : Array Slot), o = (σ, v) → hy_w mw G A s σ H locs → decode cX10_storm pc = .ok (.ireturn, 1) → W p l e R s m args below meth c H locs 0 0 Q (F0 m pc ls [.int v])) (σ : hy_S) (s0 : Int32) (x1 : Int32) (x2 : Int32) (H : Heap) (locs : List Loc) (ls : Array Slot) (hf : fX10_storm_25 σ s0 x1 x2 = some o) (w : hy_w mw G A s σ H locs) (hl : lv_has ls 5 [(0, .ref (G.2.2.2.2.1 0)), (1, .int x1), (2, .int x2)]) : W p l e R s m args below meth c H locs 0 0 Q (F0 m 25 ls [.int s0, .ref (G.2.2.2.2.1 0)]) := by
  unfold fX10_storm_25 at hf
  refine lv_iconst (v := 1) B.1.1 B.1.2.1 dX10_storm_25 (by decide) ?_
  obtain ⟨σ1, v2, h3, hf⟩ := hy_bd_some hf
  refine hy_cv (As := [.int s0, .int 1]) (rest := []) (o := (σ1, v2)) mw_fix hA B w (fun sz => mX10_throwsIf l G sz σ s0 1 _ h3) (cwV 2 B.1.2.2.2.2 gX10_storm_X10_throwsIf rfl rfl rfl (by decide +kernel) ⟨by have := hR.1; show 0 + 1 ≤ _; omega, by have := hR.2; show 8 + (3 + 11) + 0 ≤ _; omega⟩) rfl (mwq_0 G σ) rfl hl.1 rfl (Nat.le_of_ble_eq_true rfl) dX10_storm_26 ⟨Nat.zero_le _, Nat.zero_le _⟩ (fun H locs w => ?_)
  refine lv_if_ne (tgt := 55) B.1.1 B.1.2.1 dX10_storm_29 (by decide) (fun c4 => ?_) (fun c4 => ?_)
  · rw [if_neg c4] at hf
    refine lv_iconst (v := 0) B.1.1 B.1.2.1 dX10_storm_55 (by decide) ?_
    exact hret _ _ _ _ _ _ (Option.some.inj hf).symm w dX10_storm_56
  · rw [if_pos c4] at hf
    refine lv_aload_n B.1.1 B.1.2.1 dX10_storm_32 rfl (lv_at hl 0 rfl) ?_
    refine lv_iload_n B.1.1 B.1.2.1 dX10_storm_33 rfl (lv_at hl 2 rfl) ?_
    refine lv_iconst (v := 0) B.1.1 B.1.2.1 dX10_storm_34 (by decide) ?_
    refine lv_bipush (v := 100) B.1.1 B.1.2.1 dX10_storm_35 (by decide) ?_
    obtain ⟨σ5, v6, h7, hf⟩ := hy_bd_some hf
    refine hy_cs (As := [.int x2, .int 0, .int 100]) (rest := [.ref (G.2.2.2.2.1 0)]) (o := (σ5, v6)) mw_fix hA B w (fun sz => mX10_in l G sz σ1 x2 0 100 _ h7) (cwS 3 B.1.2.2.2.2 gX10_storm_X10_in rfl rfl rfl (by decide +kernel) ⟨by have := hR.1; show 0 + 1 ≤ _; omega, by have := hR.2; show 8 + (3 + 11) + 0 ≤ _; omega⟩) rfl hl.1 rfl (Nat.le_of_ble_eq_true rfl) dX10_storm_37 ⟨Nat.zero_le _, Nat.zero_le _⟩ (fun H locs w => ?_)
    refine lv_if_ne (tgt := 47) B.1.1 B.1.2.1 dX10_storm_40 (by decide) (fun c8 => ?_) (fun c8 => ?_)
    · rw [if_neg c8] at hf
      refine lv_iconst (v := 0) B.1.1 B.1.2.1 dX10_storm_47 (by decide) ?_
      exact bX10_storm_48 hA B hR  hret _ _ _ _ _ _ _ hf w (lv_sub hl [0, 1, 2] rfl)
    · rw [if_pos c8] at hf
      refine lv_iconst (v := 1) B.1.1 B.1.2.1 dX10_storm_43 (by decide) ?_
      refine lv_goto (tgt := 48) B.1.1 B.1.2.1 dX10_storm_44 (by decide) ?_
      exact bX10_storm_48 hA B hR  hret _ _ _ _ _ _ _ hf w (lv_sub hl [0, 1, 2] rfl)
set_option maxHeartbeats 4000000 in
set_option maxRecDepth 100000 in
theorem bX10_storm_0 (hA : ∀ q : Nat, s.heap.size ≤ q → A q) (B : hy_B RX10 cX10_storm 5 wsX10_storm G A p s m args c) (hR : 3 ≤ R.frames ∧ 71 ≤ R.locals) {o : hy_S × Int32}  (hret : ∀ (σ : hy_S) (v : Int32) (pc : Nat) (H : Heap) (locs : List Loc) (ls : Array Slot), o = (σ, v) → hy_w mw G A s σ H locs → decode cX10_storm pc = .ok (.ireturn, 1) → W p l e R s m args below meth c H locs 0 0 Q (F0 m pc ls [.int v])) (σ : hy_S) (x1 : Int32) (x2 : Int32) (H : Heap) (locs : List Loc) (ls : Array Slot) (hf : fX10_storm σ x1 x2 = some o) (w : hy_w mw G A s σ H locs) (hl : lv_has ls 5 [(0, .ref (G.2.2.2.2.1 0)), (1, .int x1), (2, .int x2)]) : W p l e R s m args below meth c H locs 0 0 Q (F0 m 0 ls []) := by
  unfold fX10_storm at hf
  refine lv_aload_n B.1.1 B.1.2.1 dX10_storm_0 rfl (lv_at hl 0 rfl) ?_
  refine lv_iconst (v := 0) B.1.1 B.1.2.1 dX10_storm_1 (by decide) ?_
  obtain ⟨σ1, e2, hf⟩ := hy_pf_some hf
  refine hy_put (k := 0) B w (mwq_0 G) rfl in_X10_storm_X10 tyX10 tyX10_ok nmX10 (by decide) (by decide +kernel) rfl rfl (by show 0 < 43; decide) (mwp_0 G) e2 dX10_storm_2 (fun H locs w => ?_)
  refine lv_aload_n B.1.1 B.1.2.1 dX10_storm_5 rfl (lv_at hl 0 rfl) ?_
  refine lv_iload_n B.1.1 B.1.2.1 dX10_storm_6 rfl (lv_at hl 1 rfl) ?_
  refine lv_iconst (v := 0) B.1.1 B.1.2.1 dX10_storm_7 (by decide) ?_
  refine lv_aload_n B.1.1 B.1.2.1 dX10_storm_8 rfl (lv_at hl 0 rfl) ?_
  refine hy_get (k := 14) (v := .int (σ1.2 3)) B w (mwq_0 G) rfl in_X10_storm_X10 (by decide) (by decide +kernel) rfl dX10_storm_9 ?_
  refine lv_iconst (v := 1) B.1.1 B.1.2.1 dX10_storm_12 (by decide) ?_
  refine lv_isub B.1.1 B.1.2.1 dX10_storm_13 ?_
  obtain ⟨σ3, v4, h5, hf⟩ := hy_bd_some hf
  refine hy_cs (As := [.int x1, .int 0, .int ((σ1.2 3) - 1)]) (rest := [.ref (G.2.2.2.2.1 0)]) (o := (σ3, v4)) mw_fix hA B w (fun sz => mX10_in l G sz σ1 x1 0 ((σ1.2 3) - 1) _ h5) (cwS 3 B.1.2.2.2.2 gX10_storm_X10_in rfl rfl rfl (by decide +kernel) ⟨by have := hR.1; show 0 + 1 ≤ _; omega, by have := hR.2; show 8 + (3 + 11) + 0 ≤ _; omega⟩) rfl hl.1 rfl (Nat.le_of_ble_eq_true rfl) dX10_storm_14 ⟨Nat.zero_le _, Nat.zero_le _⟩ (fun H locs w => ?_)
  refine lv_if_ne (tgt := 24) B.1.1 B.1.2.1 dX10_storm_17 (by decide) (fun c6 => ?_) (fun c6 => ?_)
  · rw [if_neg c6] at hf
    refine lv_iconst (v := 0) B.1.1 B.1.2.1 dX10_storm_24 (by decide) ?_
    exact bX10_storm_25 hA B hR  hret _ _ _ _ _ _ _ hf w (lv_sub hl [0, 1, 2] rfl)
  · rw [if_pos c6] at hf
    refine lv_iconst (v := 1) B.1.1 B.1.2.1 dX10_storm_20 (by decide) ?_
    refine lv_goto (tgt := 25) B.1.1 B.1.2.1 dX10_storm_21 (by decide) ?_
    exact bX10_storm_25 hA B hR  hret _ _ _ _ _ _ _ hf w (lv_sub hl [0, 1, 2] rfl)
set_option maxHeartbeats 4000000 in
set_option maxRecDepth 100000 in
theorem mX10_storm (l : Launch) (G : hy_G) (sz : Nat) (σ : hy_S) (x1 : Int32) (x2 : Int32) (o : hy_S × Int32) (hf : fX10_storm σ x1 x2 = some o) : hy_M l yX10_storm wsX10_storm ({ frames := 3, cells := 0, slots := 0, locals := 71 }) mw G σ sz [.ref (G.2.2.2.2.1 0), .int x1, .int x2] o := by
  refine Met.ofW (cc := cX10_storm) (maxL := 5) (ret := (some .int)) (by decide +kernel) rfl ?_
  intro p e s m args below meth c s₁ B hml hv
  obtain ⟨rfl, hsz, hP, hK, hD0, hN⟩ := hv
  have hx := B.exec
  have hb := B.bytes
  have hr := B.returns
  have hts := atoms_spec (ws := wsX10_storm) B.pre
  have hown : s.vm.findClass RX10 = some m.cls := findClass_of_methodNamed B.named
  have hlocks := B.notSynchronized
  subst hsz
  have hD := hD0.self (sz := s.heap.size)
  have hA : ∀ q : Nat, s.heap.size ≤ q → va_A (mw G σ) s.heap.size q := fun q h => Or.inr h
  have hS : va_S (va_A (mw G σ) s.heap.size) s.heap s.heap [] := va_S.rf
  have hl := lv_entry ([.ref (G.2.2.2.2.1 0), .int x1, .int x2]) (n := 5) (Nat.le_of_ble_eq_true rfl)
  rw [lg_entry_eq]
  generalize (lg_sl ([.ref (G.2.2.2.2.1 0), .int x1, .int x2]) ++ List.replicate (5 - (lg_sl ([.ref (G.2.2.2.2.1 0), .int x1, .int x2])).length) Slot.unset).toArray = ls at hl ⊢
  have hl : lv_has ls 5 [(0, .ref (G.2.2.2.2.1 0)), (1, .int x1), (2, .int x2)] := hl
  refine bX10_storm_0 (A := va_A (mw G σ) s.heap.size) hA ⟨⟨hx, hb, hml, hown, hts⟩, hK, hN⟩ ⟨Nat.le_of_ble_eq_true rfl, Nat.le_of_ble_eq_true rfl⟩ (o := o) (fun τ v pc H locs ls ho w d => ?_) σ x1 x2 _ _ _ hf ⟨hP, hD, hS⟩ hl
  exact W.iret hx hb hr (fun t ht hW => ⟨⟨v, τ, rfl, ⟨by rw [ho], by rw [ho]⟩, by have h9 := w.1; rw [← ht] at h9; exact h9⟩, w.2.2.F ht⟩) w.2.2.2.2 d
theorem in_X10_look_X10 : ∀ w ∈ u_ws RX10 TX10 43, w ∈ wsX10_look := fun _ h => xt1 (xr (h))
noncomputable def fX10_look_172 : Nat → hy_S → Int32 → Int32 → Option (hy_S × Int32)
  | 0, _, _, _ => none
  | n + 1, σ, x1, x3 => hy_ga σ 8 60 x1 (fun v1 => hy_ga σ 9 240 ((10 * v1) + x3) (fun v4 => (if v4 = x1 then hy_ga σ 8 60 x1 (fun v8 => hy_bd (fX10_above σ v8 x3) (fun σ11 v12 => some (σ11, v12))) else (fX10_look_172 n) σ x1 (x3 + 1))))
noncomputable def fX10_look (σ : hy_S) (x1 : Int32) (x2 : Int32) : Option (hy_S × Int32) := hy_pf σ 0 0 (fun σ1 => hy_bd (fX10_noJar σ1 x1) (fun σ3 v4 => hy_bd (fX10_throwsIf σ3 v4 1) (fun σ6 v7 => (if v7 = 0 then (if x2 = 0 then hy_ga σ6 7 60 x1 (fun v11 => some (σ6, v11)) else (if x2 = 1 then hy_ga σ6 3 60 x1 (fun v15 => some (σ6, v15)) else (if x2 = 2 then hy_ga σ6 4 60 x1 (fun v19 => some (σ6, v19)) else (if x2 = 3 then hy_ga σ6 5 60 x1 (fun v23 => some (σ6, v23)) else (if x2 = 4 then hy_ga σ6 6 60 x1 (fun v27 => some (σ6, v27)) else (if x2 = 5 then hy_bd (fX10_weight σ6 x1) (fun σ31 v32 => some (σ31, v32)) else (if x2 = 6 then hy_ga σ6 8 60 x1 (fun v35 => (if 0 ≤ v35 then hy_ga σ6 8 60 x1 (fun v39 => some (σ6, (v39 / 6))) else some (σ6, (-1)))) else (if x2 = 7 then hy_ga σ6 8 60 x1 (fun v43 => (if 0 ≤ v43 then hy_ga σ6 8 60 x1 (fun v47 => some (σ6, (v47 - v47 / 6 * 6))) else some (σ6, (-1)))) else (if x2 = 8 then hy_ga σ6 8 60 x1 (fun v51 => (if 0 ≤ v51 then fX10_look_172 hy_fu σ6 x1 0 else some (σ6, 0))) else hy_pf σ6 0 2 (fun σ55 => some (σ55, 0))))))))))) else some (σ6, 0)))))
set_option maxHeartbeats 4000000 in
set_option maxRecDepth 100000 in
theorem bX10_look_172 (hA : ∀ q : Nat, s.heap.size ≤ q → A q) (B : hy_B RX10 cX10_look 4 wsX10_look G A p s m args c) (hR : 2 ≤ R.frames ∧ 45 ≤ R.locals) {o : hy_S × Int32}  (hret : ∀ (σ : hy_S) (v : Int32) (pc : Nat) (H : Heap) (locs : List Loc) (ls : Array Slot), o = (σ, v) → hy_w mw G A s σ H locs → decode cX10_look pc = .ok (.ireturn, 1) → W p l e R s m args below meth c H locs 0 0 Q (F0 m pc ls [.int v])) : ∀ (n : Nat) (σ : hy_S) (x1 : Int32) (x3 : Int32) (H : Heap) (locs : List Loc) (ls : Array Slot), fX10_look_172 n σ x1 x3 = some o → hy_w mw G A s σ H locs → lv_has ls 4 [(0, .ref (G.2.2.2.2.1 0)), (1, .int x1), (3, .int x3)] → W p l e R s m args below meth c H locs 0 0 Q (F0 m 172 ls []) := by
  intro n
  induction n with
  | zero => intro σ x1 x3 H locs ls hf; cases hf
  | succ n hk172 =>
    intro σ x1 x3 H locs ls hf w hl
    unfold fX10_look_172 at hf
    refine lv_aload_n B.1.1 B.1.2.1 dX10_look_172 rfl (lv_at hl 0 rfl) ?_
    refine hy_get (k := 12) (v := .ref (G.2.2.2.2.1 10)) B w (mwq_0 G) rfl in_X10_look_X10 (by decide) (by decide +kernel) rfl dX10_look_173 ?_
    refine lv_bipush (v := 10) B.1.1 B.1.2.1 dX10_look_176 (by decide) ?_
    refine lv_aload_n B.1.1 B.1.2.1 dX10_look_178 rfl (lv_at hl 0 rfl) ?_
    refine hy_get (k := 10) (v := .ref (G.2.2.2.2.1 9)) B w (mwq_0 G) rfl in_X10_look_X10 (by decide) (by decide +kernel) rfl dX10_look_179 ?_
    refine lv_iload_n B.1.1 B.1.2.1 dX10_look_182 rfl (lv_at hl 1 rfl) ?_
    obtain ⟨h3, v1, e2, hf⟩ := hy_ga_some hf
    refine hy_iald B w (mwq_9 G) h3 e2 dX10_look_183 ?_
    refine lv_imul B.1.1 B.1.2.1 dX10_look_184 ?_
    refine lv_iload_n B.1.1 B.1.2.1 dX10_look_185 rfl (lv_at hl 2 rfl) ?_
    refine lv_iadd B.1.1 B.1.2.1 dX10_look_186 ?_
    obtain ⟨h6, v4, e5, hf⟩ := hy_ga_some hf
    refine hy_iald B w (mwq_10 G) h6 e5 dX10_look_187 ?_
    refine lv_iload_n B.1.1 B.1.2.1 dX10_look_188 rfl (lv_at hl 1 rfl) ?_
    refine lv_icmp_eq (tgt := 198) B.1.1 B.1.2.1 dX10_look_189 (by decide) (fun c7 => ?_) (fun c7 => ?_)
    · rw [if_pos c7] at hf
      refine lv_aload_n B.1.1 B.1.2.1 dX10_look_198 rfl (lv_at hl 0 rfl) ?_
      refine lv_aload_n B.1.1 B.1.2.1 dX10_look_199 rfl (lv_at hl 0 rfl) ?_
      refine hy_get (k := 10) (v := .ref (G.2.2.2.2.1 9)) B w (mwq_0 G) rfl in_X10_look_X10 (by decide) (by decide +kernel) rfl dX10_look_200 ?_
      refine lv_iload_n B.1.1 B.1.2.1 dX10_look_203 rfl (lv_at hl 1 rfl) ?_
      obtain ⟨h10, v8, e9, hf⟩ := hy_ga_some hf
      refine hy_iald B w (mwq_9 G) h10 e9 dX10_look_204 ?_
      refine lv_iload_n B.1.1 B.1.2.1 dX10_look_205 rfl (lv_at hl 2 rfl) ?_
      obtain ⟨σ11, v12, h13, hf⟩ := hy_bd_some hf
      refine hy_cv (As := [.int v8, .int x3]) (rest := []) (o := (σ11, v12)) mw_fix hA B w (fun sz => mX10_above l G sz σ v8 x3 _ h13) (cwV 2 B.1.2.2.2.2 gX10_look_X10_above rfl rfl rfl (by decide +kernel) ⟨by have := hR.1; show 1 + 1 ≤ _; omega, by have := hR.2; show 8 + (5 + 11) + 21 ≤ _; omega⟩) rfl (mwq_0 G σ) rfl hl.1 rfl (Nat.le_of_ble_eq_true rfl) dX10_look_206 ⟨Nat.zero_le _, Nat.zero_le _⟩ (fun H locs w => ?_)
      exact hret _ _ _ _ _ _ (Option.some.inj hf).symm w dX10_look_209
    · rw [if_neg c7] at hf
      refine lv_iinc (v := (x3 + 1)) (lv' := [(3, .int (x3 + 1)), (0, .ref (G.2.2.2.2.1 0)), (1, .int x1)]) B.1.1 B.1.2.1 dX10_look_192 hl (k := 2) rfl rfl (by decide) rfl (fun ls hl => ?_)
      refine lv_goto (tgt := 172) B.1.1 B.1.2.1 dX10_look_195 (by decide) ?_
      exact hk172 _ _ _ _ _ _ hf w (lv_sub hl [1, 2, 0] rfl)
set_option maxHeartbeats 4000000 in
set_option maxRecDepth 100000 in
theorem bX10_look_0 (hA : ∀ q : Nat, s.heap.size ≤ q → A q) (B : hy_B RX10 cX10_look 4 wsX10_look G A p s m args c) (hR : 2 ≤ R.frames ∧ 45 ≤ R.locals) {o : hy_S × Int32}  (hret : ∀ (σ : hy_S) (v : Int32) (pc : Nat) (H : Heap) (locs : List Loc) (ls : Array Slot), o = (σ, v) → hy_w mw G A s σ H locs → decode cX10_look pc = .ok (.ireturn, 1) → W p l e R s m args below meth c H locs 0 0 Q (F0 m pc ls [.int v])) (σ : hy_S) (x1 : Int32) (x2 : Int32) (H : Heap) (locs : List Loc) (ls : Array Slot) (hf : fX10_look σ x1 x2 = some o) (w : hy_w mw G A s σ H locs) (hl : lv_has ls 4 [(0, .ref (G.2.2.2.2.1 0)), (1, .int x1), (2, .int x2)]) : W p l e R s m args below meth c H locs 0 0 Q (F0 m 0 ls []) := by
  unfold fX10_look at hf
  refine lv_aload_n B.1.1 B.1.2.1 dX10_look_0 rfl (lv_at hl 0 rfl) ?_
  refine lv_iconst (v := 0) B.1.1 B.1.2.1 dX10_look_1 (by decide) ?_
  obtain ⟨σ1, e2, hf⟩ := hy_pf_some hf
  refine hy_put (k := 0) B w (mwq_0 G) rfl in_X10_look_X10 tyX10 tyX10_ok nmX10 (by decide) (by decide +kernel) rfl rfl (by show 0 < 43; decide) (mwp_0 G) e2 dX10_look_2 (fun H locs w => ?_)
  refine lv_aload_n B.1.1 B.1.2.1 dX10_look_5 rfl (lv_at hl 0 rfl) ?_
  refine lv_aload_n B.1.1 B.1.2.1 dX10_look_6 rfl (lv_at hl 0 rfl) ?_
  refine lv_iload_n B.1.1 B.1.2.1 dX10_look_7 rfl (lv_at hl 1 rfl) ?_
  obtain ⟨σ3, v4, h5, hf⟩ := hy_bd_some hf
  refine hy_cv (As := [.int x1]) (rest := [.ref (G.2.2.2.2.1 0)]) (o := (σ3, v4)) mw_fix hA B w (fun sz => mX10_noJar l G sz σ1 x1 _ h5) (cwV 1 B.1.2.2.2.2 gX10_look_X10_noJar rfl rfl rfl (by decide +kernel) ⟨by have := hR.1; show 1 + 1 ≤ _; omega, by have := hR.2; show 8 + (2 + 11) + 22 ≤ _; omega⟩) rfl (mwq_0 G σ1) rfl hl.1 rfl (Nat.le_of_ble_eq_true rfl) dX10_look_8 ⟨Nat.zero_le _, Nat.zero_le _⟩ (fun H locs w => ?_)
  refine lv_iconst (v := 1) B.1.1 B.1.2.1 dX10_look_11 (by decide) ?_
  obtain ⟨σ6, v7, h8, hf⟩ := hy_bd_some hf
  refine hy_cv (As := [.int v4, .int 1]) (rest := []) (o := (σ6, v7)) mw_fix hA B w (fun sz => mX10_throwsIf l G sz σ3 v4 1 _ h8) (cwV 2 B.1.2.2.2.2 gX10_look_X10_throwsIf rfl rfl rfl (by decide +kernel) ⟨by have := hR.1; show 0 + 1 ≤ _; omega, by have := hR.2; show 8 + (3 + 11) + 0 ≤ _; omega⟩) rfl (mwq_0 G σ3) rfl hl.1 rfl (Nat.le_of_ble_eq_true rfl) dX10_look_12 ⟨Nat.zero_le _, Nat.zero_le _⟩ (fun H locs w => ?_)
  refine lv_if_eq (tgt := 20) B.1.1 B.1.2.1 dX10_look_15 (by decide) (fun c9 => ?_) (fun c9 => ?_)
  · rw [if_pos c9] at hf
    refine lv_iload_n B.1.1 B.1.2.1 dX10_look_20 rfl (lv_at hl 2 rfl) ?_
    by_cases c10 : x2 = 0
    · rw [if_pos c10] at hf
      have c10e : Int32.toInt x2 = 0 := by rw [c10]; rfl
      refine lv_tableIn (tgt := 72) B.1.1 B.1.2.1 dX10_look_21 (by rw [c10e]; decide) (by rw [c10e]; decide) (by rw [c10e]; rfl) (by decide) ?_
      refine lv_aload_n B.1.1 B.1.2.1 dX10_look_72 rfl (lv_at hl 0 rfl) ?_
      refine hy_get (k := 9) (v := .ref (G.2.2.2.2.1 8)) B w (mwq_0 G) rfl in_X10_look_X10 (by decide) (by decide +kernel) rfl dX10_look_73 ?_
      refine lv_iload_n B.1.1 B.1.2.1 dX10_look_76 rfl (lv_at hl 1 rfl) ?_
      obtain ⟨h13, v11, e12, hf⟩ := hy_ga_some hf
      refine hy_iald B w (mwq_8 G) h13 e12 dX10_look_77 ?_
      exact hret _ _ _ _ _ _ (Option.some.inj hf).symm w dX10_look_78
    · rw [if_neg c10] at hf
      by_cases c14 : x2 = 1
      · rw [if_pos c14] at hf
        have c14e : Int32.toInt x2 = 1 := by rw [c14]; rfl
        refine lv_tableIn (tgt := 79) B.1.1 B.1.2.1 dX10_look_21 (by rw [c14e]; decide) (by rw [c14e]; decide) (by rw [c14e]; rfl) (by decide) ?_
        refine lv_aload_n B.1.1 B.1.2.1 dX10_look_79 rfl (lv_at hl 0 rfl) ?_
        refine hy_get (k := 5) (v := .ref (G.2.2.2.2.1 4)) B w (mwq_0 G) rfl in_X10_look_X10 (by decide) (by decide +kernel) rfl dX10_look_80 ?_
        refine lv_iload_n B.1.1 B.1.2.1 dX10_look_83 rfl (lv_at hl 1 rfl) ?_
        obtain ⟨h17, v15, e16, hf⟩ := hy_ga_some hf
        refine hy_iald B w (mwq_4 G) h17 e16 dX10_look_84 ?_
        exact hret _ _ _ _ _ _ (Option.some.inj hf).symm w dX10_look_85
      · rw [if_neg c14] at hf
        by_cases c18 : x2 = 2
        · rw [if_pos c18] at hf
          have c18e : Int32.toInt x2 = 2 := by rw [c18]; rfl
          refine lv_tableIn (tgt := 86) B.1.1 B.1.2.1 dX10_look_21 (by rw [c18e]; decide) (by rw [c18e]; decide) (by rw [c18e]; rfl) (by decide) ?_
          refine lv_aload_n B.1.1 B.1.2.1 dX10_look_86 rfl (lv_at hl 0 rfl) ?_
          refine hy_get (k := 6) (v := .ref (G.2.2.2.2.1 5)) B w (mwq_0 G) rfl in_X10_look_X10 (by decide) (by decide +kernel) rfl dX10_look_87 ?_
          refine lv_iload_n B.1.1 B.1.2.1 dX10_look_90 rfl (lv_at hl 1 rfl) ?_
          obtain ⟨h21, v19, e20, hf⟩ := hy_ga_some hf
          refine hy_iald B w (mwq_5 G) h21 e20 dX10_look_91 ?_
          exact hret _ _ _ _ _ _ (Option.some.inj hf).symm w dX10_look_92
        · rw [if_neg c18] at hf
          by_cases c22 : x2 = 3
          · rw [if_pos c22] at hf
            have c22e : Int32.toInt x2 = 3 := by rw [c22]; rfl
            refine lv_tableIn (tgt := 93) B.1.1 B.1.2.1 dX10_look_21 (by rw [c22e]; decide) (by rw [c22e]; decide) (by rw [c22e]; rfl) (by decide) ?_
            refine lv_aload_n B.1.1 B.1.2.1 dX10_look_93 rfl (lv_at hl 0 rfl) ?_
            refine hy_get (k := 7) (v := .ref (G.2.2.2.2.1 6)) B w (mwq_0 G) rfl in_X10_look_X10 (by decide) (by decide +kernel) rfl dX10_look_94 ?_
            refine lv_iload_n B.1.1 B.1.2.1 dX10_look_97 rfl (lv_at hl 1 rfl) ?_
            obtain ⟨h25, v23, e24, hf⟩ := hy_ga_some hf
            refine hy_iald B w (mwq_6 G) h25 e24 dX10_look_98 ?_
            exact hret _ _ _ _ _ _ (Option.some.inj hf).symm w dX10_look_99
          · rw [if_neg c22] at hf
            by_cases c26 : x2 = 4
            · rw [if_pos c26] at hf
              have c26e : Int32.toInt x2 = 4 := by rw [c26]; rfl
              refine lv_tableIn (tgt := 100) B.1.1 B.1.2.1 dX10_look_21 (by rw [c26e]; decide) (by rw [c26e]; decide) (by rw [c26e]; rfl) (by decide) ?_
              refine lv_aload_n B.1.1 B.1.2.1 dX10_look_100 rfl (lv_at hl 0 rfl) ?_
              refine hy_get (k := 8) (v := .ref (G.2.2.2.2.1 7)) B w (mwq_0 G) rfl in_X10_look_X10 (by decide) (by decide +kernel) rfl dX10_look_101 ?_
              refine lv_iload_n B.1.1 B.1.2.1 dX10_look_104 rfl (lv_at hl 1 rfl) ?_
              obtain ⟨h29, v27, e28, hf⟩ := hy_ga_some hf
              refine hy_iald B w (mwq_7 G) h29 e28 dX10_look_105 ?_
              exact hret _ _ _ _ _ _ (Option.some.inj hf).symm w dX10_look_106
            · rw [if_neg c26] at hf
              by_cases c30 : x2 = 5
              · rw [if_pos c30] at hf
                have c30e : Int32.toInt x2 = 5 := by rw [c30]; rfl
                refine lv_tableIn (tgt := 107) B.1.1 B.1.2.1 dX10_look_21 (by rw [c30e]; decide) (by rw [c30e]; decide) (by rw [c30e]; rfl) (by decide) ?_
                refine lv_aload_n B.1.1 B.1.2.1 dX10_look_107 rfl (lv_at hl 0 rfl) ?_
                refine lv_iload_n B.1.1 B.1.2.1 dX10_look_108 rfl (lv_at hl 1 rfl) ?_
                obtain ⟨σ31, v32, h33, hf⟩ := hy_bd_some hf
                refine hy_cv (As := [.int x1]) (rest := []) (o := (σ31, v32)) mw_fix hA B w (fun sz => mX10_weight l G sz σ6 x1 _ h33) (cwV 1 B.1.2.2.2.2 gX10_look_X10_weight rfl rfl rfl (by decide +kernel) ⟨by have := hR.1; show 0 + 1 ≤ _; omega, by have := hR.2; show 8 + (2 + 11) + 0 ≤ _; omega⟩) rfl (mwq_0 G σ6) rfl hl.1 rfl (Nat.le_of_ble_eq_true rfl) dX10_look_109 ⟨Nat.zero_le _, Nat.zero_le _⟩ (fun H locs w => ?_)
                exact hret _ _ _ _ _ _ (Option.some.inj hf).symm w dX10_look_112
              · rw [if_neg c30] at hf
                by_cases c34 : x2 = 6
                · rw [if_pos c34] at hf
                  have c34e : Int32.toInt x2 = 6 := by rw [c34]; rfl
                  refine lv_tableIn (tgt := 113) B.1.1 B.1.2.1 dX10_look_21 (by rw [c34e]; decide) (by rw [c34e]; decide) (by rw [c34e]; rfl) (by decide) ?_
                  refine lv_aload_n B.1.1 B.1.2.1 dX10_look_113 rfl (lv_at hl 0 rfl) ?_
                  refine hy_get (k := 10) (v := .ref (G.2.2.2.2.1 9)) B w (mwq_0 G) rfl in_X10_look_X10 (by decide) (by decide +kernel) rfl dX10_look_114 ?_
                  refine lv_iload_n B.1.1 B.1.2.1 dX10_look_117 rfl (lv_at hl 1 rfl) ?_
                  obtain ⟨h37, v35, e36, hf⟩ := hy_ga_some hf
                  refine hy_iald B w (mwq_9 G) h37 e36 dX10_look_118 ?_
                  refine lv_if_ge (tgt := 126) B.1.1 B.1.2.1 dX10_look_119 (by decide) (fun c38 => ?_) (fun c38 => ?_)
                  · rw [if_pos c38] at hf
                    refine lv_aload_n B.1.1 B.1.2.1 dX10_look_126 rfl (lv_at hl 0 rfl) ?_
                    refine hy_get (k := 10) (v := .ref (G.2.2.2.2.1 9)) B w (mwq_0 G) rfl in_X10_look_X10 (by decide) (by decide +kernel) rfl dX10_look_127 ?_
                    refine lv_iload_n B.1.1 B.1.2.1 dX10_look_130 rfl (lv_at hl 1 rfl) ?_
                    obtain ⟨h41, v39, e40, hf⟩ := hy_ga_some hf
                    refine hy_iald B w (mwq_9 G) h41 e40 dX10_look_131 ?_
                    refine lv_bipush (v := 6) B.1.1 B.1.2.1 dX10_look_132 (by decide) ?_
                    refine lv_idiv B.1.1 B.1.2.1 dX10_look_134 (by decide) ?_
                    exact hret _ _ _ _ _ _ (Option.some.inj hf).symm w dX10_look_135
                  · rw [if_neg c38] at hf
                    refine lv_iconst (v := (-1)) B.1.1 B.1.2.1 dX10_look_122 (by decide) ?_
                    refine lv_goto (tgt := 135) B.1.1 B.1.2.1 dX10_look_123 (by decide) ?_
                    exact hret _ _ _ _ _ _ (Option.some.inj hf).symm w dX10_look_135
                · rw [if_neg c34] at hf
                  by_cases c42 : x2 = 7
                  · rw [if_pos c42] at hf
                    have c42e : Int32.toInt x2 = 7 := by rw [c42]; rfl
                    refine lv_tableIn (tgt := 136) B.1.1 B.1.2.1 dX10_look_21 (by rw [c42e]; decide) (by rw [c42e]; decide) (by rw [c42e]; rfl) (by decide) ?_
                    refine lv_aload_n B.1.1 B.1.2.1 dX10_look_136 rfl (lv_at hl 0 rfl) ?_
                    refine hy_get (k := 10) (v := .ref (G.2.2.2.2.1 9)) B w (mwq_0 G) rfl in_X10_look_X10 (by decide) (by decide +kernel) rfl dX10_look_137 ?_
                    refine lv_iload_n B.1.1 B.1.2.1 dX10_look_140 rfl (lv_at hl 1 rfl) ?_
                    obtain ⟨h45, v43, e44, hf⟩ := hy_ga_some hf
                    refine hy_iald B w (mwq_9 G) h45 e44 dX10_look_141 ?_
                    refine lv_if_ge (tgt := 149) B.1.1 B.1.2.1 dX10_look_142 (by decide) (fun c46 => ?_) (fun c46 => ?_)
                    · rw [if_pos c46] at hf
                      refine lv_aload_n B.1.1 B.1.2.1 dX10_look_149 rfl (lv_at hl 0 rfl) ?_
                      refine hy_get (k := 10) (v := .ref (G.2.2.2.2.1 9)) B w (mwq_0 G) rfl in_X10_look_X10 (by decide) (by decide +kernel) rfl dX10_look_150 ?_
                      refine lv_iload_n B.1.1 B.1.2.1 dX10_look_153 rfl (lv_at hl 1 rfl) ?_
                      obtain ⟨h49, v47, e48, hf⟩ := hy_ga_some hf
                      refine hy_iald B w (mwq_9 G) h49 e48 dX10_look_154 ?_
                      refine lv_bipush (v := 6) B.1.1 B.1.2.1 dX10_look_155 (by decide) ?_
                      refine lv_irem B.1.1 B.1.2.1 dX10_look_157 (by decide) ?_
                      exact hret _ _ _ _ _ _ (Option.some.inj hf).symm w dX10_look_158
                    · rw [if_neg c46] at hf
                      refine lv_iconst (v := (-1)) B.1.1 B.1.2.1 dX10_look_145 (by decide) ?_
                      refine lv_goto (tgt := 158) B.1.1 B.1.2.1 dX10_look_146 (by decide) ?_
                      exact hret _ _ _ _ _ _ (Option.some.inj hf).symm w dX10_look_158
                  · rw [if_neg c42] at hf
                    by_cases c50 : x2 = 8
                    · rw [if_pos c50] at hf
                      have c50e : Int32.toInt x2 = 8 := by rw [c50]; rfl
                      refine lv_tableIn (tgt := 159) B.1.1 B.1.2.1 dX10_look_21 (by rw [c50e]; decide) (by rw [c50e]; decide) (by rw [c50e]; rfl) (by decide) ?_
                      refine lv_aload_n B.1.1 B.1.2.1 dX10_look_159 rfl (lv_at hl 0 rfl) ?_
                      refine hy_get (k := 10) (v := .ref (G.2.2.2.2.1 9)) B w (mwq_0 G) rfl in_X10_look_X10 (by decide) (by decide +kernel) rfl dX10_look_160 ?_
                      refine lv_iload_n B.1.1 B.1.2.1 dX10_look_163 rfl (lv_at hl 1 rfl) ?_
                      obtain ⟨h53, v51, e52, hf⟩ := hy_ga_some hf
                      refine hy_iald B w (mwq_9 G) h53 e52 dX10_look_164 ?_
                      refine lv_if_ge (tgt := 170) B.1.1 B.1.2.1 dX10_look_165 (by decide) (fun c54 => ?_) (fun c54 => ?_)
                      · rw [if_pos c54] at hf
                        refine lv_iconst (v := 0) B.1.1 B.1.2.1 dX10_look_170 (by decide) ?_
                        refine lv_istore_n (lv' := [(3, .int 0), (0, .ref (G.2.2.2.2.1 0)), (1, .int x1), (2, .int x2)]) B.1.1 B.1.2.1 dX10_look_171 rfl hl (by decide) rfl (fun ls hl => ?_)
                        exact bX10_look_172 hA B hR  hret _ _ _ _ _ _ _ hf w (lv_sub hl [1, 2, 0] rfl)
                      · rw [if_neg c54] at hf
                        refine lv_iconst (v := 0) B.1.1 B.1.2.1 dX10_look_168 (by decide) ?_
                        exact hret _ _ _ _ _ _ (Option.some.inj hf).symm w dX10_look_169
                    · rw [if_neg c50] at hf
                      have c10t := lv_neT (a := 0) c10 rfl
                      have c14t := lv_neT (a := 1) c14 rfl
                      have c18t := lv_neT (a := 2) c18 rfl
                      have c22t := lv_neT (a := 3) c22 rfl
                      have c26t := lv_neT (a := 4) c26 rfl
                      have c30t := lv_neT (a := 5) c30 rfl
                      have c34t := lv_neT (a := 6) c34 rfl
                      have c42t := lv_neT (a := 7) c42 rfl
                      have c50t := lv_neT (a := 8) c50 rfl
                      refine lv_tableOut (tgt := 210) B.1.1 B.1.2.1 dX10_look_21 (by omega) (by decide) ?_
                      refine lv_aload_n B.1.1 B.1.2.1 dX10_look_210 rfl (lv_at hl 0 rfl) ?_
                      refine lv_iconst (v := 2) B.1.1 B.1.2.1 dX10_look_211 (by decide) ?_
                      obtain ⟨σ55, e56, hf⟩ := hy_pf_some hf
                      refine hy_put (k := 0) B w (mwq_0 G) rfl in_X10_look_X10 tyX10 tyX10_ok nmX10 (by decide) (by decide +kernel) rfl rfl (by show 0 < 43; decide) (mwp_0 G) e56 dX10_look_212 (fun H locs w => ?_)
                      refine lv_iconst (v := 0) B.1.1 B.1.2.1 dX10_look_215 (by decide) ?_
                      exact hret _ _ _ _ _ _ (Option.some.inj hf).symm w dX10_look_216
  · rw [if_neg c9] at hf
    refine lv_iconst (v := 0) B.1.1 B.1.2.1 dX10_look_18 (by decide) ?_
    exact hret _ _ _ _ _ _ (Option.some.inj hf).symm w dX10_look_19
set_option maxHeartbeats 4000000 in
set_option maxRecDepth 100000 in
theorem mX10_look (l : Launch) (G : hy_G) (sz : Nat) (σ : hy_S) (x1 : Int32) (x2 : Int32) (o : hy_S × Int32) (hf : fX10_look σ x1 x2 = some o) : hy_M l yX10_look wsX10_look ({ frames := 2, cells := 0, slots := 0, locals := 45 }) mw G σ sz [.ref (G.2.2.2.2.1 0), .int x1, .int x2] o := by
  refine Met.ofW (cc := cX10_look) (maxL := 4) (ret := (some .int)) (by decide +kernel) rfl ?_
  intro p e s m args below meth c s₁ B hml hv
  obtain ⟨rfl, hsz, hP, hK, hD0, hN⟩ := hv
  have hx := B.exec
  have hb := B.bytes
  have hr := B.returns
  have hts := atoms_spec (ws := wsX10_look) B.pre
  have hown : s.vm.findClass RX10 = some m.cls := findClass_of_methodNamed B.named
  have hlocks := B.notSynchronized
  subst hsz
  have hD := hD0.self (sz := s.heap.size)
  have hA : ∀ q : Nat, s.heap.size ≤ q → va_A (mw G σ) s.heap.size q := fun q h => Or.inr h
  have hS : va_S (va_A (mw G σ) s.heap.size) s.heap s.heap [] := va_S.rf
  have hl := lv_entry ([.ref (G.2.2.2.2.1 0), .int x1, .int x2]) (n := 4) (Nat.le_of_ble_eq_true rfl)
  rw [lg_entry_eq]
  generalize (lg_sl ([.ref (G.2.2.2.2.1 0), .int x1, .int x2]) ++ List.replicate (4 - (lg_sl ([.ref (G.2.2.2.2.1 0), .int x1, .int x2])).length) Slot.unset).toArray = ls at hl ⊢
  have hl : lv_has ls 4 [(0, .ref (G.2.2.2.2.1 0)), (1, .int x1), (2, .int x2)] := hl
  refine bX10_look_0 (A := va_A (mw G σ) s.heap.size) hA ⟨⟨hx, hb, hml, hown, hts⟩, hK, hN⟩ ⟨Nat.le_of_ble_eq_true rfl, Nat.le_of_ble_eq_true rfl⟩ (o := o) (fun τ v pc H locs ls ho w d => ?_) σ x1 x2 _ _ _ hf ⟨hP, hD, hS⟩ hl
  exact W.iret hx hb hr (fun t ht hW => ⟨⟨v, τ, rfl, ⟨by rw [ho], by rw [ho]⟩, by have h9 := w.1; rw [← ht] at h9; exact h9⟩, w.2.2.F ht⟩) w.2.2.2.2 d
theorem in_X10_stack_X10 : ∀ w ∈ u_ws RX10 TX10 43, w ∈ wsX10_stack := fun _ h => xt1 (xr (h))
noncomputable def fX10_stack (σ : hy_S) (x1 : Int32) (x2 : Int32) (x3 : Int32) : Option (hy_S × Int32) := hy_pf σ 0 0 (fun σ1 => hy_bd (fX10_noHold σ1 x1 x2) (fun σ3 v4 => hy_bd (fX10_throwsIf σ3 v4 1) (fun σ6 v7 => (if v7 = 0 then hy_ga σ6 10 24 ((6 * x1) + x2) (fun v10 => hy_bd (fX10_in σ6 x3 0 (v10 - 1)) (fun σ13 v14 => (if v14 = 0 then some (σ13, (-1)) else hy_ga σ13 9 240 ((10 * ((6 * x1) + x2)) + x3) (fun v17 => some (σ13, v17))))) else some (σ6, 0)))))
set_option maxHeartbeats 4000000 in
set_option maxRecDepth 100000 in
theorem bX10_stack_0 (hA : ∀ q : Nat, s.heap.size ≤ q → A q) (B : hy_B RX10 cX10_stack 5 wsX10_stack G A p s m args c) (hR : 2 ≤ R.frames ∧ 44 ≤ R.locals) {o : hy_S × Int32}  (hret : ∀ (σ : hy_S) (v : Int32) (pc : Nat) (H : Heap) (locs : List Loc) (ls : Array Slot), o = (σ, v) → hy_w mw G A s σ H locs → decode cX10_stack pc = .ok (.ireturn, 1) → W p l e R s m args below meth c H locs 0 0 Q (F0 m pc ls [.int v])) (σ : hy_S) (x1 : Int32) (x2 : Int32) (x3 : Int32) (H : Heap) (locs : List Loc) (ls : Array Slot) (hf : fX10_stack σ x1 x2 x3 = some o) (w : hy_w mw G A s σ H locs) (hl : lv_has ls 5 [(0, .ref (G.2.2.2.2.1 0)), (1, .int x1), (2, .int x2), (3, .int x3)]) : W p l e R s m args below meth c H locs 0 0 Q (F0 m 0 ls []) := by
  unfold fX10_stack at hf
  refine lv_aload_n B.1.1 B.1.2.1 dX10_stack_0 rfl (lv_at hl 0 rfl) ?_
  refine lv_iconst (v := 0) B.1.1 B.1.2.1 dX10_stack_1 (by decide) ?_
  obtain ⟨σ1, e2, hf⟩ := hy_pf_some hf
  refine hy_put (k := 0) B w (mwq_0 G) rfl in_X10_stack_X10 tyX10 tyX10_ok nmX10 (by decide) (by decide +kernel) rfl rfl (by show 0 < 43; decide) (mwp_0 G) e2 dX10_stack_2 (fun H locs w => ?_)
  refine lv_aload_n B.1.1 B.1.2.1 dX10_stack_5 rfl (lv_at hl 0 rfl) ?_
  refine lv_aload_n B.1.1 B.1.2.1 dX10_stack_6 rfl (lv_at hl 0 rfl) ?_
  refine lv_iload_n B.1.1 B.1.2.1 dX10_stack_7 rfl (lv_at hl 1 rfl) ?_
  refine lv_iload_n B.1.1 B.1.2.1 dX10_stack_8 rfl (lv_at hl 2 rfl) ?_
  obtain ⟨σ3, v4, h5, hf⟩ := hy_bd_some hf
  refine hy_cv (As := [.int x1, .int x2]) (rest := [.ref (G.2.2.2.2.1 0)]) (o := (σ3, v4)) mw_fix hA B w (fun sz => mX10_noHold l G sz σ1 x1 x2 _ h5) (cwV 2 B.1.2.2.2.2 gX10_stack_X10_noHold rfl rfl rfl (by decide +kernel) ⟨by have := hR.1; show 1 + 1 ≤ _; omega, by have := hR.2; show 8 + (3 + 11) + 22 ≤ _; omega⟩) rfl (mwq_0 G σ1) rfl hl.1 rfl (Nat.le_of_ble_eq_true rfl) dX10_stack_9 ⟨Nat.zero_le _, Nat.zero_le _⟩ (fun H locs w => ?_)
  refine lv_iconst (v := 1) B.1.1 B.1.2.1 dX10_stack_12 (by decide) ?_
  obtain ⟨σ6, v7, h8, hf⟩ := hy_bd_some hf
  refine hy_cv (As := [.int v4, .int 1]) (rest := []) (o := (σ6, v7)) mw_fix hA B w (fun sz => mX10_throwsIf l G sz σ3 v4 1 _ h8) (cwV 2 B.1.2.2.2.2 gX10_stack_X10_throwsIf rfl rfl rfl (by decide +kernel) ⟨by have := hR.1; show 0 + 1 ≤ _; omega, by have := hR.2; show 8 + (3 + 11) + 0 ≤ _; omega⟩) rfl (mwq_0 G σ3) rfl hl.1 rfl (Nat.le_of_ble_eq_true rfl) dX10_stack_13 ⟨Nat.zero_le _, Nat.zero_le _⟩ (fun H locs w => ?_)
  refine lv_if_eq (tgt := 21) B.1.1 B.1.2.1 dX10_stack_16 (by decide) (fun c9 => ?_) (fun c9 => ?_)
  · rw [if_pos c9] at hf
    refine lv_bipush (v := 6) B.1.1 B.1.2.1 dX10_stack_21 (by decide) ?_
    refine lv_iload_n B.1.1 B.1.2.1 dX10_stack_23 rfl (lv_at hl 1 rfl) ?_
    refine lv_imul B.1.1 B.1.2.1 dX10_stack_24 ?_
    refine lv_iload_n B.1.1 B.1.2.1 dX10_stack_25 rfl (lv_at hl 2 rfl) ?_
    refine lv_iadd B.1.1 B.1.2.1 dX10_stack_26 ?_
    refine lv_istore (lv' := [(4, .int ((6 * x1) + x2)), (0, .ref (G.2.2.2.2.1 0)), (1, .int x1), (2, .int x2), (3, .int x3)]) B.1.1 B.1.2.1 dX10_stack_27 hl (by decide) rfl (fun ls hl => ?_)
    refine lv_iload_n B.1.1 B.1.2.1 dX10_stack_29 rfl (lv_at hl 4 rfl) ?_
    refine lv_iconst (v := 0) B.1.1 B.1.2.1 dX10_stack_30 (by decide) ?_
    refine lv_aload_n B.1.1 B.1.2.1 dX10_stack_31 rfl (lv_at hl 1 rfl) ?_
    refine hy_get (k := 13) (v := .ref (G.2.2.2.2.1 11)) B w (mwq_0 G) rfl in_X10_stack_X10 (by decide) (by decide +kernel) rfl dX10_stack_32 ?_
    refine lv_iload B.1.1 B.1.2.1 dX10_stack_35 (lv_at hl 0 rfl) ?_
    obtain ⟨h12, v10, e11, hf⟩ := hy_ga_some hf
    refine hy_iald B w (mwq_11 G) h12 e11 dX10_stack_37 ?_
    refine lv_iconst (v := 1) B.1.1 B.1.2.1 dX10_stack_38 (by decide) ?_
    refine lv_isub B.1.1 B.1.2.1 dX10_stack_39 ?_
    obtain ⟨σ13, v14, h15, hf⟩ := hy_bd_some hf
    refine hy_cs (As := [.int x3, .int 0, .int (v10 - 1)]) (rest := []) (o := (σ13, v14)) mw_fix hA B w (fun sz => mX10_in l G sz σ6 x3 0 (v10 - 1) _ h15) (cwS 3 B.1.2.2.2.2 gX10_stack_X10_in rfl rfl rfl (by decide +kernel) ⟨by have := hR.1; show 0 + 1 ≤ _; omega, by have := hR.2; show 8 + (3 + 11) + 0 ≤ _; omega⟩) rfl hl.1 rfl (Nat.le_of_ble_eq_true rfl) dX10_stack_40 ⟨Nat.zero_le _, Nat.zero_le _⟩ (fun H locs w => ?_)
    refine lv_if_eq (tgt := 61) B.1.1 B.1.2.1 dX10_stack_43 (by decide) (fun c16 => ?_) (fun c16 => ?_)
    · rw [if_pos c16] at hf
      refine lv_iconst (v := (-1)) B.1.1 B.1.2.1 dX10_stack_61 (by decide) ?_
      exact hret _ _ _ _ _ _ (Option.some.inj hf).symm w dX10_stack_62
    · rw [if_neg c16] at hf
      refine lv_aload_n B.1.1 B.1.2.1 dX10_stack_46 rfl (lv_at hl 1 rfl) ?_
      refine hy_get (k := 12) (v := .ref (G.2.2.2.2.1 10)) B w (mwq_0 G) rfl in_X10_stack_X10 (by decide) (by decide +kernel) rfl dX10_stack_47 ?_
      refine lv_bipush (v := 10) B.1.1 B.1.2.1 dX10_stack_50 (by decide) ?_
      refine lv_iload B.1.1 B.1.2.1 dX10_stack_52 (lv_at hl 0 rfl) ?_
      refine lv_imul B.1.1 B.1.2.1 dX10_stack_54 ?_
      refine lv_iload_n B.1.1 B.1.2.1 dX10_stack_55 rfl (lv_at hl 4 rfl) ?_
      refine lv_iadd B.1.1 B.1.2.1 dX10_stack_56 ?_
      obtain ⟨h19, v17, e18, hf⟩ := hy_ga_some hf
      refine hy_iald B w (mwq_10 G) h19 e18 dX10_stack_57 ?_
      refine lv_goto (tgt := 62) B.1.1 B.1.2.1 dX10_stack_58 (by decide) ?_
      exact hret _ _ _ _ _ _ (Option.some.inj hf).symm w dX10_stack_62
  · rw [if_neg c9] at hf
    refine lv_iconst (v := 0) B.1.1 B.1.2.1 dX10_stack_19 (by decide) ?_
    exact hret _ _ _ _ _ _ (Option.some.inj hf).symm w dX10_stack_20
set_option maxHeartbeats 4000000 in
set_option maxRecDepth 100000 in
theorem mX10_stack (l : Launch) (G : hy_G) (sz : Nat) (σ : hy_S) (x1 : Int32) (x2 : Int32) (x3 : Int32) (o : hy_S × Int32) (hf : fX10_stack σ x1 x2 x3 = some o) : hy_M l yX10_stack wsX10_stack ({ frames := 2, cells := 0, slots := 0, locals := 44 }) mw G σ sz [.ref (G.2.2.2.2.1 0), .int x1, .int x2, .int x3] o := by
  refine Met.ofW (cc := cX10_stack) (maxL := 5) (ret := (some .int)) (by decide +kernel) rfl ?_
  intro p e s m args below meth c s₁ B hml hv
  obtain ⟨rfl, hsz, hP, hK, hD0, hN⟩ := hv
  have hx := B.exec
  have hb := B.bytes
  have hr := B.returns
  have hts := atoms_spec (ws := wsX10_stack) B.pre
  have hown : s.vm.findClass RX10 = some m.cls := findClass_of_methodNamed B.named
  have hlocks := B.notSynchronized
  subst hsz
  have hD := hD0.self (sz := s.heap.size)
  have hA : ∀ q : Nat, s.heap.size ≤ q → va_A (mw G σ) s.heap.size q := fun q h => Or.inr h
  have hS : va_S (va_A (mw G σ) s.heap.size) s.heap s.heap [] := va_S.rf
  have hl := lv_entry ([.ref (G.2.2.2.2.1 0), .int x1, .int x2, .int x3]) (n := 5) (Nat.le_of_ble_eq_true rfl)
  rw [lg_entry_eq]
  generalize (lg_sl ([.ref (G.2.2.2.2.1 0), .int x1, .int x2, .int x3]) ++ List.replicate (5 - (lg_sl ([.ref (G.2.2.2.2.1 0), .int x1, .int x2, .int x3])).length) Slot.unset).toArray = ls at hl ⊢
  have hl : lv_has ls 5 [(0, .ref (G.2.2.2.2.1 0)), (1, .int x1), (2, .int x2), (3, .int x3)] := hl
  refine bX10_stack_0 (A := va_A (mw G σ) s.heap.size) hA ⟨⟨hx, hb, hml, hown, hts⟩, hK, hN⟩ ⟨Nat.le_of_ble_eq_true rfl, Nat.le_of_ble_eq_true rfl⟩ (o := o) (fun τ v pc H locs ls ho w d => ?_) σ x1 x2 x3 _ _ _ hf ⟨hP, hD, hS⟩ hl
  exact W.iret hx hb hr (fun t ht hW => ⟨⟨v, τ, rfl, ⟨by rw [ho], by rw [ho]⟩, by have h9 := w.1; rw [← ht] at h9; exact h9⟩, w.2.2.F ht⟩) w.2.2.2.2 d
theorem in_X10_feed_X10 : ∀ w ∈ u_ws RX10 TX10 43, w ∈ wsX10_feed := fun _ h => xt1 (xr (h))
noncomputable def fX10_feed_60 : Nat → hy_S → Int32 → Option (hy_S × Int32)
  | 0, _, _ => none
  | n + 1, σ, x6 => (if 20 ≤ x6 then hy_pf σ 4 ((σ.2 4) + 20) (fun σ2 => some (σ2, (σ2.2 4))) else hy_ga σ 18 5 (x6 / 4) (fun v4 => hy_pa σ 17 400 ((σ.2 4) + x6) (vp_nar .byte ((Int32.toInt8 (v4 >>> ((24 - (8 * (x6 - x6 / 4 * 4))) &&& 31))).toInt32)) (fun σ7 => (fX10_feed_60 n) σ7 (x6 + 1))))
noncomputable def fX10_feed (σ : hy_S) (x1 : Int32) (x2 : Int32) (x3 : Int32) (x4 : Int32) (x5 : Int32) : Option (hy_S × Int32) := hy_pf σ 0 0 (fun σ1 => (if ((σ1.2 4) + 20) ≤ 400 then hy_pa σ1 18 5 0 x1 (fun σ4 => hy_pa σ4 18 5 1 x2 (fun σ7 => hy_pa σ7 18 5 2 x3 (fun σ10 => hy_pa σ10 18 5 3 x4 (fun σ13 => hy_pa σ13 18 5 4 x5 (fun σ16 => fX10_feed_60 hy_fu σ16 0))))) else some (σ1, (-1))))
set_option maxHeartbeats 4000000 in
set_option maxRecDepth 100000 in
theorem bX10_feed_60 (hA : ∀ q : Nat, s.heap.size ≤ q → A q) (B : hy_B RX10 cX10_feed 7 wsX10_feed G A p s m args c) (hR : 0 ≤ R.frames ∧ 0 ≤ R.locals) {o : hy_S × Int32}  (hret : ∀ (σ : hy_S) (v : Int32) (pc : Nat) (H : Heap) (locs : List Loc) (ls : Array Slot), o = (σ, v) → hy_w mw G A s σ H locs → decode cX10_feed pc = .ok (.ireturn, 1) → W p l e R s m args below meth c H locs 0 0 Q (F0 m pc ls [.int v])) : ∀ (n : Nat) (σ : hy_S) (x6 : Int32) (H : Heap) (locs : List Loc) (ls : Array Slot), fX10_feed_60 n σ x6 = some o → hy_w mw G A s σ H locs → lv_has ls 7 [(0, .ref (G.2.2.2.2.1 0)), (6, .int x6)] → W p l e R s m args below meth c H locs 0 0 Q (F0 m 60 ls []) := by
  intro n
  induction n with
  | zero => intro σ x6 H locs ls hf; cases hf
  | succ n hk60 =>
    intro σ x6 H locs ls hf w hl
    unfold fX10_feed_60 at hf
    refine lv_iload B.1.1 B.1.2.1 dX10_feed_60 (lv_at hl 1 rfl) ?_
    refine lv_bipush (v := 20) B.1.1 B.1.2.1 dX10_feed_62 (by decide) ?_
    refine lv_icmp_ge (tgt := 106) B.1.1 B.1.2.1 dX10_feed_64 (by decide) (fun c1 => ?_) (fun c1 => ?_)
    · rw [if_pos c1] at hf
      refine lv_aload_n B.1.1 B.1.2.1 dX10_feed_106 rfl (lv_at hl 0 rfl) ?_
      refine lv_dup B.1.1 B.1.2.1 dX10_feed_107 rfl ?_
      refine hy_get (k := 22) (v := .int (σ.2 4)) B w (mwq_0 G) rfl in_X10_feed_X10 (by decide) (by decide +kernel) rfl dX10_feed_108 ?_
      refine lv_bipush (v := 20) B.1.1 B.1.2.1 dX10_feed_111 (by decide) ?_
      refine lv_iadd B.1.1 B.1.2.1 dX10_feed_113 ?_
      obtain ⟨σ2, e3, hf⟩ := hy_pf_some hf
      refine hy_put (k := 22) B w (mwq_0 G) rfl in_X10_feed_X10 tyX10 tyX10_ok nmX10 (by decide) (by decide +kernel) rfl rfl (by show 22 < 43; decide) (mwp_4 G) e3 dX10_feed_114 (fun H locs w => ?_)
      refine lv_aload_n B.1.1 B.1.2.1 dX10_feed_117 rfl (lv_at hl 0 rfl) ?_
      refine hy_get (k := 22) (v := .int (σ2.2 4)) B w (mwq_0 G) rfl in_X10_feed_X10 (by decide) (by decide +kernel) rfl dX10_feed_118 ?_
      exact hret _ _ _ _ _ _ (Option.some.inj hf).symm w dX10_feed_121
    · rw [if_neg c1] at hf
      refine lv_aload_n B.1.1 B.1.2.1 dX10_feed_67 rfl (lv_at hl 0 rfl) ?_
      refine hy_get (k := 21) (v := .ref (G.2.2.2.2.1 18)) B w (mwq_0 G) rfl in_X10_feed_X10 (by decide) (by decide +kernel) rfl dX10_feed_68 ?_
      refine lv_aload_n B.1.1 B.1.2.1 dX10_feed_71 rfl (lv_at hl 0 rfl) ?_
      refine hy_get (k := 22) (v := .int (σ.2 4)) B w (mwq_0 G) rfl in_X10_feed_X10 (by decide) (by decide +kernel) rfl dX10_feed_72 ?_
      refine lv_iload B.1.1 B.1.2.1 dX10_feed_75 (lv_at hl 1 rfl) ?_
      refine lv_iadd B.1.1 B.1.2.1 dX10_feed_77 ?_
      refine lv_aload_n B.1.1 B.1.2.1 dX10_feed_78 rfl (lv_at hl 0 rfl) ?_
      refine hy_get (k := 27) (v := .ref (G.2.2.2.2.1 19)) B w (mwq_0 G) rfl in_X10_feed_X10 (by decide) (by decide +kernel) rfl dX10_feed_79 ?_
      refine lv_iload B.1.1 B.1.2.1 dX10_feed_82 (lv_at hl 1 rfl) ?_
      refine lv_iconst (v := 4) B.1.1 B.1.2.1 dX10_feed_84 (by decide) ?_
      refine lv_idiv B.1.1 B.1.2.1 dX10_feed_85 (by decide) ?_
      obtain ⟨h6, v4, e5, hf⟩ := hy_ga_some hf
      refine hy_iald B w (mwq_19 G) h6 e5 dX10_feed_86 ?_
      refine lv_bipush (v := 24) B.1.1 B.1.2.1 dX10_feed_87 (by decide) ?_
      refine lv_bipush (v := 8) B.1.1 B.1.2.1 dX10_feed_89 (by decide) ?_
      refine lv_iload B.1.1 B.1.2.1 dX10_feed_91 (lv_at hl 1 rfl) ?_
      refine lv_iconst (v := 4) B.1.1 B.1.2.1 dX10_feed_93 (by decide) ?_
      refine lv_irem B.1.1 B.1.2.1 dX10_feed_94 (by decide) ?_
      refine lv_imul B.1.1 B.1.2.1 dX10_feed_95 ?_
      refine lv_isub B.1.1 B.1.2.1 dX10_feed_96 ?_
      refine lv_ishr B.1.1 B.1.2.1 dX10_feed_97 ?_
      refine lv_i2b (v := (Int32.toInt8 (v4 >>> ((24 - (8 * (x6 - x6 / 4 * 4))) &&& 31))).toInt32) B.1.1 B.1.2.1 dX10_feed_98 rfl ?_
      obtain ⟨h9, σ7, e8, hf⟩ := hy_pa_some hf
      refine hy_bast B w (mwq_18 G) (mws_18 G) h9 e8 dX10_feed_99 (fun H locs w => ?_)
      refine lv_iinc (v := (x6 + 1)) (lv' := [(6, .int (x6 + 1)), (0, .ref (G.2.2.2.2.1 0))]) B.1.1 B.1.2.1 dX10_feed_100 hl (k := 1) rfl rfl (by decide) rfl (fun ls hl => ?_)
      refine lv_goto (tgt := 60) B.1.1 B.1.2.1 dX10_feed_103 (by decide) ?_
      exact hk60 _ _ _ _ _ hf w (lv_sub hl [1, 0] rfl)
set_option maxHeartbeats 4000000 in
set_option maxRecDepth 100000 in
theorem bX10_feed_0 (hA : ∀ q : Nat, s.heap.size ≤ q → A q) (B : hy_B RX10 cX10_feed 7 wsX10_feed G A p s m args c) (hR : 0 ≤ R.frames ∧ 0 ≤ R.locals) {o : hy_S × Int32}  (hret : ∀ (σ : hy_S) (v : Int32) (pc : Nat) (H : Heap) (locs : List Loc) (ls : Array Slot), o = (σ, v) → hy_w mw G A s σ H locs → decode cX10_feed pc = .ok (.ireturn, 1) → W p l e R s m args below meth c H locs 0 0 Q (F0 m pc ls [.int v])) (σ : hy_S) (x1 : Int32) (x2 : Int32) (x3 : Int32) (x4 : Int32) (x5 : Int32) (H : Heap) (locs : List Loc) (ls : Array Slot) (hf : fX10_feed σ x1 x2 x3 x4 x5 = some o) (w : hy_w mw G A s σ H locs) (hl : lv_has ls 7 [(0, .ref (G.2.2.2.2.1 0)), (1, .int x1), (2, .int x2), (3, .int x3), (4, .int x4), (5, .int x5)]) : W p l e R s m args below meth c H locs 0 0 Q (F0 m 0 ls []) := by
  unfold fX10_feed at hf
  refine lv_aload_n B.1.1 B.1.2.1 dX10_feed_0 rfl (lv_at hl 0 rfl) ?_
  refine lv_iconst (v := 0) B.1.1 B.1.2.1 dX10_feed_1 (by decide) ?_
  obtain ⟨σ1, e2, hf⟩ := hy_pf_some hf
  refine hy_put (k := 0) B w (mwq_0 G) rfl in_X10_feed_X10 tyX10 tyX10_ok nmX10 (by decide) (by decide +kernel) rfl rfl (by show 0 < 43; decide) (mwp_0 G) e2 dX10_feed_2 (fun H locs w => ?_)
  refine lv_aload_n B.1.1 B.1.2.1 dX10_feed_5 rfl (lv_at hl 0 rfl) ?_
  refine hy_get (k := 22) (v := .int (σ1.2 4)) B w (mwq_0 G) rfl in_X10_feed_X10 (by decide) (by decide +kernel) rfl dX10_feed_6 ?_
  refine lv_bipush (v := 20) B.1.1 B.1.2.1 dX10_feed_9 (by decide) ?_
  refine lv_iadd B.1.1 B.1.2.1 dX10_feed_11 ?_
  refine lv_sipush (v := 400) B.1.1 B.1.2.1 dX10_feed_12 (by decide) ?_
  refine lv_icmp_le (tgt := 20) B.1.1 B.1.2.1 dX10_feed_15 (by decide) (fun c3 => ?_) (fun c3 => ?_)
  · rw [if_pos c3] at hf
    refine lv_aload_n B.1.1 B.1.2.1 dX10_feed_20 rfl (lv_at hl 0 rfl) ?_
    refine hy_get (k := 27) (v := .ref (G.2.2.2.2.1 19)) B w (mwq_0 G) rfl in_X10_feed_X10 (by decide) (by decide +kernel) rfl dX10_feed_21 ?_
    refine lv_iconst (v := 0) B.1.1 B.1.2.1 dX10_feed_24 (by decide) ?_
    refine lv_iload_n B.1.1 B.1.2.1 dX10_feed_25 rfl (lv_at hl 1 rfl) ?_
    obtain ⟨h6, σ4, e5, hf⟩ := hy_pa_some hf
    refine hy_iast B w (mwq_19 G) (mws_19 G) h6 e5 dX10_feed_26 (fun H locs w => ?_)
    refine lv_aload_n B.1.1 B.1.2.1 dX10_feed_27 rfl (lv_at hl 0 rfl) ?_
    refine hy_get (k := 27) (v := .ref (G.2.2.2.2.1 19)) B w (mwq_0 G) rfl in_X10_feed_X10 (by decide) (by decide +kernel) rfl dX10_feed_28 ?_
    refine lv_iconst (v := 1) B.1.1 B.1.2.1 dX10_feed_31 (by decide) ?_
    refine lv_iload_n B.1.1 B.1.2.1 dX10_feed_32 rfl (lv_at hl 2 rfl) ?_
    obtain ⟨h9, σ7, e8, hf⟩ := hy_pa_some hf
    refine hy_iast B w (mwq_19 G) (mws_19 G) h9 e8 dX10_feed_33 (fun H locs w => ?_)
    refine lv_aload_n B.1.1 B.1.2.1 dX10_feed_34 rfl (lv_at hl 0 rfl) ?_
    refine hy_get (k := 27) (v := .ref (G.2.2.2.2.1 19)) B w (mwq_0 G) rfl in_X10_feed_X10 (by decide) (by decide +kernel) rfl dX10_feed_35 ?_
    refine lv_iconst (v := 2) B.1.1 B.1.2.1 dX10_feed_38 (by decide) ?_
    refine lv_iload_n B.1.1 B.1.2.1 dX10_feed_39 rfl (lv_at hl 3 rfl) ?_
    obtain ⟨h12, σ10, e11, hf⟩ := hy_pa_some hf
    refine hy_iast B w (mwq_19 G) (mws_19 G) h12 e11 dX10_feed_40 (fun H locs w => ?_)
    refine lv_aload_n B.1.1 B.1.2.1 dX10_feed_41 rfl (lv_at hl 0 rfl) ?_
    refine hy_get (k := 27) (v := .ref (G.2.2.2.2.1 19)) B w (mwq_0 G) rfl in_X10_feed_X10 (by decide) (by decide +kernel) rfl dX10_feed_42 ?_
    refine lv_iconst (v := 3) B.1.1 B.1.2.1 dX10_feed_45 (by decide) ?_
    refine lv_iload B.1.1 B.1.2.1 dX10_feed_46 (lv_at hl 4 rfl) ?_
    obtain ⟨h15, σ13, e14, hf⟩ := hy_pa_some hf
    refine hy_iast B w (mwq_19 G) (mws_19 G) h15 e14 dX10_feed_48 (fun H locs w => ?_)
    refine lv_aload_n B.1.1 B.1.2.1 dX10_feed_49 rfl (lv_at hl 0 rfl) ?_
    refine hy_get (k := 27) (v := .ref (G.2.2.2.2.1 19)) B w (mwq_0 G) rfl in_X10_feed_X10 (by decide) (by decide +kernel) rfl dX10_feed_50 ?_
    refine lv_iconst (v := 4) B.1.1 B.1.2.1 dX10_feed_53 (by decide) ?_
    refine lv_iload B.1.1 B.1.2.1 dX10_feed_54 (lv_at hl 5 rfl) ?_
    obtain ⟨h18, σ16, e17, hf⟩ := hy_pa_some hf
    refine hy_iast B w (mwq_19 G) (mws_19 G) h18 e17 dX10_feed_56 (fun H locs w => ?_)
    refine lv_iconst (v := 0) B.1.1 B.1.2.1 dX10_feed_57 (by decide) ?_
    refine lv_istore (lv' := [(6, .int 0), (0, .ref (G.2.2.2.2.1 0)), (1, .int x1), (2, .int x2), (3, .int x3), (4, .int x4), (5, .int x5)]) B.1.1 B.1.2.1 dX10_feed_58 hl (by decide) rfl (fun ls hl => ?_)
    exact bX10_feed_60 hA B hR  hret _ _ _ _ _ _ hf w (lv_sub hl [1, 0] rfl)
  · rw [if_neg c3] at hf
    refine lv_iconst (v := (-1)) B.1.1 B.1.2.1 dX10_feed_18 (by decide) ?_
    exact hret _ _ _ _ _ _ (Option.some.inj hf).symm w dX10_feed_19
set_option maxHeartbeats 4000000 in
set_option maxRecDepth 100000 in
theorem mX10_feed (l : Launch) (G : hy_G) (sz : Nat) (σ : hy_S) (x1 : Int32) (x2 : Int32) (x3 : Int32) (x4 : Int32) (x5 : Int32) (o : hy_S × Int32) (hf : fX10_feed σ x1 x2 x3 x4 x5 = some o) : hy_M l yX10_feed wsX10_feed ({ frames := 0, cells := 0, slots := 0, locals := 0 }) mw G σ sz [.ref (G.2.2.2.2.1 0), .int x1, .int x2, .int x3, .int x4, .int x5] o := by
  refine Met.ofW (cc := cX10_feed) (maxL := 7) (ret := (some .int)) (by decide +kernel) rfl ?_
  intro p e s m args below meth c s₁ B hml hv
  obtain ⟨rfl, hsz, hP, hK, hD0, hN⟩ := hv
  have hx := B.exec
  have hb := B.bytes
  have hr := B.returns
  have hts := atoms_spec (ws := wsX10_feed) B.pre
  have hown : s.vm.findClass RX10 = some m.cls := findClass_of_methodNamed B.named
  have hlocks := B.notSynchronized
  subst hsz
  have hD := hD0.self (sz := s.heap.size)
  have hA : ∀ q : Nat, s.heap.size ≤ q → va_A (mw G σ) s.heap.size q := fun q h => Or.inr h
  have hS : va_S (va_A (mw G σ) s.heap.size) s.heap s.heap [] := va_S.rf
  have hl := lv_entry ([.ref (G.2.2.2.2.1 0), .int x1, .int x2, .int x3, .int x4, .int x5]) (n := 7) (Nat.le_of_ble_eq_true rfl)
  rw [lg_entry_eq]
  generalize (lg_sl ([.ref (G.2.2.2.2.1 0), .int x1, .int x2, .int x3, .int x4, .int x5]) ++ List.replicate (7 - (lg_sl ([.ref (G.2.2.2.2.1 0), .int x1, .int x2, .int x3, .int x4, .int x5])).length) Slot.unset).toArray = ls at hl ⊢
  have hl : lv_has ls 7 [(0, .ref (G.2.2.2.2.1 0)), (1, .int x1), (2, .int x2), (3, .int x3), (4, .int x4), (5, .int x5)] := hl
  refine bX10_feed_0 (A := va_A (mw G σ) s.heap.size) hA ⟨⟨hx, hb, hml, hown, hts⟩, hK, hN⟩ ⟨Nat.le_of_ble_eq_true rfl, Nat.le_of_ble_eq_true rfl⟩ (o := o) (fun τ v pc H locs ls ho w d => ?_) σ x1 x2 x3 x4 x5 _ _ _ hf ⟨hP, hD, hS⟩ hl
  exact W.iret hx hb hr (fun t ht hW => ⟨⟨v, τ, rfl, ⟨by rw [ho], by rw [ho]⟩, by have h9 := w.1; rw [← ht] at h9; exact h9⟩, w.2.2.F ht⟩) w.2.2.2.2 d
theorem in_X10_end_X10 : ∀ w ∈ u_ws RX10 TX10 43, w ∈ wsX10_end := fun _ h => xt1 (xr (h))
noncomputable def fX10_end (σ : hy_S) (x1 : Int32) : Option (hy_S × Int32) := hy_pf σ 0 0 (fun σ1 => (if x1 < 0 then some (σ1, 0) else (if x1 ≤ (σ1.2 4) then hy_pf σ1 4 x1 (fun σ5 => some (σ5, 1)) else some (σ1, 0))))
set_option maxHeartbeats 4000000 in
set_option maxRecDepth 100000 in
theorem bX10_end_0 (hA : ∀ q : Nat, s.heap.size ≤ q → A q) (B : hy_B RX10 cX10_end 2 wsX10_end G A p s m args c) (hR : 0 ≤ R.frames ∧ 0 ≤ R.locals) {o : hy_S × Int32}  (hret : ∀ (σ : hy_S) (v : Int32) (pc : Nat) (H : Heap) (locs : List Loc) (ls : Array Slot), o = (σ, v) → (v = 0 ∨ v = 1) → hy_w mw G A s σ H locs → decode cX10_end pc = .ok (.ireturn, 1) → W p l e R s m args below meth c H locs 0 0 Q (F0 m pc ls [.int v])) (σ : hy_S) (x1 : Int32) (H : Heap) (locs : List Loc) (ls : Array Slot) (hf : fX10_end σ x1 = some o) (w : hy_w mw G A s σ H locs) (hl : lv_has ls 2 [(0, .ref (G.2.2.2.2.1 0)), (1, .int x1)]) : W p l e R s m args below meth c H locs 0 0 Q (F0 m 0 ls []) := by
  unfold fX10_end at hf
  refine lv_aload_n B.1.1 B.1.2.1 dX10_end_0 rfl (lv_at hl 0 rfl) ?_
  refine lv_iconst (v := 0) B.1.1 B.1.2.1 dX10_end_1 (by decide) ?_
  obtain ⟨σ1, e2, hf⟩ := hy_pf_some hf
  refine hy_put (k := 0) B w (mwq_0 G) rfl in_X10_end_X10 tyX10 tyX10_ok nmX10 (by decide) (by decide +kernel) rfl rfl (by show 0 < 43; decide) (mwp_0 G) e2 dX10_end_2 (fun H locs w => ?_)
  refine lv_iload_n B.1.1 B.1.2.1 dX10_end_5 rfl (lv_at hl 1 rfl) ?_
  refine lv_if_lt (tgt := 17) B.1.1 B.1.2.1 dX10_end_6 (by decide) (fun c3 => ?_) (fun c3 => ?_)
  · rw [if_pos c3] at hf
    refine lv_iconst (v := 0) B.1.1 B.1.2.1 dX10_end_17 (by decide) ?_
    exact hret _ _ _ _ _ _ (Option.some.inj hf).symm (Or.inl rfl) w dX10_end_18
  · rw [if_neg c3] at hf
    refine lv_iload_n B.1.1 B.1.2.1 dX10_end_9 rfl (lv_at hl 1 rfl) ?_
    refine lv_aload_n B.1.1 B.1.2.1 dX10_end_10 rfl (lv_at hl 0 rfl) ?_
    refine hy_get (k := 22) (v := .int (σ1.2 4)) B w (mwq_0 G) rfl in_X10_end_X10 (by decide) (by decide +kernel) rfl dX10_end_11 ?_
    refine lv_icmp_le (tgt := 19) B.1.1 B.1.2.1 dX10_end_14 (by decide) (fun c4 => ?_) (fun c4 => ?_)
    · rw [if_pos c4] at hf
      refine lv_aload_n B.1.1 B.1.2.1 dX10_end_19 rfl (lv_at hl 0 rfl) ?_
      refine lv_iload_n B.1.1 B.1.2.1 dX10_end_20 rfl (lv_at hl 1 rfl) ?_
      obtain ⟨σ5, e6, hf⟩ := hy_pf_some hf
      refine hy_put (k := 22) B w (mwq_0 G) rfl in_X10_end_X10 tyX10 tyX10_ok nmX10 (by decide) (by decide +kernel) rfl rfl (by show 22 < 43; decide) (mwp_4 G) e6 dX10_end_21 (fun H locs w => ?_)
      refine lv_iconst (v := 1) B.1.1 B.1.2.1 dX10_end_24 (by decide) ?_
      exact hret _ _ _ _ _ _ (Option.some.inj hf).symm (Or.inr rfl) w dX10_end_25
    · rw [if_neg c4] at hf
      refine lv_iconst (v := 0) B.1.1 B.1.2.1 dX10_end_17 (by decide) ?_
      exact hret _ _ _ _ _ _ (Option.some.inj hf).symm (Or.inl rfl) w dX10_end_18
set_option maxHeartbeats 4000000 in
set_option maxRecDepth 100000 in
theorem mX10_end (l : Launch) (G : hy_G) (sz : Nat) (σ : hy_S) (x1 : Int32) (o : hy_S × Int32) (hf : fX10_end σ x1 = some o) : hy_M l yX10_end wsX10_end ({ frames := 0, cells := 0, slots := 0, locals := 0 }) mw G σ sz [.ref (G.2.2.2.2.1 0), .int x1] o := by
  refine Met.ofW (cc := cX10_end) (maxL := 2) (ret := (some .boolean)) (by decide +kernel) rfl ?_
  intro p e s m args below meth c s₁ B hml hv
  obtain ⟨rfl, hsz, hP, hK, hD0, hN⟩ := hv
  have hx := B.exec
  have hb := B.bytes
  have hr := B.returns
  have hts := atoms_spec (ws := wsX10_end) B.pre
  have hown : s.vm.findClass RX10 = some m.cls := findClass_of_methodNamed B.named
  have hlocks := B.notSynchronized
  subst hsz
  have hD := hD0.self (sz := s.heap.size)
  have hA : ∀ q : Nat, s.heap.size ≤ q → va_A (mw G σ) s.heap.size q := fun q h => Or.inr h
  have hS : va_S (va_A (mw G σ) s.heap.size) s.heap s.heap [] := va_S.rf
  have hl := lv_entry ([.ref (G.2.2.2.2.1 0), .int x1]) (n := 2) (Nat.le_of_ble_eq_true rfl)
  rw [lg_entry_eq]
  generalize (lg_sl ([.ref (G.2.2.2.2.1 0), .int x1]) ++ List.replicate (2 - (lg_sl ([.ref (G.2.2.2.2.1 0), .int x1])).length) Slot.unset).toArray = ls at hl ⊢
  have hl : lv_has ls 2 [(0, .ref (G.2.2.2.2.1 0)), (1, .int x1)] := hl
  refine bX10_end_0 (A := va_A (mw G σ) s.heap.size) hA ⟨⟨hx, hb, hml, hown, hts⟩, hK, hN⟩ ⟨Nat.le_of_ble_eq_true rfl, Nat.le_of_ble_eq_true rfl⟩ (o := o) (fun τ v pc H locs ls ho hz w d => ?_) σ x1 _ _ _ hf ⟨hP, hD, hS⟩ hl
  exact W.zret hx hb hr (hy_bool hz) (fun t ht hW => ⟨⟨v, τ, rfl, ⟨by rw [ho], by rw [ho]⟩, by have h9 := w.1; rw [← ht] at h9; exact h9⟩, w.2.2.F ht⟩) w.2.2.2.2 d
theorem in_X10_rate_X10 : ∀ w ∈ u_ws RX10 TX10 43, w ∈ wsX10_rate := fun _ h => xt1 (xr (h))
noncomputable def fX10_rate_45 (σ : hy_S) (s0 : Int32) (x1 : Int32) (x2 : Int32) : Option (hy_S × Int32) := hy_bd (fX10_throwsIf σ s0 2) (fun σ1 v2 => (if v2 = 0 then hy_pa σ1 14 8 x1 x2 (fun σ5 => some (σ5, 0)) else some (σ1, 0)))
noncomputable def fX10_rate_21 (σ : hy_S) (s0 : Int32) (x1 : Int32) (x2 : Int32) : Option (hy_S × Int32) := hy_bd (fX10_throwsIf σ s0 1) (fun σ1 v2 => (if v2 = 0 then hy_bd (fX10_in σ1 x2 0 1000) (fun σ5 v6 => (if v6 = 0 then fX10_rate_45 σ5 1 x1 x2 else fX10_rate_45 σ5 0 x1 x2)) else some (σ1, 0)))
noncomputable def fX10_rate (σ : hy_S) (x1 : Int32) (x2 : Int32) : Option (hy_S × Int32) := hy_pf σ 0 0 (fun σ1 => hy_bd (fX10_in σ1 x1 0 7) (fun σ3 v4 => (if v4 = 0 then fX10_rate_21 σ3 1 x1 x2 else fX10_rate_21 σ3 0 x1 x2)))
set_option maxHeartbeats 4000000 in
set_option maxRecDepth 100000 in
theorem bX10_rate_45 (hA : ∀ q : Nat, s.heap.size ≤ q → A q) (B : hy_B RX10 cX10_rate 3 wsX10_rate G A p s m args c) (hR : 1 ≤ R.frames ∧ 22 ≤ R.locals) {o : hy_S × Int32}  (hret : ∀ (σ : hy_S) (pc : Nat) (H : Heap) (locs : List Loc) (ls : Array Slot), o = (σ, 0) → hy_w mw G A s σ H locs → decode cX10_rate pc = .ok (.return_, 1) → W p l e R s m args below meth c H locs 0 0 Q (F0 m pc ls [])) (σ : hy_S) (s0 : Int32) (x1 : Int32) (x2 : Int32) (H : Heap) (locs : List Loc) (ls : Array Slot) (hf : fX10_rate_45 σ s0 x1 x2 = some o) (w : hy_w mw G A s σ H locs) (hl : lv_has ls 3 [(0, .ref (G.2.2.2.2.1 0)), (1, .int x1), (2, .int x2)]) : W p l e R s m args below meth c H locs 0 0 Q (F0 m 45 ls [.int s0, .ref (G.2.2.2.2.1 0)]) := by
  unfold fX10_rate_45 at hf
  refine lv_iconst (v := 2) B.1.1 B.1.2.1 dX10_rate_45 (by decide) ?_
  obtain ⟨σ1, v2, h3, hf⟩ := hy_bd_some hf
  refine hy_cv (As := [.int s0, .int 2]) (rest := []) (o := (σ1, v2)) mw_fix hA B w (fun sz => mX10_throwsIf l G sz σ s0 2 _ h3) (cwV 2 B.1.2.2.2.2 gX10_rate_X10_throwsIf rfl rfl rfl (by decide +kernel) ⟨by have := hR.1; show 0 + 1 ≤ _; omega, by have := hR.2; show 8 + (3 + 11) + 0 ≤ _; omega⟩) rfl (mwq_0 G σ) rfl hl.1 rfl (Nat.le_of_ble_eq_true rfl) dX10_rate_46 ⟨Nat.zero_le _, Nat.zero_le _⟩ (fun H locs w => ?_)
  refine lv_if_eq (tgt := 53) B.1.1 B.1.2.1 dX10_rate_49 (by decide) (fun c4 => ?_) (fun c4 => ?_)
  · rw [if_pos c4] at hf
    refine lv_aload_n B.1.1 B.1.2.1 dX10_rate_53 rfl (lv_at hl 0 rfl) ?_
    refine hy_get (k := 18) (v := .ref (G.2.2.2.2.1 15)) B w (mwq_0 G) rfl in_X10_rate_X10 (by decide) (by decide +kernel) rfl dX10_rate_54 ?_
    refine lv_iload_n B.1.1 B.1.2.1 dX10_rate_57 rfl (lv_at hl 1 rfl) ?_
    refine lv_iload_n B.1.1 B.1.2.1 dX10_rate_58 rfl (lv_at hl 2 rfl) ?_
    obtain ⟨h7, σ5, e6, hf⟩ := hy_pa_some hf
    refine hy_iast B w (mwq_15 G) (mws_15 G) h7 e6 dX10_rate_59 (fun H locs w => ?_)
    exact hret _ _ _ _ _ (Option.some.inj hf).symm w dX10_rate_60
  · rw [if_neg c4] at hf
    exact hret _ _ _ _ _ (Option.some.inj hf).symm w dX10_rate_52
set_option maxHeartbeats 4000000 in
set_option maxRecDepth 100000 in
theorem bX10_rate_21 (hA : ∀ q : Nat, s.heap.size ≤ q → A q) (B : hy_B RX10 cX10_rate 3 wsX10_rate G A p s m args c) (hR : 1 ≤ R.frames ∧ 22 ≤ R.locals) {o : hy_S × Int32}  (hret : ∀ (σ : hy_S) (pc : Nat) (H : Heap) (locs : List Loc) (ls : Array Slot), o = (σ, 0) → hy_w mw G A s σ H locs → decode cX10_rate pc = .ok (.return_, 1) → W p l e R s m args below meth c H locs 0 0 Q (F0 m pc ls [])) (σ : hy_S) (s0 : Int32) (x1 : Int32) (x2 : Int32) (H : Heap) (locs : List Loc) (ls : Array Slot) (hf : fX10_rate_21 σ s0 x1 x2 = some o) (w : hy_w mw G A s σ H locs) (hl : lv_has ls 3 [(0, .ref (G.2.2.2.2.1 0)), (1, .int x1), (2, .int x2)]) : W p l e R s m args below meth c H locs 0 0 Q (F0 m 21 ls [.int s0, .ref (G.2.2.2.2.1 0)]) := by
  unfold fX10_rate_21 at hf
  refine lv_iconst (v := 1) B.1.1 B.1.2.1 dX10_rate_21 (by decide) ?_
  obtain ⟨σ1, v2, h3, hf⟩ := hy_bd_some hf
  refine hy_cv (As := [.int s0, .int 1]) (rest := []) (o := (σ1, v2)) mw_fix hA B w (fun sz => mX10_throwsIf l G sz σ s0 1 _ h3) (cwV 2 B.1.2.2.2.2 gX10_rate_X10_throwsIf rfl rfl rfl (by decide +kernel) ⟨by have := hR.1; show 0 + 1 ≤ _; omega, by have := hR.2; show 8 + (3 + 11) + 0 ≤ _; omega⟩) rfl (mwq_0 G σ) rfl hl.1 rfl (Nat.le_of_ble_eq_true rfl) dX10_rate_22 ⟨Nat.zero_le _, Nat.zero_le _⟩ (fun H locs w => ?_)
  refine lv_if_ne (tgt := 52) B.1.1 B.1.2.1 dX10_rate_25 (by decide) (fun c4 => ?_) (fun c4 => ?_)
  · rw [if_neg c4] at hf
    exact hret _ _ _ _ _ (Option.some.inj hf).symm w dX10_rate_52
  · rw [if_pos c4] at hf
    refine lv_aload_n B.1.1 B.1.2.1 dX10_rate_28 rfl (lv_at hl 0 rfl) ?_
    refine lv_iload_n B.1.1 B.1.2.1 dX10_rate_29 rfl (lv_at hl 2 rfl) ?_
    refine lv_iconst (v := 0) B.1.1 B.1.2.1 dX10_rate_30 (by decide) ?_
    refine lv_sipush (v := 1000) B.1.1 B.1.2.1 dX10_rate_31 (by decide) ?_
    obtain ⟨σ5, v6, h7, hf⟩ := hy_bd_some hf
    refine hy_cs (As := [.int x2, .int 0, .int 1000]) (rest := [.ref (G.2.2.2.2.1 0)]) (o := (σ5, v6)) mw_fix hA B w (fun sz => mX10_in l G sz σ1 x2 0 1000 _ h7) (cwS 3 B.1.2.2.2.2 gX10_rate_X10_in rfl rfl rfl (by decide +kernel) ⟨by have := hR.1; show 0 + 1 ≤ _; omega, by have := hR.2; show 8 + (3 + 11) + 0 ≤ _; omega⟩) rfl hl.1 rfl (Nat.le_of_ble_eq_true rfl) dX10_rate_34 ⟨Nat.zero_le _, Nat.zero_le _⟩ (fun H locs w => ?_)
    refine lv_if_ne (tgt := 44) B.1.1 B.1.2.1 dX10_rate_37 (by decide) (fun c8 => ?_) (fun c8 => ?_)
    · rw [if_neg c8] at hf
      refine lv_iconst (v := 0) B.1.1 B.1.2.1 dX10_rate_44 (by decide) ?_
      exact bX10_rate_45 hA B hR  hret _ _ _ _ _ _ _ hf w (lv_sub hl [0, 1, 2] rfl)
    · rw [if_pos c8] at hf
      refine lv_iconst (v := 1) B.1.1 B.1.2.1 dX10_rate_40 (by decide) ?_
      refine lv_goto (tgt := 45) B.1.1 B.1.2.1 dX10_rate_41 (by decide) ?_
      exact bX10_rate_45 hA B hR  hret _ _ _ _ _ _ _ hf w (lv_sub hl [0, 1, 2] rfl)
set_option maxHeartbeats 4000000 in
set_option maxRecDepth 100000 in
theorem bX10_rate_0 (hA : ∀ q : Nat, s.heap.size ≤ q → A q) (B : hy_B RX10 cX10_rate 3 wsX10_rate G A p s m args c) (hR : 1 ≤ R.frames ∧ 22 ≤ R.locals) {o : hy_S × Int32}  (hret : ∀ (σ : hy_S) (pc : Nat) (H : Heap) (locs : List Loc) (ls : Array Slot), o = (σ, 0) → hy_w mw G A s σ H locs → decode cX10_rate pc = .ok (.return_, 1) → W p l e R s m args below meth c H locs 0 0 Q (F0 m pc ls [])) (σ : hy_S) (x1 : Int32) (x2 : Int32) (H : Heap) (locs : List Loc) (ls : Array Slot) (hf : fX10_rate σ x1 x2 = some o) (w : hy_w mw G A s σ H locs) (hl : lv_has ls 3 [(0, .ref (G.2.2.2.2.1 0)), (1, .int x1), (2, .int x2)]) : W p l e R s m args below meth c H locs 0 0 Q (F0 m 0 ls []) := by
  unfold fX10_rate at hf
  refine lv_aload_n B.1.1 B.1.2.1 dX10_rate_0 rfl (lv_at hl 0 rfl) ?_
  refine lv_iconst (v := 0) B.1.1 B.1.2.1 dX10_rate_1 (by decide) ?_
  obtain ⟨σ1, e2, hf⟩ := hy_pf_some hf
  refine hy_put (k := 0) B w (mwq_0 G) rfl in_X10_rate_X10 tyX10 tyX10_ok nmX10 (by decide) (by decide +kernel) rfl rfl (by show 0 < 43; decide) (mwp_0 G) e2 dX10_rate_2 (fun H locs w => ?_)
  refine lv_aload_n B.1.1 B.1.2.1 dX10_rate_5 rfl (lv_at hl 0 rfl) ?_
  refine lv_iload_n B.1.1 B.1.2.1 dX10_rate_6 rfl (lv_at hl 1 rfl) ?_
  refine lv_iconst (v := 0) B.1.1 B.1.2.1 dX10_rate_7 (by decide) ?_
  refine lv_bipush (v := 7) B.1.1 B.1.2.1 dX10_rate_8 (by decide) ?_
  obtain ⟨σ3, v4, h5, hf⟩ := hy_bd_some hf
  refine hy_cs (As := [.int x1, .int 0, .int 7]) (rest := [.ref (G.2.2.2.2.1 0)]) (o := (σ3, v4)) mw_fix hA B w (fun sz => mX10_in l G sz σ1 x1 0 7 _ h5) (cwS 3 B.1.2.2.2.2 gX10_rate_X10_in rfl rfl rfl (by decide +kernel) ⟨by have := hR.1; show 0 + 1 ≤ _; omega, by have := hR.2; show 8 + (3 + 11) + 0 ≤ _; omega⟩) rfl hl.1 rfl (Nat.le_of_ble_eq_true rfl) dX10_rate_10 ⟨Nat.zero_le _, Nat.zero_le _⟩ (fun H locs w => ?_)
  refine lv_if_ne (tgt := 20) B.1.1 B.1.2.1 dX10_rate_13 (by decide) (fun c6 => ?_) (fun c6 => ?_)
  · rw [if_neg c6] at hf
    refine lv_iconst (v := 0) B.1.1 B.1.2.1 dX10_rate_20 (by decide) ?_
    exact bX10_rate_21 hA B hR  hret _ _ _ _ _ _ _ hf w (lv_sub hl [0, 1, 2] rfl)
  · rw [if_pos c6] at hf
    refine lv_iconst (v := 1) B.1.1 B.1.2.1 dX10_rate_16 (by decide) ?_
    refine lv_goto (tgt := 21) B.1.1 B.1.2.1 dX10_rate_17 (by decide) ?_
    exact bX10_rate_21 hA B hR  hret _ _ _ _ _ _ _ hf w (lv_sub hl [0, 1, 2] rfl)
set_option maxHeartbeats 4000000 in
set_option maxRecDepth 100000 in
theorem mX10_rate (l : Launch) (G : hy_G) (sz : Nat) (σ : hy_S) (x1 : Int32) (x2 : Int32) (o : hy_S × Int32) (hf : fX10_rate σ x1 x2 = some o) : hy_Mv l yX10_rate wsX10_rate ({ frames := 1, cells := 0, slots := 0, locals := 22 }) mw G σ sz [.ref (G.2.2.2.2.1 0), .int x1, .int x2] o := by
  refine Met.ofW (cc := cX10_rate) (maxL := 3) (ret := none) (by decide +kernel) rfl ?_
  intro p e s m args below meth c s₁ B hml hv
  obtain ⟨rfl, hsz, hP, hK, hD0, hN⟩ := hv
  have hx := B.exec
  have hb := B.bytes
  have hr := B.returns
  have hts := atoms_spec (ws := wsX10_rate) B.pre
  have hown : s.vm.findClass RX10 = some m.cls := findClass_of_methodNamed B.named
  have hlocks := B.notSynchronized
  subst hsz
  have hD := hD0.self (sz := s.heap.size)
  have hA : ∀ q : Nat, s.heap.size ≤ q → va_A (mw G σ) s.heap.size q := fun q h => Or.inr h
  have hS : va_S (va_A (mw G σ) s.heap.size) s.heap s.heap [] := va_S.rf
  have hl := lv_entry ([.ref (G.2.2.2.2.1 0), .int x1, .int x2]) (n := 3) (Nat.le_of_ble_eq_true rfl)
  rw [lg_entry_eq]
  generalize (lg_sl ([.ref (G.2.2.2.2.1 0), .int x1, .int x2]) ++ List.replicate (3 - (lg_sl ([.ref (G.2.2.2.2.1 0), .int x1, .int x2])).length) Slot.unset).toArray = ls at hl ⊢
  have hl : lv_has ls 3 [(0, .ref (G.2.2.2.2.1 0)), (1, .int x1), (2, .int x2)] := hl
  refine bX10_rate_0 (A := va_A (mw G σ) s.heap.size) hA ⟨⟨hx, hb, hml, hown, hts⟩, hK, hN⟩ ⟨Nat.le_of_ble_eq_true rfl, Nat.le_of_ble_eq_true rfl⟩ (o := o) (fun τ pc H locs ls ho w d => ?_) σ x1 x2 _ _ _ hf ⟨hP, hD, hS⟩ hl
  exact W.vret hx hb hr (fun t ht hW => ⟨⟨τ, rfl, by rw [ho], by have h9 := w.1; rw [← ht] at h9; exact h9⟩, w.2.2.F ht⟩) w.2.2.2.2 d
theorem in_X10_isAt_X10 : ∀ w ∈ u_ws RX10 TX10 43, w ∈ wsX10_isAt := fun _ h => xt1 (xr (h))
noncomputable def fX10_isAt (σ : hy_S) (x1 : Int32) (x2 : Int32) : Option (hy_S × Int32) := (if (σ.2 6) ≤ (σ.2 5) then some (σ, 0) else hy_ga σ 17 400 (σ.2 5) (fun v2 => (if v2 < x1 then some (σ, 0) else hy_ga σ 17 400 (σ.2 5) (fun v6 => (if x2 < v6 then some (σ, 0) else some (σ, 1))))))
set_option maxHeartbeats 4000000 in
set_option maxRecDepth 100000 in
theorem bX10_isAt_0 (hA : ∀ q : Nat, s.heap.size ≤ q → A q) (B : hy_B RX10 cX10_isAt 3 wsX10_isAt G A p s m args c) (hR : 0 ≤ R.frames ∧ 0 ≤ R.locals) {o : hy_S × Int32}  (hret : ∀ (σ : hy_S) (v : Int32) (pc : Nat) (H : Heap) (locs : List Loc) (ls : Array Slot), o = (σ, v) → (v = 0 ∨ v = 1) → hy_w mw G A s σ H locs → decode cX10_isAt pc = .ok (.ireturn, 1) → W p l e R s m args below meth c H locs 0 0 Q (F0 m pc ls [.int v])) (σ : hy_S) (x1 : Int32) (x2 : Int32) (H : Heap) (locs : List Loc) (ls : Array Slot) (hf : fX10_isAt σ x1 x2 = some o) (w : hy_w mw G A s σ H locs) (hl : lv_has ls 3 [(0, .ref (G.2.2.2.2.1 0)), (1, .int x1), (2, .int x2)]) : W p l e R s m args below meth c H locs 0 0 Q (F0 m 0 ls []) := by
  unfold fX10_isAt at hf
  refine lv_aload_n B.1.1 B.1.2.1 dX10_isAt_0 rfl (lv_at hl 0 rfl) ?_
  refine hy_get (k := 23) (v := .int (σ.2 5)) B w (mwq_0 G) rfl in_X10_isAt_X10 (by decide) (by decide +kernel) rfl dX10_isAt_1 ?_
  refine lv_aload_n B.1.1 B.1.2.1 dX10_isAt_4 rfl (lv_at hl 0 rfl) ?_
  refine hy_get (k := 24) (v := .int (σ.2 6)) B w (mwq_0 G) rfl in_X10_isAt_X10 (by decide) (by decide +kernel) rfl dX10_isAt_5 ?_
  refine lv_icmp_ge (tgt := 41) B.1.1 B.1.2.1 dX10_isAt_8 (by decide) (fun c1 => ?_) (fun c1 => ?_)
  · rw [if_pos c1] at hf
    refine lv_iconst (v := 0) B.1.1 B.1.2.1 dX10_isAt_41 (by decide) ?_
    exact hret _ _ _ _ _ _ (Option.some.inj hf).symm (Or.inl rfl) w dX10_isAt_42
  · rw [if_neg c1] at hf
    refine lv_aload_n B.1.1 B.1.2.1 dX10_isAt_11 rfl (lv_at hl 0 rfl) ?_
    refine hy_get (k := 21) (v := .ref (G.2.2.2.2.1 18)) B w (mwq_0 G) rfl in_X10_isAt_X10 (by decide) (by decide +kernel) rfl dX10_isAt_12 ?_
    refine lv_aload_n B.1.1 B.1.2.1 dX10_isAt_15 rfl (lv_at hl 0 rfl) ?_
    refine hy_get (k := 23) (v := .int (σ.2 5)) B w (mwq_0 G) rfl in_X10_isAt_X10 (by decide) (by decide +kernel) rfl dX10_isAt_16 ?_
    obtain ⟨h4, v2, e3, hf⟩ := hy_ga_some hf
    refine hy_bald B w (mwq_18 G) h4 e3 dX10_isAt_19 ?_
    refine lv_iload_n B.1.1 B.1.2.1 dX10_isAt_20 rfl (lv_at hl 1 rfl) ?_
    refine lv_icmp_lt (tgt := 41) B.1.1 B.1.2.1 dX10_isAt_21 (by decide) (fun c5 => ?_) (fun c5 => ?_)
    · rw [if_pos c5] at hf
      refine lv_iconst (v := 0) B.1.1 B.1.2.1 dX10_isAt_41 (by decide) ?_
      exact hret _ _ _ _ _ _ (Option.some.inj hf).symm (Or.inl rfl) w dX10_isAt_42
    · rw [if_neg c5] at hf
      refine lv_aload_n B.1.1 B.1.2.1 dX10_isAt_24 rfl (lv_at hl 0 rfl) ?_
      refine hy_get (k := 21) (v := .ref (G.2.2.2.2.1 18)) B w (mwq_0 G) rfl in_X10_isAt_X10 (by decide) (by decide +kernel) rfl dX10_isAt_25 ?_
      refine lv_aload_n B.1.1 B.1.2.1 dX10_isAt_28 rfl (lv_at hl 0 rfl) ?_
      refine hy_get (k := 23) (v := .int (σ.2 5)) B w (mwq_0 G) rfl in_X10_isAt_X10 (by decide) (by decide +kernel) rfl dX10_isAt_29 ?_
      obtain ⟨h8, v6, e7, hf⟩ := hy_ga_some hf
      refine hy_bald B w (mwq_18 G) h8 e7 dX10_isAt_32 ?_
      refine lv_iload_n B.1.1 B.1.2.1 dX10_isAt_33 rfl (lv_at hl 2 rfl) ?_
      refine lv_icmp_gt (tgt := 41) B.1.1 B.1.2.1 dX10_isAt_34 (by decide) (fun c9 => ?_) (fun c9 => ?_)
      · rw [if_pos c9] at hf
        refine lv_iconst (v := 0) B.1.1 B.1.2.1 dX10_isAt_41 (by decide) ?_
        exact hret _ _ _ _ _ _ (Option.some.inj hf).symm (Or.inl rfl) w dX10_isAt_42
      · rw [if_neg c9] at hf
        refine lv_iconst (v := 1) B.1.1 B.1.2.1 dX10_isAt_37 (by decide) ?_
        refine lv_goto (tgt := 42) B.1.1 B.1.2.1 dX10_isAt_38 (by decide) ?_
        exact hret _ _ _ _ _ _ (Option.some.inj hf).symm (Or.inr rfl) w dX10_isAt_42
set_option maxHeartbeats 4000000 in
set_option maxRecDepth 100000 in
theorem mX10_isAt (l : Launch) (G : hy_G) (sz : Nat) (σ : hy_S) (x1 : Int32) (x2 : Int32) (o : hy_S × Int32) (hf : fX10_isAt σ x1 x2 = some o) : hy_M l yX10_isAt wsX10_isAt ({ frames := 0, cells := 0, slots := 0, locals := 0 }) mw G σ sz [.ref (G.2.2.2.2.1 0), .int x1, .int x2] o := by
  refine Met.ofW (cc := cX10_isAt) (maxL := 3) (ret := (some .boolean)) (by decide +kernel) rfl ?_
  intro p e s m args below meth c s₁ B hml hv
  obtain ⟨rfl, hsz, hP, hK, hD0, hN⟩ := hv
  have hx := B.exec
  have hb := B.bytes
  have hr := B.returns
  have hts := atoms_spec (ws := wsX10_isAt) B.pre
  have hown : s.vm.findClass RX10 = some m.cls := findClass_of_methodNamed B.named
  have hlocks := B.notSynchronized
  subst hsz
  have hD := hD0.self (sz := s.heap.size)
  have hA : ∀ q : Nat, s.heap.size ≤ q → va_A (mw G σ) s.heap.size q := fun q h => Or.inr h
  have hS : va_S (va_A (mw G σ) s.heap.size) s.heap s.heap [] := va_S.rf
  have hl := lv_entry ([.ref (G.2.2.2.2.1 0), .int x1, .int x2]) (n := 3) (Nat.le_of_ble_eq_true rfl)
  rw [lg_entry_eq]
  generalize (lg_sl ([.ref (G.2.2.2.2.1 0), .int x1, .int x2]) ++ List.replicate (3 - (lg_sl ([.ref (G.2.2.2.2.1 0), .int x1, .int x2])).length) Slot.unset).toArray = ls at hl ⊢
  have hl : lv_has ls 3 [(0, .ref (G.2.2.2.2.1 0)), (1, .int x1), (2, .int x2)] := hl
  refine bX10_isAt_0 (A := va_A (mw G σ) s.heap.size) hA ⟨⟨hx, hb, hml, hown, hts⟩, hK, hN⟩ ⟨Nat.le_of_ble_eq_true rfl, Nat.le_of_ble_eq_true rfl⟩ (o := o) (fun τ v pc H locs ls ho hz w d => ?_) σ x1 x2 _ _ _ hf ⟨hP, hD, hS⟩ hl
  exact W.zret hx hb hr (hy_bool hz) (fun t ht hW => ⟨⟨v, τ, rfl, ⟨by rw [ho], by rw [ho]⟩, by have h9 := w.1; rw [← ht] at h9; exact h9⟩, w.2.2.F ht⟩) w.2.2.2.2 d
theorem in_X10_blanks_X10 : ∀ w ∈ u_ws RX10 TX10 43, w ∈ wsX10_blanks := fun _ h => xt1 (xr (h))
noncomputable def fX10_blanks_0 : Nat → hy_S → Option (hy_S × Int32)
  | 0, _ => none
  | n + 1, σ => hy_bd (fX10_isAt σ 32 32) (fun σ1 v2 => (if v2 = 0 then hy_pf σ1 7 (σ1.2 5) (fun σ5 => some (σ5, 0)) else hy_pf σ1 5 ((σ1.2 5) + 1) (fun σ7 => (fX10_blanks_0 n) σ7)))
noncomputable def fX10_blanks (σ : hy_S) : Option (hy_S × Int32) := fX10_blanks_0 hy_fu σ
set_option maxHeartbeats 4000000 in
set_option maxRecDepth 100000 in
theorem bX10_blanks_0 (hA : ∀ q : Nat, s.heap.size ≤ q → A q) (B : hy_B RX10 cX10_blanks 1 wsX10_blanks G A p s m args c) (hR : 1 ≤ R.frames ∧ 22 ≤ R.locals) {o : hy_S × Int32}  (hret : ∀ (σ : hy_S) (pc : Nat) (H : Heap) (locs : List Loc) (ls : Array Slot), o = (σ, 0) → hy_w mw G A s σ H locs → decode cX10_blanks pc = .ok (.return_, 1) → W p l e R s m args below meth c H locs 0 0 Q (F0 m pc ls [])) : ∀ (n : Nat) (σ : hy_S) (H : Heap) (locs : List Loc) (ls : Array Slot), fX10_blanks_0 n σ = some o → hy_w mw G A s σ H locs → lv_has ls 1 [(0, .ref (G.2.2.2.2.1 0))] → W p l e R s m args below meth c H locs 0 0 Q (F0 m 0 ls []) := by
  intro n
  induction n with
  | zero => intro σ H locs ls hf; cases hf
  | succ n hk0 =>
    intro σ H locs ls hf w hl
    unfold fX10_blanks_0 at hf
    refine lv_aload_n B.1.1 B.1.2.1 dX10_blanks_0 rfl (lv_at hl 0 rfl) ?_
    refine lv_bipush (v := 32) B.1.1 B.1.2.1 dX10_blanks_1 (by decide) ?_
    refine lv_bipush (v := 32) B.1.1 B.1.2.1 dX10_blanks_3 (by decide) ?_
    obtain ⟨σ1, v2, h3, hf⟩ := hy_bd_some hf
    refine hy_cv (As := [.int 32, .int 32]) (rest := []) (o := (σ1, v2)) mw_fix hA B w (fun sz => mX10_isAt l G sz σ 32 32 _ h3) (cwV 2 B.1.2.2.2.2 gX10_blanks_X10_isAt rfl rfl rfl (by decide +kernel) ⟨by have := hR.1; show 0 + 1 ≤ _; omega, by have := hR.2; show 8 + (3 + 11) + 0 ≤ _; omega⟩) rfl (mwq_0 G σ) rfl hl.1 rfl (Nat.le_of_ble_eq_true rfl) dX10_blanks_5 ⟨Nat.zero_le _, Nat.zero_le _⟩ (fun H locs w => ?_)
    refine lv_if_eq (tgt := 24) B.1.1 B.1.2.1 dX10_blanks_8 (by decide) (fun c4 => ?_) (fun c4 => ?_)
    · rw [if_pos c4] at hf
      refine lv_aload_n B.1.1 B.1.2.1 dX10_blanks_24 rfl (lv_at hl 0 rfl) ?_
      refine lv_aload_n B.1.1 B.1.2.1 dX10_blanks_25 rfl (lv_at hl 0 rfl) ?_
      refine hy_get (k := 23) (v := .int (σ1.2 5)) B w (mwq_0 G) rfl in_X10_blanks_X10 (by decide) (by decide +kernel) rfl dX10_blanks_26 ?_
      obtain ⟨σ5, e6, hf⟩ := hy_pf_some hf
      refine hy_put (k := 25) B w (mwq_0 G) rfl in_X10_blanks_X10 tyX10 tyX10_ok nmX10 (by decide) (by decide +kernel) rfl rfl (by show 25 < 43; decide) (mwp_7 G) e6 dX10_blanks_29 (fun H locs w => ?_)
      exact hret _ _ _ _ _ (Option.some.inj hf).symm w dX10_blanks_32
    · rw [if_neg c4] at hf
      refine lv_aload_n B.1.1 B.1.2.1 dX10_blanks_11 rfl (lv_at hl 0 rfl) ?_
      refine lv_dup B.1.1 B.1.2.1 dX10_blanks_12 rfl ?_
      refine hy_get (k := 23) (v := .int (σ1.2 5)) B w (mwq_0 G) rfl in_X10_blanks_X10 (by decide) (by decide +kernel) rfl dX10_blanks_13 ?_
      refine lv_iconst (v := 1) B.1.1 B.1.2.1 dX10_blanks_16 (by decide) ?_
      refine lv_iadd B.1.1 B.1.2.1 dX10_blanks_17 ?_
      obtain ⟨σ7, e8, hf⟩ := hy_pf_some hf
      refine hy_put (k := 23) B w (mwq_0 G) rfl in_X10_blanks_X10 tyX10 tyX10_ok nmX10 (by decide) (by decide +kernel) rfl rfl (by show 23 < 43; decide) (mwp_5 G) e8 dX10_blanks_18 (fun H locs w => ?_)
      refine lv_goto (tgt := 0) B.1.1 B.1.2.1 dX10_blanks_21 (by decide) ?_
      exact hk0 _ _ _ _ hf w (lv_sub hl [0] rfl)
set_option maxHeartbeats 4000000 in
set_option maxRecDepth 100000 in
theorem mX10_blanks (l : Launch) (G : hy_G) (sz : Nat) (σ : hy_S) (o : hy_S × Int32) (hf : fX10_blanks σ = some o) : hy_Mv l yX10_blanks wsX10_blanks ({ frames := 1, cells := 0, slots := 0, locals := 22 }) mw G σ sz [.ref (G.2.2.2.2.1 0)] o := by
  refine Met.ofW (cc := cX10_blanks) (maxL := 1) (ret := none) (by decide +kernel) rfl ?_
  intro p e s m args below meth c s₁ B hml hv
  obtain ⟨rfl, hsz, hP, hK, hD0, hN⟩ := hv
  have hx := B.exec
  have hb := B.bytes
  have hr := B.returns
  have hts := atoms_spec (ws := wsX10_blanks) B.pre
  have hown : s.vm.findClass RX10 = some m.cls := findClass_of_methodNamed B.named
  have hlocks := B.notSynchronized
  subst hsz
  have hD := hD0.self (sz := s.heap.size)
  have hA : ∀ q : Nat, s.heap.size ≤ q → va_A (mw G σ) s.heap.size q := fun q h => Or.inr h
  have hS : va_S (va_A (mw G σ) s.heap.size) s.heap s.heap [] := va_S.rf
  have hl := lv_entry ([.ref (G.2.2.2.2.1 0)]) (n := 1) (Nat.le_of_ble_eq_true rfl)
  rw [lg_entry_eq]
  generalize (lg_sl ([.ref (G.2.2.2.2.1 0)]) ++ List.replicate (1 - (lg_sl ([.ref (G.2.2.2.2.1 0)])).length) Slot.unset).toArray = ls at hl ⊢
  have hl : lv_has ls 1 [(0, .ref (G.2.2.2.2.1 0))] := hl
  unfold fX10_blanks at hf
  refine bX10_blanks_0 (A := va_A (mw G σ) s.heap.size) hA ⟨⟨hx, hb, hml, hown, hts⟩, hK, hN⟩ ⟨Nat.le_of_ble_eq_true rfl, Nat.le_of_ble_eq_true rfl⟩ (o := o) (fun τ pc H locs ls ho w d => ?_) _ σ _ _ _ hf ⟨hP, hD, hS⟩ hl
  exact W.vret hx hb hr (fun t ht hW => ⟨⟨τ, rfl, by rw [ho], by have h9 := w.1; rw [← ht] at h9; exact h9⟩, w.2.2.F ht⟩) w.2.2.2.2 d
theorem in_X10_isFalse_X10 : ∀ w ∈ u_ws RX10 TX10 43, w ∈ wsX10_isFalse := fun _ h => xt1 (xr (h))
noncomputable def fX10_isFalse (σ : hy_S) (x1 : Int32) : Option (hy_S × Int32) := hy_ga σ 19 5 0 (fun v1 => hy_bd (fX10_noJar σ v1) (fun σ4 v5 => (if v5 = 0 then hy_ga σ4 7 60 v1 (fun v8 => (if v8 = 1 then hy_ga σ4 19 5 1 (fun v12 => hy_ga σ4 6 60 v1 (fun v15 => (if v12 = v15 then hy_ga σ4 19 5 2 (fun v19 => hy_ga σ4 4 60 v1 (fun v22 => (if v19 = v22 then hy_ga σ4 19 5 3 (fun v26 => hy_ga σ4 5 60 v1 (fun v29 => (if v26 = v29 then hy_ga σ4 19 5 4 (fun v33 => hy_ga σ4 6 60 v1 (fun v36 => hy_ga σ4 14 8 x1 (fun v39 => (if v33 = (((v36 * v39) + 9) / 10) then some (σ4, 0) else some (σ4, 5))))) else some (σ4, 4)))) else some (σ4, 3)))) else some (σ4, 2)))) else some (σ4, 1))) else some (σ4, 1))))
set_option maxHeartbeats 4000000 in
set_option maxRecDepth 100000 in
theorem bX10_isFalse_0 (hA : ∀ q : Nat, s.heap.size ≤ q → A q) (B : hy_B RX10 cX10_isFalse 3 wsX10_isFalse G A p s m args c) (hR : 2 ≤ R.frames ∧ 43 ≤ R.locals) {o : hy_S × Int32}  (hret : ∀ (σ : hy_S) (v : Int32) (pc : Nat) (H : Heap) (locs : List Loc) (ls : Array Slot), o = (σ, v) → hy_w mw G A s σ H locs → decode cX10_isFalse pc = .ok (.ireturn, 1) → W p l e R s m args below meth c H locs 0 0 Q (F0 m pc ls [.int v])) (σ : hy_S) (x1 : Int32) (H : Heap) (locs : List Loc) (ls : Array Slot) (hf : fX10_isFalse σ x1 = some o) (w : hy_w mw G A s σ H locs) (hl : lv_has ls 3 [(0, .ref (G.2.2.2.2.1 0)), (1, .int x1)]) : W p l e R s m args below meth c H locs 0 0 Q (F0 m 0 ls []) := by
  unfold fX10_isFalse at hf
  refine lv_aload_n B.1.1 B.1.2.1 dX10_isFalse_0 rfl (lv_at hl 0 rfl) ?_
  refine hy_get (k := 28) (v := .ref (G.2.2.2.2.1 20)) B w (mwq_0 G) rfl in_X10_isFalse_X10 (by decide) (by decide +kernel) rfl dX10_isFalse_1 ?_
  refine lv_iconst (v := 0) B.1.1 B.1.2.1 dX10_isFalse_4 (by decide) ?_
  obtain ⟨h3, v1, e2, hf⟩ := hy_ga_some hf
  refine hy_iald B w (mwq_20 G) h3 e2 dX10_isFalse_5 ?_
  refine lv_istore_n (lv' := [(2, .int v1), (0, .ref (G.2.2.2.2.1 0)), (1, .int x1)]) B.1.1 B.1.2.1 dX10_isFalse_6 rfl hl (by decide) rfl (fun ls hl => ?_)
  refine lv_aload_n B.1.1 B.1.2.1 dX10_isFalse_7 rfl (lv_at hl 1 rfl) ?_
  refine lv_iload_n B.1.1 B.1.2.1 dX10_isFalse_8 rfl (lv_at hl 0 rfl) ?_
  obtain ⟨σ4, v5, h6, hf⟩ := hy_bd_some hf
  refine hy_cv (As := [.int v1]) (rest := []) (o := (σ4, v5)) mw_fix hA B w (fun sz => mX10_noJar l G sz σ v1 _ h6) (cwV 1 B.1.2.2.2.2 gX10_isFalse_X10_noJar rfl rfl rfl (by decide +kernel) ⟨by have := hR.1; show 1 + 1 ≤ _; omega, by have := hR.2; show 8 + (2 + 11) + 22 ≤ _; omega⟩) rfl (mwq_0 G σ) rfl hl.1 rfl (Nat.le_of_ble_eq_true rfl) dX10_isFalse_9 ⟨Nat.zero_le _, Nat.zero_le _⟩ (fun H locs w => ?_)
  refine lv_if_ne (tgt := 25) B.1.1 B.1.2.1 dX10_isFalse_12 (by decide) (fun c7 => ?_) (fun c7 => ?_)
  · rw [if_neg c7] at hf
    refine lv_iconst (v := 1) B.1.1 B.1.2.1 dX10_isFalse_25 (by decide) ?_
    exact hret _ _ _ _ _ _ (Option.some.inj hf).symm w dX10_isFalse_26
  · rw [if_pos c7] at hf
    refine lv_aload_n B.1.1 B.1.2.1 dX10_isFalse_15 rfl (lv_at hl 1 rfl) ?_
    refine hy_get (k := 9) (v := .ref (G.2.2.2.2.1 8)) B w (mwq_0 G) rfl in_X10_isFalse_X10 (by decide) (by decide +kernel) rfl dX10_isFalse_16 ?_
    refine lv_iload_n B.1.1 B.1.2.1 dX10_isFalse_19 rfl (lv_at hl 0 rfl) ?_
    obtain ⟨h10, v8, e9, hf⟩ := hy_ga_some hf
    refine hy_iald B w (mwq_8 G) h10 e9 dX10_isFalse_20 ?_
    refine lv_iconst (v := 1) B.1.1 B.1.2.1 dX10_isFalse_21 (by decide) ?_
    refine lv_icmp_eq (tgt := 27) B.1.1 B.1.2.1 dX10_isFalse_22 (by decide) (fun c11 => ?_) (fun c11 => ?_)
    · rw [if_pos c11] at hf
      refine lv_aload_n B.1.1 B.1.2.1 dX10_isFalse_27 rfl (lv_at hl 1 rfl) ?_
      refine hy_get (k := 28) (v := .ref (G.2.2.2.2.1 20)) B w (mwq_0 G) rfl in_X10_isFalse_X10 (by decide) (by decide +kernel) rfl dX10_isFalse_28 ?_
      refine lv_iconst (v := 1) B.1.1 B.1.2.1 dX10_isFalse_31 (by decide) ?_
      obtain ⟨h14, v12, e13, hf⟩ := hy_ga_some hf
      refine hy_iald B w (mwq_20 G) h14 e13 dX10_isFalse_32 ?_
      refine lv_aload_n B.1.1 B.1.2.1 dX10_isFalse_33 rfl (lv_at hl 1 rfl) ?_
      refine hy_get (k := 8) (v := .ref (G.2.2.2.2.1 7)) B w (mwq_0 G) rfl in_X10_isFalse_X10 (by decide) (by decide +kernel) rfl dX10_isFalse_34 ?_
      refine lv_iload_n B.1.1 B.1.2.1 dX10_isFalse_37 rfl (lv_at hl 0 rfl) ?_
      obtain ⟨h17, v15, e16, hf⟩ := hy_ga_some hf
      refine hy_iald B w (mwq_7 G) h17 e16 dX10_isFalse_38 ?_
      refine lv_icmp_eq (tgt := 44) B.1.1 B.1.2.1 dX10_isFalse_39 (by decide) (fun c18 => ?_) (fun c18 => ?_)
      · rw [if_pos c18] at hf
        refine lv_aload_n B.1.1 B.1.2.1 dX10_isFalse_44 rfl (lv_at hl 1 rfl) ?_
        refine hy_get (k := 28) (v := .ref (G.2.2.2.2.1 20)) B w (mwq_0 G) rfl in_X10_isFalse_X10 (by decide) (by decide +kernel) rfl dX10_isFalse_45 ?_
        refine lv_iconst (v := 2) B.1.1 B.1.2.1 dX10_isFalse_48 (by decide) ?_
        obtain ⟨h21, v19, e20, hf⟩ := hy_ga_some hf
        refine hy_iald B w (mwq_20 G) h21 e20 dX10_isFalse_49 ?_
        refine lv_aload_n B.1.1 B.1.2.1 dX10_isFalse_50 rfl (lv_at hl 1 rfl) ?_
        refine hy_get (k := 6) (v := .ref (G.2.2.2.2.1 5)) B w (mwq_0 G) rfl in_X10_isFalse_X10 (by decide) (by decide +kernel) rfl dX10_isFalse_51 ?_
        refine lv_iload_n B.1.1 B.1.2.1 dX10_isFalse_54 rfl (lv_at hl 0 rfl) ?_
        obtain ⟨h24, v22, e23, hf⟩ := hy_ga_some hf
        refine hy_iald B w (mwq_5 G) h24 e23 dX10_isFalse_55 ?_
        refine lv_icmp_eq (tgt := 61) B.1.1 B.1.2.1 dX10_isFalse_56 (by decide) (fun c25 => ?_) (fun c25 => ?_)
        · rw [if_pos c25] at hf
          refine lv_aload_n B.1.1 B.1.2.1 dX10_isFalse_61 rfl (lv_at hl 1 rfl) ?_
          refine hy_get (k := 28) (v := .ref (G.2.2.2.2.1 20)) B w (mwq_0 G) rfl in_X10_isFalse_X10 (by decide) (by decide +kernel) rfl dX10_isFalse_62 ?_
          refine lv_iconst (v := 3) B.1.1 B.1.2.1 dX10_isFalse_65 (by decide) ?_
          obtain ⟨h28, v26, e27, hf⟩ := hy_ga_some hf
          refine hy_iald B w (mwq_20 G) h28 e27 dX10_isFalse_66 ?_
          refine lv_aload_n B.1.1 B.1.2.1 dX10_isFalse_67 rfl (lv_at hl 1 rfl) ?_
          refine hy_get (k := 7) (v := .ref (G.2.2.2.2.1 6)) B w (mwq_0 G) rfl in_X10_isFalse_X10 (by decide) (by decide +kernel) rfl dX10_isFalse_68 ?_
          refine lv_iload_n B.1.1 B.1.2.1 dX10_isFalse_71 rfl (lv_at hl 0 rfl) ?_
          obtain ⟨h31, v29, e30, hf⟩ := hy_ga_some hf
          refine hy_iald B w (mwq_6 G) h31 e30 dX10_isFalse_72 ?_
          refine lv_icmp_eq (tgt := 78) B.1.1 B.1.2.1 dX10_isFalse_73 (by decide) (fun c32 => ?_) (fun c32 => ?_)
          · rw [if_pos c32] at hf
            refine lv_aload_n B.1.1 B.1.2.1 dX10_isFalse_78 rfl (lv_at hl 1 rfl) ?_
            refine hy_get (k := 28) (v := .ref (G.2.2.2.2.1 20)) B w (mwq_0 G) rfl in_X10_isFalse_X10 (by decide) (by decide +kernel) rfl dX10_isFalse_79 ?_
            refine lv_iconst (v := 4) B.1.1 B.1.2.1 dX10_isFalse_82 (by decide) ?_
            obtain ⟨h35, v33, e34, hf⟩ := hy_ga_some hf
            refine hy_iald B w (mwq_20 G) h35 e34 dX10_isFalse_83 ?_
            refine lv_aload_n B.1.1 B.1.2.1 dX10_isFalse_84 rfl (lv_at hl 1 rfl) ?_
            refine hy_get (k := 8) (v := .ref (G.2.2.2.2.1 7)) B w (mwq_0 G) rfl in_X10_isFalse_X10 (by decide) (by decide +kernel) rfl dX10_isFalse_85 ?_
            refine lv_iload_n B.1.1 B.1.2.1 dX10_isFalse_88 rfl (lv_at hl 0 rfl) ?_
            obtain ⟨h38, v36, e37, hf⟩ := hy_ga_some hf
            refine hy_iald B w (mwq_7 G) h38 e37 dX10_isFalse_89 ?_
            refine lv_aload_n B.1.1 B.1.2.1 dX10_isFalse_90 rfl (lv_at hl 1 rfl) ?_
            refine hy_get (k := 18) (v := .ref (G.2.2.2.2.1 15)) B w (mwq_0 G) rfl in_X10_isFalse_X10 (by decide) (by decide +kernel) rfl dX10_isFalse_91 ?_
            refine lv_iload_n B.1.1 B.1.2.1 dX10_isFalse_94 rfl (lv_at hl 2 rfl) ?_
            obtain ⟨h41, v39, e40, hf⟩ := hy_ga_some hf
            refine hy_iald B w (mwq_15 G) h41 e40 dX10_isFalse_95 ?_
            refine lv_imul B.1.1 B.1.2.1 dX10_isFalse_96 ?_
            refine lv_bipush (v := 9) B.1.1 B.1.2.1 dX10_isFalse_97 (by decide) ?_
            refine lv_iadd B.1.1 B.1.2.1 dX10_isFalse_99 ?_
            refine lv_bipush (v := 10) B.1.1 B.1.2.1 dX10_isFalse_100 (by decide) ?_
            refine lv_idiv B.1.1 B.1.2.1 dX10_isFalse_102 (by decide) ?_
            refine lv_icmp_eq (tgt := 110) B.1.1 B.1.2.1 dX10_isFalse_103 (by decide) (fun c42 => ?_) (fun c42 => ?_)
            · rw [if_pos c42] at hf
              refine lv_iconst (v := 0) B.1.1 B.1.2.1 dX10_isFalse_110 (by decide) ?_
              exact hret _ _ _ _ _ _ (Option.some.inj hf).symm w dX10_isFalse_111
            · rw [if_neg c42] at hf
              refine lv_iconst (v := 5) B.1.1 B.1.2.1 dX10_isFalse_106 (by decide) ?_
              refine lv_goto (tgt := 111) B.1.1 B.1.2.1 dX10_isFalse_107 (by decide) ?_
              exact hret _ _ _ _ _ _ (Option.some.inj hf).symm w dX10_isFalse_111
          · rw [if_neg c32] at hf
            refine lv_iconst (v := 4) B.1.1 B.1.2.1 dX10_isFalse_76 (by decide) ?_
            exact hret _ _ _ _ _ _ (Option.some.inj hf).symm w dX10_isFalse_77
        · rw [if_neg c25] at hf
          refine lv_iconst (v := 3) B.1.1 B.1.2.1 dX10_isFalse_59 (by decide) ?_
          exact hret _ _ _ _ _ _ (Option.some.inj hf).symm w dX10_isFalse_60
      · rw [if_neg c18] at hf
        refine lv_iconst (v := 2) B.1.1 B.1.2.1 dX10_isFalse_42 (by decide) ?_
        exact hret _ _ _ _ _ _ (Option.some.inj hf).symm w dX10_isFalse_43
    · rw [if_neg c11] at hf
      refine lv_iconst (v := 1) B.1.1 B.1.2.1 dX10_isFalse_25 (by decide) ?_
      exact hret _ _ _ _ _ _ (Option.some.inj hf).symm w dX10_isFalse_26
set_option maxHeartbeats 4000000 in
set_option maxRecDepth 100000 in
theorem mX10_isFalse (l : Launch) (G : hy_G) (sz : Nat) (σ : hy_S) (x1 : Int32) (o : hy_S × Int32) (hf : fX10_isFalse σ x1 = some o) : hy_M l yX10_isFalse wsX10_isFalse ({ frames := 2, cells := 0, slots := 0, locals := 43 }) mw G σ sz [.ref (G.2.2.2.2.1 0), .int x1] o := by
  refine Met.ofW (cc := cX10_isFalse) (maxL := 3) (ret := (some .int)) (by decide +kernel) rfl ?_
  intro p e s m args below meth c s₁ B hml hv
  obtain ⟨rfl, hsz, hP, hK, hD0, hN⟩ := hv
  have hx := B.exec
  have hb := B.bytes
  have hr := B.returns
  have hts := atoms_spec (ws := wsX10_isFalse) B.pre
  have hown : s.vm.findClass RX10 = some m.cls := findClass_of_methodNamed B.named
  have hlocks := B.notSynchronized
  subst hsz
  have hD := hD0.self (sz := s.heap.size)
  have hA : ∀ q : Nat, s.heap.size ≤ q → va_A (mw G σ) s.heap.size q := fun q h => Or.inr h
  have hS : va_S (va_A (mw G σ) s.heap.size) s.heap s.heap [] := va_S.rf
  have hl := lv_entry ([.ref (G.2.2.2.2.1 0), .int x1]) (n := 3) (Nat.le_of_ble_eq_true rfl)
  rw [lg_entry_eq]
  generalize (lg_sl ([.ref (G.2.2.2.2.1 0), .int x1]) ++ List.replicate (3 - (lg_sl ([.ref (G.2.2.2.2.1 0), .int x1])).length) Slot.unset).toArray = ls at hl ⊢
  have hl : lv_has ls 3 [(0, .ref (G.2.2.2.2.1 0)), (1, .int x1)] := hl
  refine bX10_isFalse_0 (A := va_A (mw G σ) s.heap.size) hA ⟨⟨hx, hb, hml, hown, hts⟩, hK, hN⟩ ⟨Nat.le_of_ble_eq_true rfl, Nat.le_of_ble_eq_true rfl⟩ (o := o) (fun τ v pc H locs ls ho w d => ?_) σ x1 _ _ _ hf ⟨hP, hD, hS⟩ hl
  exact W.iret hx hb hr (fun t ht hW => ⟨⟨v, τ, rfl, ⟨by rw [ho], by rw [ho]⟩, by have h9 := w.1; rw [← ht] at h9; exact h9⟩, w.2.2.F ht⟩) w.2.2.2.2 d
theorem in_X10_fault_X10 : ∀ w ∈ u_ws RX10 TX10 43, w ∈ wsX10_fault := fun _ h => xt1 (xr (h))
noncomputable def fX10_fault (σ : hy_S) : Option (hy_S × Int32) := hy_pf σ 0 0 (fun σ1 => some (σ1, (σ1.2 8)))
set_option maxHeartbeats 4000000 in
set_option maxRecDepth 100000 in
theorem bX10_fault_0 (hA : ∀ q : Nat, s.heap.size ≤ q → A q) (B : hy_B RX10 cX10_fault 1 wsX10_fault G A p s m args c) (hR : 0 ≤ R.frames ∧ 0 ≤ R.locals) {o : hy_S × Int32}  (hret : ∀ (σ : hy_S) (v : Int32) (pc : Nat) (H : Heap) (locs : List Loc) (ls : Array Slot), o = (σ, v) → hy_w mw G A s σ H locs → decode cX10_fault pc = .ok (.ireturn, 1) → W p l e R s m args below meth c H locs 0 0 Q (F0 m pc ls [.int v])) (σ : hy_S) (H : Heap) (locs : List Loc) (ls : Array Slot) (hf : fX10_fault σ = some o) (w : hy_w mw G A s σ H locs) (hl : lv_has ls 1 [(0, .ref (G.2.2.2.2.1 0))]) : W p l e R s m args below meth c H locs 0 0 Q (F0 m 0 ls []) := by
  unfold fX10_fault at hf
  refine lv_aload_n B.1.1 B.1.2.1 dX10_fault_0 rfl (lv_at hl 0 rfl) ?_
  refine lv_iconst (v := 0) B.1.1 B.1.2.1 dX10_fault_1 (by decide) ?_
  obtain ⟨σ1, e2, hf⟩ := hy_pf_some hf
  refine hy_put (k := 0) B w (mwq_0 G) rfl in_X10_fault_X10 tyX10 tyX10_ok nmX10 (by decide) (by decide +kernel) rfl rfl (by show 0 < 43; decide) (mwp_0 G) e2 dX10_fault_2 (fun H locs w => ?_)
  refine lv_aload_n B.1.1 B.1.2.1 dX10_fault_5 rfl (lv_at hl 0 rfl) ?_
  refine hy_get (k := 26) (v := .int (σ1.2 8)) B w (mwq_0 G) rfl in_X10_fault_X10 (by decide) (by decide +kernel) rfl dX10_fault_6 ?_
  exact hret _ _ _ _ _ _ (Option.some.inj hf).symm w dX10_fault_9
set_option maxHeartbeats 4000000 in
set_option maxRecDepth 100000 in
theorem mX10_fault (l : Launch) (G : hy_G) (sz : Nat) (σ : hy_S) (o : hy_S × Int32) (hf : fX10_fault σ = some o) : hy_M l yX10_fault wsX10_fault ({ frames := 0, cells := 0, slots := 0, locals := 0 }) mw G σ sz [.ref (G.2.2.2.2.1 0)] o := by
  refine Met.ofW (cc := cX10_fault) (maxL := 1) (ret := (some .int)) (by decide +kernel) rfl ?_
  intro p e s m args below meth c s₁ B hml hv
  obtain ⟨rfl, hsz, hP, hK, hD0, hN⟩ := hv
  have hx := B.exec
  have hb := B.bytes
  have hr := B.returns
  have hts := atoms_spec (ws := wsX10_fault) B.pre
  have hown : s.vm.findClass RX10 = some m.cls := findClass_of_methodNamed B.named
  have hlocks := B.notSynchronized
  subst hsz
  have hD := hD0.self (sz := s.heap.size)
  have hA : ∀ q : Nat, s.heap.size ≤ q → va_A (mw G σ) s.heap.size q := fun q h => Or.inr h
  have hS : va_S (va_A (mw G σ) s.heap.size) s.heap s.heap [] := va_S.rf
  have hl := lv_entry ([.ref (G.2.2.2.2.1 0)]) (n := 1) (Nat.le_of_ble_eq_true rfl)
  rw [lg_entry_eq]
  generalize (lg_sl ([.ref (G.2.2.2.2.1 0)]) ++ List.replicate (1 - (lg_sl ([.ref (G.2.2.2.2.1 0)])).length) Slot.unset).toArray = ls at hl ⊢
  have hl : lv_has ls 1 [(0, .ref (G.2.2.2.2.1 0))] := hl
  refine bX10_fault_0 (A := va_A (mw G σ) s.heap.size) hA ⟨⟨hx, hb, hml, hown, hts⟩, hK, hN⟩ ⟨Nat.le_of_ble_eq_true rfl, Nat.le_of_ble_eq_true rfl⟩ (o := o) (fun τ v pc H locs ls ho w d => ?_) σ _ _ _ hf ⟨hP, hD, hS⟩ hl
  exact W.iret hx hb hr (fun t ht hW => ⟨⟨v, τ, rfl, ⟨by rw [ho], by rw [ho]⟩, by have h9 := w.1; rw [← ht] at h9; exact h9⟩, w.2.2.F ht⟩) w.2.2.2.2 d
theorem in_X10_notes_X10 : ∀ w ∈ u_ws RX10 TX10 43, w ∈ wsX10_notes := fun _ h => xt1 (xr (h))
noncomputable def fX10_notes_21 (σ : hy_S) (s0 : Int32) (x1 : Int32) (x2 : Int32) : Option (hy_S × Int32) := hy_bd (fX10_throwsIf σ s0 1) (fun σ1 v2 => (if v2 = 0 then (if x2 = 0 then hy_ga σ1 15 8 x1 (fun v6 => some (σ1, v6)) else hy_ga σ1 16 8 x1 (fun v9 => some (σ1, v9))) else some (σ1, 0)))
noncomputable def fX10_notes (σ : hy_S) (x1 : Int32) (x2 : Int32) : Option (hy_S × Int32) := hy_pf σ 0 0 (fun σ1 => hy_bd (fX10_in σ1 x1 0 7) (fun σ3 v4 => (if v4 = 0 then fX10_notes_21 σ3 1 x1 x2 else fX10_notes_21 σ3 0 x1 x2)))
set_option maxHeartbeats 4000000 in
set_option maxRecDepth 100000 in
theorem bX10_notes_21 (hA : ∀ q : Nat, s.heap.size ≤ q → A q) (B : hy_B RX10 cX10_notes 3 wsX10_notes G A p s m args c) (hR : 1 ≤ R.frames ∧ 22 ≤ R.locals) {o : hy_S × Int32}  (hret : ∀ (σ : hy_S) (v : Int32) (pc : Nat) (H : Heap) (locs : List Loc) (ls : Array Slot), o = (σ, v) → hy_w mw G A s σ H locs → decode cX10_notes pc = .ok (.ireturn, 1) → W p l e R s m args below meth c H locs 0 0 Q (F0 m pc ls [.int v])) (σ : hy_S) (s0 : Int32) (x1 : Int32) (x2 : Int32) (H : Heap) (locs : List Loc) (ls : Array Slot) (hf : fX10_notes_21 σ s0 x1 x2 = some o) (w : hy_w mw G A s σ H locs) (hl : lv_has ls 3 [(0, .ref (G.2.2.2.2.1 0)), (1, .int x1), (2, .int x2)]) : W p l e R s m args below meth c H locs 0 0 Q (F0 m 21 ls [.int s0, .ref (G.2.2.2.2.1 0)]) := by
  unfold fX10_notes_21 at hf
  refine lv_iconst (v := 1) B.1.1 B.1.2.1 dX10_notes_21 (by decide) ?_
  obtain ⟨σ1, v2, h3, hf⟩ := hy_bd_some hf
  refine hy_cv (As := [.int s0, .int 1]) (rest := []) (o := (σ1, v2)) mw_fix hA B w (fun sz => mX10_throwsIf l G sz σ s0 1 _ h3) (cwV 2 B.1.2.2.2.2 gX10_notes_X10_throwsIf rfl rfl rfl (by decide +kernel) ⟨by have := hR.1; show 0 + 1 ≤ _; omega, by have := hR.2; show 8 + (3 + 11) + 0 ≤ _; omega⟩) rfl (mwq_0 G σ) rfl hl.1 rfl (Nat.le_of_ble_eq_true rfl) dX10_notes_22 ⟨Nat.zero_le _, Nat.zero_le _⟩ (fun H locs w => ?_)
  refine lv_if_eq (tgt := 32) B.1.1 B.1.2.1 dX10_notes_25 (by decide) (fun c4 => ?_) (fun c4 => ?_)
  · rw [if_pos c4] at hf
    refine lv_iload_n B.1.1 B.1.2.1 dX10_notes_32 rfl (lv_at hl 2 rfl) ?_
    refine lv_if_eq (tgt := 45) B.1.1 B.1.2.1 dX10_notes_33 (by decide) (fun c5 => ?_) (fun c5 => ?_)
    · rw [if_pos c5] at hf
      refine lv_aload_n B.1.1 B.1.2.1 dX10_notes_45 rfl (lv_at hl 0 rfl) ?_
      refine hy_get (k := 19) (v := .ref (G.2.2.2.2.1 16)) B w (mwq_0 G) rfl in_X10_notes_X10 (by decide) (by decide +kernel) rfl dX10_notes_46 ?_
      refine lv_iload_n B.1.1 B.1.2.1 dX10_notes_49 rfl (lv_at hl 1 rfl) ?_
      obtain ⟨h8, v6, e7, hf⟩ := hy_ga_some hf
      refine hy_iald B w (mwq_16 G) h8 e7 dX10_notes_50 ?_
      exact hret _ _ _ _ _ _ (Option.some.inj hf).symm w dX10_notes_51
    · rw [if_neg c5] at hf
      refine lv_aload_n B.1.1 B.1.2.1 dX10_notes_36 rfl (lv_at hl 0 rfl) ?_
      refine hy_get (k := 20) (v := .ref (G.2.2.2.2.1 17)) B w (mwq_0 G) rfl in_X10_notes_X10 (by decide) (by decide +kernel) rfl dX10_notes_37 ?_
      refine lv_iload_n B.1.1 B.1.2.1 dX10_notes_40 rfl (lv_at hl 1 rfl) ?_
      obtain ⟨h11, v9, e10, hf⟩ := hy_ga_some hf
      refine hy_iald B w (mwq_17 G) h11 e10 dX10_notes_41 ?_
      refine lv_goto (tgt := 51) B.1.1 B.1.2.1 dX10_notes_42 (by decide) ?_
      exact hret _ _ _ _ _ _ (Option.some.inj hf).symm w dX10_notes_51
  · rw [if_neg c4] at hf
    refine lv_iconst (v := 0) B.1.1 B.1.2.1 dX10_notes_28 (by decide) ?_
    refine lv_goto (tgt := 51) B.1.1 B.1.2.1 dX10_notes_29 (by decide) ?_
    exact hret _ _ _ _ _ _ (Option.some.inj hf).symm w dX10_notes_51
set_option maxHeartbeats 4000000 in
set_option maxRecDepth 100000 in
theorem bX10_notes_0 (hA : ∀ q : Nat, s.heap.size ≤ q → A q) (B : hy_B RX10 cX10_notes 3 wsX10_notes G A p s m args c) (hR : 1 ≤ R.frames ∧ 22 ≤ R.locals) {o : hy_S × Int32}  (hret : ∀ (σ : hy_S) (v : Int32) (pc : Nat) (H : Heap) (locs : List Loc) (ls : Array Slot), o = (σ, v) → hy_w mw G A s σ H locs → decode cX10_notes pc = .ok (.ireturn, 1) → W p l e R s m args below meth c H locs 0 0 Q (F0 m pc ls [.int v])) (σ : hy_S) (x1 : Int32) (x2 : Int32) (H : Heap) (locs : List Loc) (ls : Array Slot) (hf : fX10_notes σ x1 x2 = some o) (w : hy_w mw G A s σ H locs) (hl : lv_has ls 3 [(0, .ref (G.2.2.2.2.1 0)), (1, .int x1), (2, .int x2)]) : W p l e R s m args below meth c H locs 0 0 Q (F0 m 0 ls []) := by
  unfold fX10_notes at hf
  refine lv_aload_n B.1.1 B.1.2.1 dX10_notes_0 rfl (lv_at hl 0 rfl) ?_
  refine lv_iconst (v := 0) B.1.1 B.1.2.1 dX10_notes_1 (by decide) ?_
  obtain ⟨σ1, e2, hf⟩ := hy_pf_some hf
  refine hy_put (k := 0) B w (mwq_0 G) rfl in_X10_notes_X10 tyX10 tyX10_ok nmX10 (by decide) (by decide +kernel) rfl rfl (by show 0 < 43; decide) (mwp_0 G) e2 dX10_notes_2 (fun H locs w => ?_)
  refine lv_aload_n B.1.1 B.1.2.1 dX10_notes_5 rfl (lv_at hl 0 rfl) ?_
  refine lv_iload_n B.1.1 B.1.2.1 dX10_notes_6 rfl (lv_at hl 1 rfl) ?_
  refine lv_iconst (v := 0) B.1.1 B.1.2.1 dX10_notes_7 (by decide) ?_
  refine lv_bipush (v := 7) B.1.1 B.1.2.1 dX10_notes_8 (by decide) ?_
  obtain ⟨σ3, v4, h5, hf⟩ := hy_bd_some hf
  refine hy_cs (As := [.int x1, .int 0, .int 7]) (rest := [.ref (G.2.2.2.2.1 0)]) (o := (σ3, v4)) mw_fix hA B w (fun sz => mX10_in l G sz σ1 x1 0 7 _ h5) (cwS 3 B.1.2.2.2.2 gX10_notes_X10_in rfl rfl rfl (by decide +kernel) ⟨by have := hR.1; show 0 + 1 ≤ _; omega, by have := hR.2; show 8 + (3 + 11) + 0 ≤ _; omega⟩) rfl hl.1 rfl (Nat.le_of_ble_eq_true rfl) dX10_notes_10 ⟨Nat.zero_le _, Nat.zero_le _⟩ (fun H locs w => ?_)
  refine lv_if_ne (tgt := 20) B.1.1 B.1.2.1 dX10_notes_13 (by decide) (fun c6 => ?_) (fun c6 => ?_)
  · rw [if_neg c6] at hf
    refine lv_iconst (v := 0) B.1.1 B.1.2.1 dX10_notes_20 (by decide) ?_
    exact bX10_notes_21 hA B hR  hret _ _ _ _ _ _ _ hf w (lv_sub hl [0, 1, 2] rfl)
  · rw [if_pos c6] at hf
    refine lv_iconst (v := 1) B.1.1 B.1.2.1 dX10_notes_16 (by decide) ?_
    refine lv_goto (tgt := 21) B.1.1 B.1.2.1 dX10_notes_17 (by decide) ?_
    exact bX10_notes_21 hA B hR  hret _ _ _ _ _ _ _ hf w (lv_sub hl [0, 1, 2] rfl)
set_option maxHeartbeats 4000000 in
set_option maxRecDepth 100000 in
theorem mX10_notes (l : Launch) (G : hy_G) (sz : Nat) (σ : hy_S) (x1 : Int32) (x2 : Int32) (o : hy_S × Int32) (hf : fX10_notes σ x1 x2 = some o) : hy_M l yX10_notes wsX10_notes ({ frames := 1, cells := 0, slots := 0, locals := 22 }) mw G σ sz [.ref (G.2.2.2.2.1 0), .int x1, .int x2] o := by
  refine Met.ofW (cc := cX10_notes) (maxL := 3) (ret := (some .int)) (by decide +kernel) rfl ?_
  intro p e s m args below meth c s₁ B hml hv
  obtain ⟨rfl, hsz, hP, hK, hD0, hN⟩ := hv
  have hx := B.exec
  have hb := B.bytes
  have hr := B.returns
  have hts := atoms_spec (ws := wsX10_notes) B.pre
  have hown : s.vm.findClass RX10 = some m.cls := findClass_of_methodNamed B.named
  have hlocks := B.notSynchronized
  subst hsz
  have hD := hD0.self (sz := s.heap.size)
  have hA : ∀ q : Nat, s.heap.size ≤ q → va_A (mw G σ) s.heap.size q := fun q h => Or.inr h
  have hS : va_S (va_A (mw G σ) s.heap.size) s.heap s.heap [] := va_S.rf
  have hl := lv_entry ([.ref (G.2.2.2.2.1 0), .int x1, .int x2]) (n := 3) (Nat.le_of_ble_eq_true rfl)
  rw [lg_entry_eq]
  generalize (lg_sl ([.ref (G.2.2.2.2.1 0), .int x1, .int x2]) ++ List.replicate (3 - (lg_sl ([.ref (G.2.2.2.2.1 0), .int x1, .int x2])).length) Slot.unset).toArray = ls at hl ⊢
  have hl : lv_has ls 3 [(0, .ref (G.2.2.2.2.1 0)), (1, .int x1), (2, .int x2)] := hl
  refine bX10_notes_0 (A := va_A (mw G σ) s.heap.size) hA ⟨⟨hx, hb, hml, hown, hts⟩, hK, hN⟩ ⟨Nat.le_of_ble_eq_true rfl, Nat.le_of_ble_eq_true rfl⟩ (o := o) (fun τ v pc H locs ls ho w d => ?_) σ x1 x2 _ _ _ hf ⟨hP, hD, hS⟩ hl
  exact W.iret hx hb hr (fun t ht hW => ⟨⟨v, τ, rfl, ⟨by rw [ho], by rw [ho]⟩, by have h9 := w.1; rw [← ht] at h9; exact h9⟩, w.2.2.F ht⟩) w.2.2.2.2 d
end HM2
