
/-! What the machine's tables and the Statement's premises give at the law's entry. -/
theorem hz_K {s : State} {args : Array Value} (hts : ∀ w ∈ lw_tbl, w.before args s = true) : ∃ (D : va_G) (cA : Nat → ClassId), va_K D vwCl (hy_ty cA) s := by
  obtain ⟨c0, i0, k0⟩ := u_known (C := RX0) (T := TX0) (N := 4) (n := 4) hts inX0 (hts (.instantiable RX0 4) (lx_t1 _ (xt16 (xt16 (xt16 (xt16 (xt16 (xt16 (xt16 (xt4 (xt4 (xt4 (xt1 (xt1 (xh)))))))))))))))
  obtain ⟨c1, i1, k1⟩ := u_known (C := RX1) (T := TX1) (N := 8) (n := 8) hts inX1 (hts (.instantiable RX1 8) (lx_t1 _ (xt16 (xt16 (xt16 (xt16 (xt16 (xt4 (xh)))))))))
  obtain ⟨c2, i2, k2⟩ := u_known (C := RX2) (T := TX2) (N := 4) (n := 4) hts inX2 (hts (.instantiable RX2 4) (lx_t1 _ (xt16 (xt16 (xt16 (xt4 (xt4 (xt4 (xt1 (xh))))))))))
  obtain ⟨c3, i3, k3⟩ := u_known (C := RX3) (T := TX3) (N := 1) (n := 1) hts inX3 (hts (.instantiable RX3 1) (lx_t1 _ (xt16 (xt16 (xt16 (xt1 (xh)))))))
  obtain ⟨c4, i4, k4⟩ := u_known (C := RX4) (T := TX4) (N := 3) (n := 3) hts inX4 (hts (.instantiable RX4 3) (lx_t1 _ (xt16 (xt16 (xt16 (xt16 (xt16 (xt16 (xt16 (xt16 (xt16 (xt16 (xt4 (xt1 (xh)))))))))))))))
  obtain ⟨c5, i5, k5⟩ := u_known (C := RX5) (T := TX5) (N := 5) (n := 5) hts inX5 (hts (.instantiable RX5 5) (lx_t1 _ (xt16 (xt16 (xt16 (xt16 (xt16 (xt16 (xt16 (xt16 (xt16 (xt16 (xt16 (xt4 (xt4 (xh))))))))))))))))
  obtain ⟨c6, i6, k6⟩ := u_known (C := RX6) (T := TX6) (N := 4) (n := 4) hts inX6 (hts (.instantiable RX6 4) (lx_t1 _ (xt16 (xt16 (xt16 (xt16 (xt16 (xt16 (xt16 (xt16 (xt16 (xt1 (xt1 (xh))))))))))))))
  obtain ⟨c7, i7, k7⟩ := u_known (C := RX7) (T := TX7) (N := 2) (n := 2) hts inX7 (hts (.instantiable RX7 2) (lx_t1 _ (xt16 (xt16 (xt1 (xt1 (xt1 (xh))))))))
  obtain ⟨c8, i8, k8⟩ := u_known (C := RX8) (T := TX8) (N := 10) (n := 10) hts inX8 (hts (.instantiable RX8 10) (lx_t1 _ (xt16 (xt16 (xt16 (xt16 (xt16 (xt16 (xt16 (xt16 (xt16 (xt16 (xt16 (xt16 (xt16 (xt1 (xt1 (xh))))))))))))))))))
  obtain ⟨c9, i9, k9⟩ := u_known (C := RX9) (T := TX9) (N := 11) (n := 11) hts inX9 (hts (.instantiable RX9 11) (lx_t1 _ (xt16 (xt4 (xt4 (xt1 (xt1 (xt1 (xh)))))))))
  obtain ⟨c10, i10, k10⟩ := u_known (C := RX10) (T := TX10) (N := 43) (n := 43) hts inX10 (hts (.instantiable RX10 43) (lx_t4 _ (xt16 (xt16 (xt16 (xt16 (xt16 (xt16 (xt16 (xt16 (xt16 (xt16 (xt4 (xt1 (xt1 (xt1 (xh)))))))))))))))))
  have arr : ∀ ty : FieldType, (Cond.arrayClass ty).before args s = true → ∃ cA : ClassId, ArrOfT s cA ty ∧ s.vm.findClass ("[" ++ ty.toString) = some cA := by
    intro ty h
    obtain ⟨cA, kA, comp, h1, h2, h3⟩ := Cond.arrayClass_spec h
    exact ⟨cA, fun n z => ⟨fun k h => (by cases h), kA, h2, comp, h3⟩, h1⟩
  obtain ⟨a0, b0, d0⟩ := arr .int (hts (.arrayClass .int) (lx_t1 _ (xt16 (xt16 (xt16 (xt4 (xt4 (xt1 (xt1 (xt1 (xh)))))))))))
  obtain ⟨a1, b1, d1⟩ := arr .byte (hts (.arrayClass .byte) (lx_t1 _ (xt16 (xt16 (xt4 (xt4 (xt4 (xt1 (xt1 (xt1 (xh)))))))))))
  obtain ⟨a2, b2, d2⟩ := arr .boolean (hts (.arrayClass .boolean) (lx_t5 _ (xt16 (xt16 (xt16 (xt4 (xt4 (xt4 (xt1 (xt1 (xh)))))))))))
  obtain ⟨a3, b3, d3⟩ := arr .long (hts (.arrayClass .long) (lx_t6 _ (xt16 (xt4 (xt4 (xt4 (xh)))))))
  refine ⟨(fun k => [c0, c1, c2, c3, c4, c5, c6, c7, c8, c9, c10].getD k 0, fun k => match k with
    | 0 => i0
    | 1 => i1
    | 2 => i2
    | 3 => i3
    | 4 => i4
    | 5 => i5
    | 6 => i6
    | 7 => i7
    | 8 => i8
    | 9 => i9
    | 10 => i10
    | _ => fun _ => 0), fun k => [a0, a1, a2, a3].getD k 0, ?_, ?_⟩
  · intro k q hq
    match k, hq with
    | 0, hq => cases hq; exact k0
    | 1, hq => cases hq; exact k1
    | 2, hq => cases hq; exact k2
    | 3, hq => cases hq; exact k3
    | 4, hq => cases hq; exact k4
    | 5, hq => cases hq; exact k5
    | 6, hq => cases hq; exact k6
    | 7, hq => cases hq; exact k7
    | 8, hq => cases hq; exact k8
    | 9, hq => cases hq; exact k9
    | 10, hq => cases hq; exact k10
    | k + 11, hq => exact absurd (List.getElem?_eq_some_iff.mp hq).1 (by simp)
  · intro k q hq
    match k, hq with
    | 0, hq => cases hq; exact ⟨b0, d0⟩
    | 1, hq => cases hq; exact ⟨b1, d1⟩
    | 2, hq => cases hq; exact ⟨b2, d2⟩
    | 3, hq => cases hq; exact ⟨b3, d3⟩
    | k + 4, hq => exact absurd (List.getElem?_eq_some_iff.mp hq).1 (by simp [hy_ty])
noncomputable def hz_tm (i : Nat) : Term := .string RX3 ([37, 39, 41, 43, 45].getD i 0)
noncomputable def hz_sw : List Cond := (List.range 5).flatMap (fun i => [Cond.exactly (hz_tm i) "java/lang/String", Cond.eq (.field (hz_tm i) "java/lang/String" "coder" "B") (.int 0), Cond.arrayOf (.field (hz_tm i) "java/lang/String" "value" "[B") .byte, Cond.eq (.length (.field (hz_tm i) "java/lang/String" "value" "[B")) (.int (Int32.ofNat (hy_sl.getD i 0)))])
theorem hz_s0 : ∀ i, i < 5 → Cond.exactly (hz_tm i) "java/lang/String" ∈ flatC (Jvm.Cond.and given_1 narrow_1) := by decide +kernel
theorem hz_s1 : ∀ i, i < 5 → Cond.eq (.field (hz_tm i) "java/lang/String" "coder" "B") (.int 0) ∈ flatC (Jvm.Cond.and given_1 narrow_1) := by decide +kernel
theorem hz_s2 : ∀ i, i < 5 → Cond.arrayOf (.field (hz_tm i) "java/lang/String" "value" "[B") .byte ∈ flatC (Jvm.Cond.and given_1 narrow_1) := by decide +kernel
theorem hz_s3 : ∀ i, i < 5 → Cond.eq (.length (.field (hz_tm i) "java/lang/String" "value" "[B")) (.int (Int32.ofNat (hy_sl.getD i 0))) ∈ flatC (Jvm.Cond.and given_1 narrow_1) := by decide +kernel
theorem hz_s4 : ∀ i, i < 5 → ∀ j, j < hy_sl.getD i 0 → Cond.eq (.elem (.field (hz_tm i) "java/lang/String" "value" "[B") (.int (Int32.ofNat j))) (.int ((hy_sb.getD i []).getD j 0)) ∈ flatC (Jvm.Cond.and given_1 narrow_1) := by decide +kernel
theorem hz_s5 : ∀ i, i < 5 → ∀ j, j < 5 → i ≠ j → (Cond.not (Cond.eq (hz_tm i) (hz_tm j)) ∈ flatC (Jvm.Cond.and given_1 narrow_1) ∨ Cond.not (Cond.eq (hz_tm j) (hz_tm i)) ∈ flatC (Jvm.Cond.and given_1 narrow_1)) := by decide +kernel
theorem hz_s6 : ∀ q ∈ hy_wl, Cond.stringRef q.1 q.2.1 q.2.2.1 ∈ lw_tbl := by decide +kernel
theorem hz_s7 : ∀ q ∈ hy_wl, q.2.2.2 < 5 ∧ ((q.1 = RX3 ∧ Term.string q.1 q.2.1 = hz_tm q.2.2.2) ∨ Cond.eq (hz_tm q.2.2.2) (.string q.1 q.2.1) ∈ flatC (Jvm.Cond.and given_1 narrow_1)) := by decide +kernel
theorem hz_s8 : ∀ q ∈ hy_ts, Cond.stringRef q.1 q.2.1 q.2.2 ∈ lw_tbl := by decide +kernel
theorem hz_s9 : ∀ q ∈ hy_ts, Cond.exactly (.string q.1 q.2.1) "java/lang/String" ∈ flatC (Jvm.Cond.and given_1 narrow_1) := by decide +kernel
theorem hz_t0 : ∀ q ∈ hy_nl, Cond.fieldLinkNest q.1 q.2.1 q.2.2.1 q.2.2.2.1 q.2.2.2.2.1 q.2.2.2.2.2 ∈ lw_tbl := by decide +kernel
theorem hz_t1 : ∀ X ∈ hy_cl, Cond.castable X X ∈ lw_tbl := by decide +kernel
theorem hz_t2 : ∀ y ∈ hy_dc, Cond.declares y ∈ lw_tbl := by decide +kernel
theorem hz_t3 : ∀ q ∈ hy_np, Cond.not (.castable q.1 q.2) ∈ flatC (Jvm.Cond.and given_1 narrow_1) := by decide +kernel
theorem hz_env {s : State} {args : Array Value} (hts : ∀ w ∈ lw_tbl, w.before args s = true) (hgv : (Jvm.Cond.and given_1 narrow_1).before args s = true) : ∃ (K V : Nat → Nat), ∀ (D : va_G) (cA : Nat → ClassId) (X M : Nat → Nat), hy_env (D, cA, s.heap.size, X, M, K, V) s := by
  have hg := flat_of_before _ hgv
  have hA : ∀ a : Nat, a < s.heap.size → ¬ (fun q : Nat => s.heap.size ≤ q) a := fun a h => Nat.not_le.mpr h
  obtain ⟨K, V, hS, hT⟩ := vk_Sof (args := args) (s := s) (N := 5) (tm := hz_tm) (len := hy_sl) (byt := hy_sb) (A := fun q : Nat => s.heap.size ≤ q) (by decide) (fun i h => hg _ (hz_s0 i h)) (fun i h => hg _ (hz_s1 i h)) (fun i h => hg _ (hz_s2 i h)) (fun i h => hg _ (hz_s3 i h)) (fun i h j h2 => hg _ (hz_s4 i h j h2)) (fun i j h h2 hn => (hz_s5 i h j h2 hn).imp (fun z => hg _ z) (fun z => hg _ z)) hA
  refine ⟨K, V, fun D cA X M => ⟨fun q hq => va_Nw.of rfl (hts _ (hz_t0 q hq)), ⟨?_, ?_, fun q hq => ?_, fun X hX => va_Nw.of rfl (hts _ (hz_t1 X hX)), fun y hy => va_Nw.of rfl (hts _ (hz_t2 y hy))⟩, hS, ?_, ?_, fun q hq => ?_⟩⟩
  · exact vx_Zqof (hts (.laysStatic Bundle.tN "UNASSIGNED_STACK" Bundle.steD) (by decide +kernel)) (hts (.initialized Bundle.tN) (by decide +kernel)) (hg (.isRef (.static Bundle.tN "UNASSIGNED_STACK" Bundle.steD)) (by decide +kernel)) hA
  · exact vx_Zqof (hts (.laysStatic Bundle.tN "SUPPRESSED_SENTINEL" Bundle.listD) (by decide +kernel)) (hts (.initialized Bundle.tN) (by decide +kernel)) (hg (.isRef (.static Bundle.tN "SUPPRESSED_SENTINEL" Bundle.listD)) (by decide +kernel)) hA
  · obtain ⟨a, c9, cell, k, h1, -⟩ := Cond.exactly_spec (args := args) (first := s) (o := none) (s := s) (idx := []) (hg _ (hz_s9 q hq))
    exact ⟨a, vk_R.of (hts _ (hz_s8 q hq)) h1⟩
  · exact va_Zof (hts (.laysStatic "java/lang/String" "COMPACT_STRINGS" "Z") (by decide +kernel)) (hts (.initialized "java/lang/String") (lx_t1 _ (xt16 (xt4 (xt1 (xh)))))) (va_eqi (hg (.eq (.static "java/lang/String" "COMPACT_STRINGS" "Z") (.int 1)) (by decide +kernel))) hA
  · exact va_Zqof (hts (.laysStatic "jdk/internal/util/Preconditions" "SIOOBE_FORMATTER" "Ljava/util/function/BiFunction;") (by decide +kernel)) (hts (.initialized "jdk/internal/util/Preconditions") (lx_t1 _ (xt16 (xt4 (xt1 (xt1 (xt1 (xh)))))))) (hg (.isRef (.static "jdk/internal/util/Preconditions" "SIOOBE_FORMATTER" "Ljava/util/function/BiFunction;")) (by decide +kernel)) hA
  · obtain ⟨h5, h⟩ := hz_s7 q hq
    refine vk_R.of (hts _ (hz_s6 q hq)) ?_
    rcases h with ⟨-, h⟩ | h
    · rw [h]
      exact hT _ h5
    · exact va_eqR (hg _ h) (hT _ h5)
theorem hz_np {s : State} {args : Array Value} (hgv : (Jvm.Cond.and given_1 narrow_1).before args s = true) : ∀ q ∈ hy_np, va_Nc q.1 q.2 s := fun q hq => va_Nc.of (flat_of_before _ hgv _ (hz_t3 q hq))
