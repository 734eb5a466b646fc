/-! Both sides keep their bounds, and the sizes of one are those of the other: what the law's loop asks. -/
noncomputable def hp_R (σ μ : hy_S) : Prop := (σ.2 5).toInt = (μ.2 3).toInt ∧ (σ.2 3).toInt = (μ.2 1).toInt ∧ (σ.2 4).toInt = (μ.2 2).toInt ∧ (σ.2 1).toInt = (μ.2 11).toInt ∧ (σ.2 8).toInt = (μ.2 10).toInt ∧ (σ.2 7).toInt = (μ.2 9).toInt ∧ (σ.2 2).toInt = (μ.2 4).toInt ∧ ht_R σ μ
noncomputable def hp_I (n : Nat) (σ μ : hy_S) : Prop := hc_I (fun _ => True) σ ∧ hm_I (fun _ => True) μ ∧ hp_R σ μ ∧ 0 ≤ (σ.2 1).toInt ∧ (σ.2 1).toInt ≤ 1000 * (n : Int)
theorem hp_ca (j : Nat) : (hc_a j).1 ≤ 0 ∧ 0 ≤ (hc_a j).2 := by
  unfold hc_a
  split <;> decide
theorem hp_ci (j : Nat) : (hc_i j).1 ≤ 0 ∧ 0 ≤ (hc_i j).2 := by
  unfold hc_i
  split <;> decide
theorem hp_ma (j : Nat) : (hm_a j).1 ≤ 0 ∧ 0 ≤ (hm_a j).2 := by
  unfold hm_a
  split <;> decide
theorem hp_mi (j : Nat) : (hm_i j).1 ≤ 0 ∧ 0 ≤ (hm_i j).2 := by
  unfold hm_i
  split <;> decide
theorem hp_a0 {k9 j k : Nat} (h : ¬ j = k9) : hz_a k9 j k = 0 := by
  unfold hz_a
  rw [decide_eq_false h]
theorem hp_i0 {k9 j : Nat} (h : ¬ j = k9) : hz_i k9 j = 0 := by
  unfold hz_i
  rw [decide_eq_false h]
theorem hp_0 : hp_I 0 hz_σ hz_μ := by
  refine ⟨⟨fun j k => ?_, fun j => ?_, trivial⟩, ⟨fun j k => ?_, fun j => ?_, fun j hj => ?_, trivial⟩, ?_, ?_, ?_⟩
  · by_cases e : j = 15
    · subst e
      exact hs_any _
    · rw [show hz_σ.1 j k = 0 from hp_a0 e]
      exact hp_ca j
  · by_cases e : j = 0
    · subst e
      exact hs_any _
    · rw [show hz_σ.2 j = 0 from hp_i0 e]
      exact hp_ci j
  · by_cases e : j = 14
    · subst e
      exact hs_any _
    · rw [show hz_μ.1 j k = 0 from hp_a0 e]
      exact hp_ma j
  · by_cases e : j = 8
    · subst e
      exact hs_any _
    · rw [show hz_μ.2 j = 0 from hp_i0 e]
      exact hp_mi j
  · rw [show hz_μ.2 2 = 0 from hp_i0 (k9 := 8) (j := 2) (by decide)] at hj
    exact absurd hj (by
      show ¬ (j : Int) < 0
      omega)
  · exact ⟨rfl, rfl, rfl, rfl, rfl, rfl, rfl, ht_start (fun j hj k => hp_a0 hj) (fun j hj => hp_i0 hj) (fun j hj k => hp_a0 hj) (fun j hj => hp_i0 hj)⟩
  · decide
  · decide
theorem hp_feed : hz_I_feed hp_I := by
  intro n σ μ x1 x2 x3 x4 x5 hn hI
  obtain ⟨hC, hM, ⟨r0, r1, r2, r3, r4, r5, r6, RY⟩, t0, t1⟩ := hI
  have r0 : (σ.2 5).toInt = (μ.2 3).toInt := r0
  have r1 : (σ.2 3).toInt = (μ.2 1).toInt := r1
  have r2 : (σ.2 4).toInt = (μ.2 2).toInt := r2
  have r3 : (σ.2 1).toInt = (μ.2 11).toInt := r3
  have r4 : (σ.2 8).toInt = (μ.2 10).toInt := r4
  have r5 : (σ.2 7).toInt = (μ.2 9).toInt := r5
  have r6 : (σ.2 2).toInt = (μ.2 4).toInt := r6
  obtain ⟨o, e1, h1⟩ := s_fX9_feed (hs_ka (by decide)) (hs_ki (by decide)) σ x1 x2 x3 x4 x5 (P := fun τ v => hc_I (hs_k [22, 23, 24, 25, 26] [0, 1, 3, 4, 5, 6, 7, 8, 9] σ) τ ∧ (((σ.2 2).toInt + 20 ≤ 400 ∧ (τ.2 2).toInt = (σ.2 2).toInt + 20 ∧ v.toInt = (σ.2 2).toInt + 20) ∨ (400 < (σ.2 2).toInt + 20 ∧ (τ.2 2).toInt = (σ.2 2).toInt ∧ v.toInt = -1))) (⟨hC.1, hC.2.1, hs_k0⟩ : hc_I (hs_k [22, 23, 24, 25, 26] [0, 1, 3, 4, 5, 6, 7, 8, 9] σ) σ) (fun _ _ h g0 => ⟨h, g0⟩)
  obtain ⟨o2, e2, h2⟩ := s_fX10_feed (hs_ka (by decide)) (hs_ki (by decide)) μ x1 x2 x3 x4 x5 (P := fun τ v => hm_I (hs_k [23, 24, 25, 26, 27] [1, 2, 3, 5, 6, 7, 8, 9, 10, 11] μ) τ ∧ (((μ.2 4).toInt + 20 ≤ 400 ∧ (τ.2 4).toInt = (μ.2 4).toInt + 20 ∧ v.toInt = (μ.2 4).toInt + 20) ∨ (400 < (μ.2 4).toInt + 20 ∧ (τ.2 4).toInt = (μ.2 4).toInt ∧ v.toInt = -1))) (⟨hM.1, hM.2.1, hM.2.2.1, hs_k0⟩ : hm_I (hs_k [23, 24, 25, 26, 27] [1, 2, 3, 5, 6, 7, 8, 9, 10, 11] μ) μ) (fun _ _ h g0 => ⟨h, g0⟩)
  obtain ⟨h1, a0⟩ := h1
  obtain ⟨h2, b0⟩ := h2
  have : (o.1.2 1).toInt = (σ.2 1).toInt := congrArg Int32.toInt (h1.2.2.2 1 (by decide))
  have : (o.1.2 3).toInt = (σ.2 3).toInt := congrArg Int32.toInt (h1.2.2.2 3 (by decide))
  have : (o.1.2 4).toInt = (σ.2 4).toInt := congrArg Int32.toInt (h1.2.2.2 4 (by decide))
  have : (o.1.2 5).toInt = (σ.2 5).toInt := congrArg Int32.toInt (h1.2.2.2 5 (by decide))
  have : (o.1.2 7).toInt = (σ.2 7).toInt := congrArg Int32.toInt (h1.2.2.2 7 (by decide))
  have : (o.1.2 8).toInt = (σ.2 8).toInt := congrArg Int32.toInt (h1.2.2.2 8 (by decide))
  have : (o2.1.2 1).toInt = (μ.2 1).toInt := congrArg Int32.toInt (h2.2.2.2.2 1 (by decide))
  have : (o2.1.2 2).toInt = (μ.2 2).toInt := congrArg Int32.toInt (h2.2.2.2.2 2 (by decide))
  have : (o2.1.2 3).toInt = (μ.2 3).toInt := congrArg Int32.toInt (h2.2.2.2.2 3 (by decide))
  have : (o2.1.2 9).toInt = (μ.2 9).toInt := congrArg Int32.toInt (h2.2.2.2.2 9 (by decide))
  have : (o2.1.2 10).toInt = (μ.2 10).toInt := congrArg Int32.toInt (h2.2.2.2.2 10 (by decide))
  have : (o2.1.2 11).toInt = (μ.2 11).toInt := congrArg Int32.toInt (h2.2.2.2.2 11 (by decide))
  try dsimp only at a0
  try dsimp only at b0
  have : (-2147483648 : Int) ≤ (σ.2 1).toInt ∧ (σ.2 1).toInt ≤ 2147483647 := hC.2.1 1
  have : (0 : Int) ≤ (σ.2 2).toInt ∧ (σ.2 2).toInt ≤ 400 := hC.2.1 2
  have : (0 : Int) ≤ (σ.2 3).toInt ∧ (σ.2 3).toInt ≤ 8 := hC.2.1 3
  have : (0 : Int) ≤ (σ.2 4).toInt ∧ (σ.2 4).toInt ≤ 60 := hC.2.1 4
  have : (0 : Int) ≤ (σ.2 5).toInt ∧ (σ.2 5).toInt ≤ 4 := hC.2.1 5
  have : (0 : Int) ≤ (σ.2 7).toInt ∧ (σ.2 7).toInt ≤ 60 := hC.2.1 7
  have : (0 : Int) ≤ (σ.2 8).toInt ∧ (σ.2 8).toInt ≤ 60 := hC.2.1 8
  exact ⟨o, o2, e1, e2, ⟨⟨h1.1, h1.2.1, trivial⟩, ⟨h2.1, h2.2.1, h2.2.2.1, trivial⟩, ⟨(show (o.1.2 5).toInt = (o2.1.2 3).toInt by omega), (show (o.1.2 3).toInt = (o2.1.2 1).toInt by omega), (show (o.1.2 4).toInt = (o2.1.2 2).toInt by omega), (show (o.1.2 1).toInt = (o2.1.2 11).toInt by omega), (show (o.1.2 8).toInt = (o2.1.2 10).toInt by omega), (show (o.1.2 7).toInt = (o2.1.2 9).toInt by omega), (show (o.1.2 2).toInt = (o2.1.2 4).toInt by omega), (ht_keep (fun j hj => h1.2.2.1 j (hs_inc (by decide) hj)) (fun j hj => h1.2.2.2 j (hs_inc (by decide) hj)) (fun j hj => h2.2.2.2.1 j (hs_inc (by decide) hj)) (fun j hj => h2.2.2.2.2 j (hs_inc (by decide) hj)) RY)⟩, by omega, by omega⟩⟩
theorem hp_end : hz_I_end hp_I := by
  intro n σ μ x1 hn hI
  obtain ⟨hC, hM, ⟨r0, r1, r2, r3, r4, r5, r6, RY⟩, t0, t1⟩ := hI
  have r0 : (σ.2 5).toInt = (μ.2 3).toInt := r0
  have r1 : (σ.2 3).toInt = (μ.2 1).toInt := r1
  have r2 : (σ.2 4).toInt = (μ.2 2).toInt := r2
  have r3 : (σ.2 1).toInt = (μ.2 11).toInt := r3
  have r4 : (σ.2 8).toInt = (μ.2 10).toInt := r4
  have r5 : (σ.2 7).toInt = (μ.2 9).toInt := r5
  have r6 : (σ.2 2).toInt = (μ.2 4).toInt := r6
  obtain ⟨o, e1, h1⟩ := s_fX9_end (hs_ka (by decide)) (hs_ki (by decide)) σ x1 (P := fun τ v => hc_I (hs_k [22, 23, 24, 25, 26] [0, 1, 3, 4, 5, 6, 7, 8, 9] σ) τ ∧ ((0 ≤ (x1 : Int32).toInt ∧ (x1 : Int32).toInt ≤ (σ.2 2).toInt ∧ (τ.2 2).toInt = (x1 : Int32).toInt ∧ v.toInt = 1) ∨ (((x1 : Int32).toInt < 0 ∨ (σ.2 2).toInt < (x1 : Int32).toInt) ∧ (τ.2 2).toInt = (σ.2 2).toInt ∧ v.toInt = 0))) (⟨hC.1, hC.2.1, hs_k0⟩ : hc_I (hs_k [22, 23, 24, 25, 26] [0, 1, 3, 4, 5, 6, 7, 8, 9] σ) σ) (fun _ _ h g0 => ⟨h, g0⟩)
  obtain ⟨o2, e2, h2⟩ := s_fX10_end (hs_ka (by decide)) (hs_ki (by decide)) μ x1 (P := fun τ v => hm_I (hs_k [23, 24, 25, 26, 27] [1, 2, 3, 5, 6, 7, 8, 9, 10, 11] μ) τ ∧ ((0 ≤ (x1 : Int32).toInt ∧ (x1 : Int32).toInt ≤ (μ.2 4).toInt ∧ (τ.2 4).toInt = (x1 : Int32).toInt ∧ v.toInt = 1) ∨ (((x1 : Int32).toInt < 0 ∨ (μ.2 4).toInt < (x1 : Int32).toInt) ∧ (τ.2 4).toInt = (μ.2 4).toInt ∧ v.toInt = 0))) (⟨hM.1, hM.2.1, hM.2.2.1, hs_k0⟩ : hm_I (hs_k [23, 24, 25, 26, 27] [1, 2, 3, 5, 6, 7, 8, 9, 10, 11] μ) μ) (fun _ _ h g0 => ⟨h, g0⟩)
  obtain ⟨h1, a0⟩ := h1
  obtain ⟨h2, b0⟩ := h2
  have : (o.1.2 1).toInt = (σ.2 1).toInt := congrArg Int32.toInt (h1.2.2.2 1 (by decide))
  have : (o.1.2 3).toInt = (σ.2 3).toInt := congrArg Int32.toInt (h1.2.2.2 3 (by decide))
  have : (o.1.2 4).toInt = (σ.2 4).toInt := congrArg Int32.toInt (h1.2.2.2 4 (by decide))
  have : (o.1.2 5).toInt = (σ.2 5).toInt := congrArg Int32.toInt (h1.2.2.2 5 (by decide))
  have : (o.1.2 7).toInt = (σ.2 7).toInt := congrArg Int32.toInt (h1.2.2.2 7 (by decide))
  have : (o.1.2 8).toInt = (σ.2 8).toInt := congrArg Int32.toInt (h1.2.2.2 8 (by decide))
  have : (o2.1.2 1).toInt = (μ.2 1).toInt := congrArg Int32.toInt (h2.2.2.2.2 1 (by decide))
  have : (o2.1.2 2).toInt = (μ.2 2).toInt := congrArg Int32.toInt (h2.2.2.2.2 2 (by decide))
  have : (o2.1.2 3).toInt = (μ.2 3).toInt := congrArg Int32.toInt (h2.2.2.2.2 3 (by decide))
  have : (o2.1.2 9).toInt = (μ.2 9).toInt := congrArg Int32.toInt (h2.2.2.2.2 9 (by decide))
  have : (o2.1.2 10).toInt = (μ.2 10).toInt := congrArg Int32.toInt (h2.2.2.2.2 10 (by decide))
  have : (o2.1.2 11).toInt = (μ.2 11).toInt := congrArg Int32.toInt (h2.2.2.2.2 11 (by decide))
  try dsimp only at a0
  try dsimp only at b0
  have : (-2147483648 : Int) ≤ (σ.2 1).toInt ∧ (σ.2 1).toInt ≤ 2147483647 := hC.2.1 1
  have : (0 : Int) ≤ (σ.2 2).toInt ∧ (σ.2 2).toInt ≤ 400 := hC.2.1 2
  have : (0 : Int) ≤ (σ.2 3).toInt ∧ (σ.2 3).toInt ≤ 8 := hC.2.1 3
  have : (0 : Int) ≤ (σ.2 4).toInt ∧ (σ.2 4).toInt ≤ 60 := hC.2.1 4
  have : (0 : Int) ≤ (σ.2 5).toInt ∧ (σ.2 5).toInt ≤ 4 := hC.2.1 5
  have : (0 : Int) ≤ (σ.2 7).toInt ∧ (σ.2 7).toInt ≤ 60 := hC.2.1 7
  have : (0 : Int) ≤ (σ.2 8).toInt ∧ (σ.2 8).toInt ≤ 60 := hC.2.1 8
  exact ⟨o, o2, e1, e2, ⟨⟨h1.1, h1.2.1, trivial⟩, ⟨h2.1, h2.2.1, h2.2.2.1, trivial⟩, ⟨(show (o.1.2 5).toInt = (o2.1.2 3).toInt by omega), (show (o.1.2 3).toInt = (o2.1.2 1).toInt by omega), (show (o.1.2 4).toInt = (o2.1.2 2).toInt by omega), (show (o.1.2 1).toInt = (o2.1.2 11).toInt by omega), (show (o.1.2 8).toInt = (o2.1.2 10).toInt by omega), (show (o.1.2 7).toInt = (o2.1.2 9).toInt by omega), (show (o.1.2 2).toInt = (o2.1.2 4).toInt by omega), (ht_keep (fun j hj => h1.2.2.1 j (hs_inc (by decide) hj)) (fun j hj => h1.2.2.2 j (hs_inc (by decide) hj)) (fun j hj => h2.2.2.2.1 j (hs_inc (by decide) hj)) (fun j hj => h2.2.2.2.2 j (hs_inc (by decide) hj)) RY)⟩, by omega, by omega⟩⟩
theorem hp_kind : hz_I_kind hp_I := by
  intro n σ μ x1 x2 x3 hn hI
  obtain ⟨hC, hM, ⟨r0, r1, r2, r3, r4, r5, r6, RY⟩, t0, t1⟩ := hI
  have r0 : (σ.2 5).toInt = (μ.2 3).toInt := r0
  have r1 : (σ.2 3).toInt = (μ.2 1).toInt := r1
  have r2 : (σ.2 4).toInt = (μ.2 2).toInt := r2
  have r3 : (σ.2 1).toInt = (μ.2 11).toInt := r3
  have r4 : (σ.2 8).toInt = (μ.2 10).toInt := r4
  have r5 : (σ.2 7).toInt = (μ.2 9).toInt := r5
  have r6 : (σ.2 2).toInt = (μ.2 4).toInt := r6
  obtain ⟨o, e1, h1⟩ := s_fX9_kind (hs_ka (by decide)) (hs_ki (by decide)) σ x1 x2 x3 (Q := fun o => hc_I (hs_k [22, 23, 24, 25, 26] [0, 1, 2, 4, 5, 6, 7, 8, 9] σ) o.1 ∧ (o.2.2 = 0 ∨ o.2.2 = 2 ∨ o.2.2 = 3) ∧ ((o.2.2 = 0 ∧ ¬ ((x1 : Int32).toInt < 1 ∨ 100 < (x1 : Int32).toInt ∨ (x2 : Int32).toInt < 1 ∨ 200 < (x2 : Int32).toInt ∨ (x3 : Int32).toInt < 0 ∨ 5000 < (x3 : Int32).toInt) ∧ (σ.2 3).toInt < 8 ∧ (o.1.2 3).toInt = (σ.2 3).toInt + 1 ∧ o.2.1.toInt = (σ.2 3).toInt) ∨ (o.2.2 = 2 ∧ ((x1 : Int32).toInt < 1 ∨ 100 < (x1 : Int32).toInt ∨ (x2 : Int32).toInt < 1 ∨ 200 < (x2 : Int32).toInt ∨ (x3 : Int32).toInt < 0 ∨ 5000 < (x3 : Int32).toInt) ∧ (o.1.2 3).toInt = (σ.2 3).toInt) ∨ (o.2.2 = 3 ∧ ¬ ((x1 : Int32).toInt < 1 ∨ 100 < (x1 : Int32).toInt ∨ (x2 : Int32).toInt < 1 ∨ 200 < (x2 : Int32).toInt ∨ (x3 : Int32).toInt < 0 ∨ 5000 < (x3 : Int32).toInt) ∧ 8 ≤ (σ.2 3).toInt ∧ (o.1.2 3).toInt = (σ.2 3).toInt))) (⟨hC.1, hC.2.1, hs_k0⟩ : hc_I (hs_k [22, 23, 24, 25, 26] [0, 1, 2, 4, 5, 6, 7, 8, 9] σ) σ) (fun _ _ _ h c g0 => ⟨h, c, g0⟩)
  obtain ⟨o2, e2, h2⟩ := s_fX10_kind (hs_ka (by decide)) (hs_ki (by decide)) μ x1 x2 x3 (P := fun τ v => hm_I (hs_k [23, 24, 25, 26, 27] [2, 3, 4, 5, 6, 7, 8, 9, 10, 11] μ) τ ∧ (((τ.2 0).toInt = 0 ∧ ¬ ((x1 : Int32).toInt < 1 ∨ 100 < (x1 : Int32).toInt ∨ (x2 : Int32).toInt < 1 ∨ 200 < (x2 : Int32).toInt ∨ (x3 : Int32).toInt < 0 ∨ 5000 < (x3 : Int32).toInt) ∧ (μ.2 1).toInt < 8 ∧ (τ.2 1).toInt = (μ.2 1).toInt + 1 ∧ v.toInt = (μ.2 1).toInt) ∨ ((τ.2 0).toInt = 1 ∧ ((x1 : Int32).toInt < 1 ∨ 100 < (x1 : Int32).toInt ∨ (x2 : Int32).toInt < 1 ∨ 200 < (x2 : Int32).toInt ∨ (x3 : Int32).toInt < 0 ∨ 5000 < (x3 : Int32).toInt) ∧ (τ.2 1).toInt = (μ.2 1).toInt) ∨ ((τ.2 0).toInt = 2 ∧ ¬ ((x1 : Int32).toInt < 1 ∨ 100 < (x1 : Int32).toInt ∨ (x2 : Int32).toInt < 1 ∨ 200 < (x2 : Int32).toInt ∨ (x3 : Int32).toInt < 0 ∨ 5000 < (x3 : Int32).toInt) ∧ 8 ≤ (μ.2 1).toInt ∧ (τ.2 1).toInt = (μ.2 1).toInt))) (⟨hM.1, hM.2.1, hM.2.2.1, hs_k0⟩ : hm_I (hs_k [23, 24, 25, 26, 27] [2, 3, 4, 5, 6, 7, 8, 9, 10, 11] μ) μ) (fun _ _ h g0 => ⟨h, g0⟩)
  obtain ⟨h1, a0, a1⟩ := h1
  obtain ⟨h2, b0⟩ := h2
  have : (o.1.2 1).toInt = (σ.2 1).toInt := congrArg Int32.toInt (h1.2.2.2 1 (by decide))
  have : (o.1.2 2).toInt = (σ.2 2).toInt := congrArg Int32.toInt (h1.2.2.2 2 (by decide))
  have : (o.1.2 4).toInt = (σ.2 4).toInt := congrArg Int32.toInt (h1.2.2.2 4 (by decide))
  have : (o.1.2 5).toInt = (σ.2 5).toInt := congrArg Int32.toInt (h1.2.2.2 5 (by decide))
  have : (o.1.2 7).toInt = (σ.2 7).toInt := congrArg Int32.toInt (h1.2.2.2 7 (by decide))
  have : (o.1.2 8).toInt = (σ.2 8).toInt := congrArg Int32.toInt (h1.2.2.2 8 (by decide))
  have : (o2.1.2 2).toInt = (μ.2 2).toInt := congrArg Int32.toInt (h2.2.2.2.2 2 (by decide))
  have : (o2.1.2 3).toInt = (μ.2 3).toInt := congrArg Int32.toInt (h2.2.2.2.2 3 (by decide))
  have : (o2.1.2 4).toInt = (μ.2 4).toInt := congrArg Int32.toInt (h2.2.2.2.2 4 (by decide))
  have : (o2.1.2 9).toInt = (μ.2 9).toInt := congrArg Int32.toInt (h2.2.2.2.2 9 (by decide))
  have : (o2.1.2 10).toInt = (μ.2 10).toInt := congrArg Int32.toInt (h2.2.2.2.2 10 (by decide))
  have : (o2.1.2 11).toInt = (μ.2 11).toInt := congrArg Int32.toInt (h2.2.2.2.2 11 (by decide))
  try dsimp only at a0
  try dsimp only at a1
  try dsimp only at b0
  have : (-2147483648 : Int) ≤ (σ.2 1).toInt ∧ (σ.2 1).toInt ≤ 2147483647 := hC.2.1 1
  have : (0 : Int) ≤ (σ.2 2).toInt ∧ (σ.2 2).toInt ≤ 400 := hC.2.1 2
  have : (0 : Int) ≤ (σ.2 3).toInt ∧ (σ.2 3).toInt ≤ 8 := hC.2.1 3
  have : (0 : Int) ≤ (σ.2 4).toInt ∧ (σ.2 4).toInt ≤ 60 := hC.2.1 4
  have : (0 : Int) ≤ (σ.2 5).toInt ∧ (σ.2 5).toInt ≤ 4 := hC.2.1 5
  have : (0 : Int) ≤ (σ.2 7).toInt ∧ (σ.2 7).toInt ≤ 60 := hC.2.1 7
  have : (0 : Int) ≤ (σ.2 8).toInt ∧ (σ.2 8).toInt ≤ 60 := hC.2.1 8
  exact ⟨o, o2, e1, e2, a0, ⟨⟨h1.1, h1.2.1, trivial⟩, ⟨h2.1, h2.2.1, h2.2.2.1, trivial⟩, ⟨(show (o.1.2 5).toInt = (o2.1.2 3).toInt by omega), (show (o.1.2 3).toInt = (o2.1.2 1).toInt by omega), (show (o.1.2 4).toInt = (o2.1.2 2).toInt by omega), (show (o.1.2 1).toInt = (o2.1.2 11).toInt by omega), (show (o.1.2 8).toInt = (o2.1.2 10).toInt by omega), (show (o.1.2 7).toInt = (o2.1.2 9).toInt by omega), (show (o.1.2 2).toInt = (o2.1.2 4).toInt by omega), (ht_keep (fun j hj => h1.2.2.1 j (hs_inc (by decide) hj)) (fun j hj => h1.2.2.2 j (hs_inc (by decide) hj)) (fun j hj => h2.2.2.2.1 j (hs_inc (by decide) hj)) (fun j hj => h2.2.2.2.2 j (hs_inc (by decide) hj)) RY)⟩, by omega, by omega⟩⟩
theorem hp_fire : hz_I_fire hp_I := by
  intro n σ μ x1 x2 x3 hn hI
  obtain ⟨hC, hM, ⟨r0, r1, r2, r3, r4, r5, r6, RY⟩, t0, t1⟩ := hI
  have r0 : (σ.2 5).toInt = (μ.2 3).toInt := r0
  have r1 : (σ.2 3).toInt = (μ.2 1).toInt := r1
  have r2 : (σ.2 4).toInt = (μ.2 2).toInt := r2
  have r3 : (σ.2 1).toInt = (μ.2 11).toInt := r3
  have r4 : (σ.2 8).toInt = (μ.2 10).toInt := r4
  have r5 : (σ.2 7).toInt = (μ.2 9).toInt := r5
  have r6 : (σ.2 2).toInt = (μ.2 4).toInt := r6
  obtain ⟨o, e1, h1⟩ := s_fX9_fire (hs_ka (by decide)) (hs_ki (by decide)) σ x1 x2 x3 (Q := fun o => hc_I (hs_k [22, 23, 24, 25, 26] [0, 1, 2, 3, 5, 6, 7, 8, 9] σ) o.1 ∧ (o.2.2 = 0 ∨ o.2.2 = 1 ∨ o.2.2 = 2 ∨ o.2.2 = 3) ∧ ((o.2.2 = 0 ∧ 0 ≤ (x1 : Int32).toInt ∧ (x1 : Int32).toInt < (σ.2 3).toInt ∧ ¬ ((x2 : Int32).toInt < 0 ∨ 15 < (x2 : Int32).toInt ∨ (x3 : Int32).toInt < 1 ∨ 300 < (x3 : Int32).toInt) ∧ (σ.2 4).toInt < 60 ∧ (o.1.2 4).toInt = (σ.2 4).toInt + 1 ∧ o.2.1.toInt = (σ.2 4).toInt) ∨ (o.2.2 = 1 ∧ ((x1 : Int32).toInt < 0 ∨ (σ.2 3).toInt ≤ (x1 : Int32).toInt) ∧ (o.1.2 4).toInt = (σ.2 4).toInt) ∨ (o.2.2 = 2 ∧ 0 ≤ (x1 : Int32).toInt ∧ (x1 : Int32).toInt < (σ.2 3).toInt ∧ ((x2 : Int32).toInt < 0 ∨ 15 < (x2 : Int32).toInt ∨ (x3 : Int32).toInt < 1 ∨ 300 < (x3 : Int32).toInt) ∧ (o.1.2 4).toInt = (σ.2 4).toInt) ∨ (o.2.2 = 3 ∧ 0 ≤ (x1 : Int32).toInt ∧ (x1 : Int32).toInt < (σ.2 3).toInt ∧ ¬ ((x2 : Int32).toInt < 0 ∨ 15 < (x2 : Int32).toInt ∨ (x3 : Int32).toInt < 1 ∨ 300 < (x3 : Int32).toInt) ∧ 60 ≤ (σ.2 4).toInt ∧ (o.1.2 4).toInt = (σ.2 4).toInt))) (⟨hC.1, hC.2.1, hs_k0⟩ : hc_I (hs_k [22, 23, 24, 25, 26] [0, 1, 2, 3, 5, 6, 7, 8, 9] σ) σ) (fun _ _ _ h c g0 => ⟨h, c, g0⟩)
  obtain ⟨o2, e2, h2⟩ := s_fX10_fire (hs_ka (by decide)) (hs_ki (by decide)) μ x1 x2 x3 (P := fun τ v => hm_I (hs_k [23, 24, 25, 26, 27] [1, 3, 4, 5, 6, 7, 8, 9, 10, 11] μ) τ ∧ (((τ.2 0).toInt = 0 ∧ 0 ≤ (x1 : Int32).toInt ∧ (x1 : Int32).toInt < (μ.2 1).toInt ∧ ¬ ((x2 : Int32).toInt < 0 ∨ 15 < (x2 : Int32).toInt ∨ (x3 : Int32).toInt < 1 ∨ 300 < (x3 : Int32).toInt) ∧ (μ.2 2).toInt < 60 ∧ (τ.2 2).toInt = (μ.2 2).toInt + 1 ∧ v.toInt = (μ.2 2).toInt) ∨ ((τ.2 0).toInt = 1 ∧ ((x1 : Int32).toInt < 0 ∨ (μ.2 1).toInt ≤ (x1 : Int32).toInt) ∧ (τ.2 2).toInt = (μ.2 2).toInt) ∨ ((τ.2 0).toInt = 2 ∧ 0 ≤ (x1 : Int32).toInt ∧ (x1 : Int32).toInt < (μ.2 1).toInt ∧ ((x2 : Int32).toInt < 0 ∨ 15 < (x2 : Int32).toInt ∨ (x3 : Int32).toInt < 1 ∨ 300 < (x3 : Int32).toInt) ∧ (τ.2 2).toInt = (μ.2 2).toInt) ∨ ((τ.2 0).toInt = 3 ∧ 0 ≤ (x1 : Int32).toInt ∧ (x1 : Int32).toInt < (μ.2 1).toInt ∧ ¬ ((x2 : Int32).toInt < 0 ∨ 15 < (x2 : Int32).toInt ∨ (x3 : Int32).toInt < 1 ∨ 300 < (x3 : Int32).toInt) ∧ 60 ≤ (μ.2 2).toInt ∧ (τ.2 2).toInt = (μ.2 2).toInt))) (⟨hM.1, hM.2.1, hM.2.2.1, hs_k0⟩ : hm_I (hs_k [23, 24, 25, 26, 27] [1, 3, 4, 5, 6, 7, 8, 9, 10, 11] μ) μ) (fun _ _ h g0 => ⟨h, g0⟩)
  obtain ⟨h1, a0, a1⟩ := h1
  obtain ⟨h2, b0⟩ := h2
  have : (o.1.2 1).toInt = (σ.2 1).toInt := congrArg Int32.toInt (h1.2.2.2 1 (by decide))
  have : (o.1.2 2).toInt = (σ.2 2).toInt := congrArg Int32.toInt (h1.2.2.2 2 (by decide))
  have : (o.1.2 3).toInt = (σ.2 3).toInt := congrArg Int32.toInt (h1.2.2.2 3 (by decide))
  have : (o.1.2 5).toInt = (σ.2 5).toInt := congrArg Int32.toInt (h1.2.2.2 5 (by decide))
  have : (o.1.2 7).toInt = (σ.2 7).toInt := congrArg Int32.toInt (h1.2.2.2 7 (by decide))
  have : (o.1.2 8).toInt = (σ.2 8).toInt := congrArg Int32.toInt (h1.2.2.2 8 (by decide))
  have : (o2.1.2 1).toInt = (μ.2 1).toInt := congrArg Int32.toInt (h2.2.2.2.2 1 (by decide))
  have : (o2.1.2 3).toInt = (μ.2 3).toInt := congrArg Int32.toInt (h2.2.2.2.2 3 (by decide))
  have : (o2.1.2 4).toInt = (μ.2 4).toInt := congrArg Int32.toInt (h2.2.2.2.2 4 (by decide))
  have : (o2.1.2 9).toInt = (μ.2 9).toInt := congrArg Int32.toInt (h2.2.2.2.2 9 (by decide))
  have : (o2.1.2 10).toInt = (μ.2 10).toInt := congrArg Int32.toInt (h2.2.2.2.2 10 (by decide))
  have : (o2.1.2 11).toInt = (μ.2 11).toInt := congrArg Int32.toInt (h2.2.2.2.2 11 (by decide))
  try dsimp only at a0
  try dsimp only at a1
  try dsimp only at b0
  have : (-2147483648 : Int) ≤ (σ.2 1).toInt ∧ (σ.2 1).toInt ≤ 2147483647 := hC.2.1 1
  have : (0 : Int) ≤ (σ.2 2).toInt ∧ (σ.2 2).toInt ≤ 400 := hC.2.1 2
  have : (0 : Int) ≤ (σ.2 3).toInt ∧ (σ.2 3).toInt ≤ 8 := hC.2.1 3
  have : (0 : Int) ≤ (σ.2 4).toInt ∧ (σ.2 4).toInt ≤ 60 := hC.2.1 4
  have : (0 : Int) ≤ (σ.2 5).toInt ∧ (σ.2 5).toInt ≤ 4 := hC.2.1 5
  have : (0 : Int) ≤ (σ.2 7).toInt ∧ (σ.2 7).toInt ≤ 60 := hC.2.1 7
  have : (0 : Int) ≤ (σ.2 8).toInt ∧ (σ.2 8).toInt ≤ 60 := hC.2.1 8
  exact ⟨o, o2, e1, e2, a0, ⟨⟨h1.1, h1.2.1, trivial⟩, ⟨h2.1, h2.2.1, h2.2.2.1, trivial⟩, ⟨(show (o.1.2 5).toInt = (o2.1.2 3).toInt by omega), (show (o.1.2 3).toInt = (o2.1.2 1).toInt by omega), (show (o.1.2 4).toInt = (o2.1.2 2).toInt by omega), (show (o.1.2 1).toInt = (o2.1.2 11).toInt by omega), (show (o.1.2 8).toInt = (o2.1.2 10).toInt by omega), (show (o.1.2 7).toInt = (o2.1.2 9).toInt by omega), (show (o.1.2 2).toInt = (o2.1.2 4).toInt by omega), (ht_keep (fun j hj => h1.2.2.1 j (hs_inc (by decide) hj)) (fun j hj => h1.2.2.2 j (hs_inc (by decide) hj)) (fun j hj => h2.2.2.2.1 j (hs_inc (by decide) hj)) (fun j hj => h2.2.2.2.2 j (hs_inc (by decide) hj)) RY)⟩, by omega, by omega⟩⟩
theorem hp_fill : hz_I_fill hp_I := by
  intro n σ μ x1 x2 hn hI
  obtain ⟨hC, hM, ⟨r0, r1, r2, r3, r4, r5, r6, RY⟩, t0, t1⟩ := hI
  have r0 : (σ.2 5).toInt = (μ.2 3).toInt := r0
  have r1 : (σ.2 3).toInt = (μ.2 1).toInt := r1
  have r2 : (σ.2 4).toInt = (μ.2 2).toInt := r2
  have r3 : (σ.2 1).toInt = (μ.2 11).toInt := r3
  have r4 : (σ.2 8).toInt = (μ.2 10).toInt := r4
  have r5 : (σ.2 7).toInt = (μ.2 9).toInt := r5
  have r6 : (σ.2 2).toInt = (μ.2 4).toInt := r6
  obtain ⟨o, e1, h1⟩ := s_fX9_fill (hs_ka (by decide)) (hs_ki (by decide)) σ x1 x2 (Q := fun o => hc_I (hs_k [22, 23, 24, 25, 26] [0, 1, 2, 3, 4, 5, 6, 7, 8, 9] σ) o.1 ∧ (o.2.2 = 0 ∨ o.2.2 = 1 ∨ o.2.2 = 2)) (⟨hC.1, hC.2.1, hs_k0⟩ : hc_I (hs_k [22, 23, 24, 25, 26] [0, 1, 2, 3, 4, 5, 6, 7, 8, 9] σ) σ) (fun _ _ _ h c  => ⟨h, c⟩)
  obtain ⟨o2, e2, h2⟩ := s_fX10_fill (hs_ka (by decide)) (hs_ki (by decide)) μ x1 x2 (P := fun τ v => hm_I (hs_k [23, 24, 25, 26, 27] [1, 2, 3, 4, 5, 6, 7, 8, 9, 10, 11] μ) τ) (⟨hM.1, hM.2.1, hM.2.2.1, hs_k0⟩ : hm_I (hs_k [23, 24, 25, 26, 27] [1, 2, 3, 4, 5, 6, 7, 8, 9, 10, 11] μ) μ) (fun _ _ h => h)
  obtain ⟨h1, a0⟩ := h1
  have : (o.1.2 1).toInt = (σ.2 1).toInt := congrArg Int32.toInt (h1.2.2.2 1 (by decide))
  have : (o.1.2 2).toInt = (σ.2 2).toInt := congrArg Int32.toInt (h1.2.2.2 2 (by decide))
  have : (o.1.2 3).toInt = (σ.2 3).toInt := congrArg Int32.toInt (h1.2.2.2 3 (by decide))
  have : (o.1.2 4).toInt = (σ.2 4).toInt := congrArg Int32.toInt (h1.2.2.2 4 (by decide))
  have : (o.1.2 5).toInt = (σ.2 5).toInt := congrArg Int32.toInt (h1.2.2.2 5 (by decide))
  have : (o.1.2 7).toInt = (σ.2 7).toInt := congrArg Int32.toInt (h1.2.2.2 7 (by decide))
  have : (o.1.2 8).toInt = (σ.2 8).toInt := congrArg Int32.toInt (h1.2.2.2 8 (by decide))
  have : (o2.1.2 1).toInt = (μ.2 1).toInt := congrArg Int32.toInt (h2.2.2.2.2 1 (by decide))
  have : (o2.1.2 2).toInt = (μ.2 2).toInt := congrArg Int32.toInt (h2.2.2.2.2 2 (by decide))
  have : (o2.1.2 3).toInt = (μ.2 3).toInt := congrArg Int32.toInt (h2.2.2.2.2 3 (by decide))
  have : (o2.1.2 4).toInt = (μ.2 4).toInt := congrArg Int32.toInt (h2.2.2.2.2 4 (by decide))
  have : (o2.1.2 9).toInt = (μ.2 9).toInt := congrArg Int32.toInt (h2.2.2.2.2 9 (by decide))
  have : (o2.1.2 10).toInt = (μ.2 10).toInt := congrArg Int32.toInt (h2.2.2.2.2 10 (by decide))
  have : (o2.1.2 11).toInt = (μ.2 11).toInt := congrArg Int32.toInt (h2.2.2.2.2 11 (by decide))
  try dsimp only at a0
  have : (-2147483648 : Int) ≤ (σ.2 1).toInt ∧ (σ.2 1).toInt ≤ 2147483647 := hC.2.1 1
  have : (0 : Int) ≤ (σ.2 2).toInt ∧ (σ.2 2).toInt ≤ 400 := hC.2.1 2
  have : (0 : Int) ≤ (σ.2 3).toInt ∧ (σ.2 3).toInt ≤ 8 := hC.2.1 3
  have : (0 : Int) ≤ (σ.2 4).toInt ∧ (σ.2 4).toInt ≤ 60 := hC.2.1 4
  have : (0 : Int) ≤ (σ.2 5).toInt ∧ (σ.2 5).toInt ≤ 4 := hC.2.1 5
  have : (0 : Int) ≤ (σ.2 7).toInt ∧ (σ.2 7).toInt ≤ 60 := hC.2.1 7
  have : (0 : Int) ≤ (σ.2 8).toInt ∧ (σ.2 8).toInt ≤ 60 := hC.2.1 8
  exact ⟨o, o2, e1, e2, a0, ⟨⟨h1.1, h1.2.1, trivial⟩, ⟨h2.1, h2.2.1, h2.2.2.1, trivial⟩, ⟨(show (o.1.2 5).toInt = (o2.1.2 3).toInt by omega), (show (o.1.2 3).toInt = (o2.1.2 1).toInt by omega), (show (o.1.2 4).toInt = (o2.1.2 2).toInt by omega), (show (o.1.2 1).toInt = (o2.1.2 11).toInt by omega), (show (o.1.2 8).toInt = (o2.1.2 10).toInt by omega), (show (o.1.2 7).toInt = (o2.1.2 9).toInt by omega), (show (o.1.2 2).toInt = (o2.1.2 4).toInt by omega), (ht_keep (fun j hj => h1.2.2.1 j (hs_inc (by decide) hj)) (fun j hj => h1.2.2.2 j (hs_inc (by decide) hj)) (fun j hj => h2.2.2.2.1 j (hs_inc (by decide) hj)) (fun j hj => h2.2.2.2.2 j (hs_inc (by decide) hj)) RY)⟩, by omega, by omega⟩⟩
theorem hp_ship : hz_I_ship hp_I := by
  intro n σ μ  hn hI
  obtain ⟨hC, hM, ⟨r0, r1, r2, r3, r4, r5, r6, RY⟩, t0, t1⟩ := hI
  have r0 : (σ.2 5).toInt = (μ.2 3).toInt := r0
  have r1 : (σ.2 3).toInt = (μ.2 1).toInt := r1
  have r2 : (σ.2 4).toInt = (μ.2 2).toInt := r2
  have r3 : (σ.2 1).toInt = (μ.2 11).toInt := r3
  have r4 : (σ.2 8).toInt = (μ.2 10).toInt := r4
  have r5 : (σ.2 7).toInt = (μ.2 9).toInt := r5
  have r6 : (σ.2 2).toInt = (μ.2 4).toInt := r6
  obtain ⟨o, e1, h1⟩ := s_fX9_ship (hs_ka (by decide)) (hs_ki (by decide)) σ  (Q := fun o => hc_I (hs_k [22, 23, 24, 25, 26] [0, 1, 2, 3, 4, 6, 7, 8, 9] σ) o.1 ∧ (o.2.2 = 0 ∨ o.2.2 = 3) ∧ ((o.2.2 = 0 ∧ (σ.2 5).toInt < 4 ∧ (o.1.2 5).toInt = (σ.2 5).toInt + 1 ∧ o.2.1.toInt = (σ.2 5).toInt) ∨ (o.2.2 = 3 ∧ 4 ≤ (σ.2 5).toInt ∧ (o.1.2 5).toInt = (σ.2 5).toInt))) (⟨hC.1, hC.2.1, hs_k0⟩ : hc_I (hs_k [22, 23, 24, 25, 26] [0, 1, 2, 3, 4, 6, 7, 8, 9] σ) σ) (fun _ _ _ h c g0 => ⟨h, c, g0⟩)
  obtain ⟨o2, e2, h2⟩ := s_fX10_ship (hs_ka (by decide)) (hs_ki (by decide)) μ  (P := fun τ v => hm_I (hs_k [23, 24, 25, 26, 27] [1, 2, 4, 5, 6, 7, 8, 9, 10, 11] μ) τ ∧ (((τ.2 0).toInt = 0 ∧ (μ.2 3).toInt < 4 ∧ (τ.2 3).toInt = (μ.2 3).toInt + 1 ∧ v.toInt = (μ.2 3).toInt) ∨ ((τ.2 0).toInt = 1 ∧ 4 ≤ (μ.2 3).toInt ∧ (τ.2 3).toInt = (μ.2 3).toInt))) (⟨hM.1, hM.2.1, hM.2.2.1, hs_k0⟩ : hm_I (hs_k [23, 24, 25, 26, 27] [1, 2, 4, 5, 6, 7, 8, 9, 10, 11] μ) μ) (fun _ _ h g0 => ⟨h, g0⟩)
  obtain ⟨h1, a0, a1⟩ := h1
  obtain ⟨h2, b0⟩ := h2
  have : (o.1.2 1).toInt = (σ.2 1).toInt := congrArg Int32.toInt (h1.2.2.2 1 (by decide))
  have : (o.1.2 2).toInt = (σ.2 2).toInt := congrArg Int32.toInt (h1.2.2.2 2 (by decide))
  have : (o.1.2 3).toInt = (σ.2 3).toInt := congrArg Int32.toInt (h1.2.2.2 3 (by decide))
  have : (o.1.2 4).toInt = (σ.2 4).toInt := congrArg Int32.toInt (h1.2.2.2 4 (by decide))
  have : (o.1.2 7).toInt = (σ.2 7).toInt := congrArg Int32.toInt (h1.2.2.2 7 (by decide))
  have : (o.1.2 8).toInt = (σ.2 8).toInt := congrArg Int32.toInt (h1.2.2.2 8 (by decide))
  have : (o2.1.2 1).toInt = (μ.2 1).toInt := congrArg Int32.toInt (h2.2.2.2.2 1 (by decide))
  have : (o2.1.2 2).toInt = (μ.2 2).toInt := congrArg Int32.toInt (h2.2.2.2.2 2 (by decide))
  have : (o2.1.2 4).toInt = (μ.2 4).toInt := congrArg Int32.toInt (h2.2.2.2.2 4 (by decide))
  have : (o2.1.2 9).toInt = (μ.2 9).toInt := congrArg Int32.toInt (h2.2.2.2.2 9 (by decide))
  have : (o2.1.2 10).toInt = (μ.2 10).toInt := congrArg Int32.toInt (h2.2.2.2.2 10 (by decide))
  have : (o2.1.2 11).toInt = (μ.2 11).toInt := congrArg Int32.toInt (h2.2.2.2.2 11 (by decide))
  try dsimp only at a0
  try dsimp only at a1
  try dsimp only at b0
  have : (-2147483648 : Int) ≤ (σ.2 1).toInt ∧ (σ.2 1).toInt ≤ 2147483647 := hC.2.1 1
  have : (0 : Int) ≤ (σ.2 2).toInt ∧ (σ.2 2).toInt ≤ 400 := hC.2.1 2
  have : (0 : Int) ≤ (σ.2 3).toInt ∧ (σ.2 3).toInt ≤ 8 := hC.2.1 3
  have : (0 : Int) ≤ (σ.2 4).toInt ∧ (σ.2 4).toInt ≤ 60 := hC.2.1 4
  have : (0 : Int) ≤ (σ.2 5).toInt ∧ (σ.2 5).toInt ≤ 4 := hC.2.1 5
  have : (0 : Int) ≤ (σ.2 7).toInt ∧ (σ.2 7).toInt ≤ 60 := hC.2.1 7
  have : (0 : Int) ≤ (σ.2 8).toInt ∧ (σ.2 8).toInt ≤ 60 := hC.2.1 8
  exact ⟨o, o2, e1, e2, a0, ⟨⟨h1.1, h1.2.1, trivial⟩, ⟨h2.1, h2.2.1, h2.2.2.1, trivial⟩, ⟨(show (o.1.2 5).toInt = (o2.1.2 3).toInt by omega), (show (o.1.2 3).toInt = (o2.1.2 1).toInt by omega), (show (o.1.2 4).toInt = (o2.1.2 2).toInt by omega), (show (o.1.2 1).toInt = (o2.1.2 11).toInt by omega), (show (o.1.2 8).toInt = (o2.1.2 10).toInt by omega), (show (o.1.2 7).toInt = (o2.1.2 9).toInt by omega), (show (o.1.2 2).toInt = (o2.1.2 4).toInt by omega), (ht_keep (fun j hj => h1.2.2.1 j (hs_inc (by decide) hj)) (fun j hj => h1.2.2.2 j (hs_inc (by decide) hj)) (fun j hj => h2.2.2.2.1 j (hs_inc (by decide) hj)) (fun j hj => h2.2.2.2.2 j (hs_inc (by decide) hj)) RY)⟩, by omega, by omega⟩⟩
theorem hp_load : hz_I_load hp_I := by
  intro n σ μ x1 x2 x3 hn hI
  obtain ⟨hC, hM, ⟨r0, r1, r2, r3, r4, r5, r6, RY⟩, t0, t1⟩ := hI
  have r0 : (σ.2 5).toInt = (μ.2 3).toInt := r0
  have r1 : (σ.2 3).toInt = (μ.2 1).toInt := r1
  have r2 : (σ.2 4).toInt = (μ.2 2).toInt := r2
  have r3 : (σ.2 1).toInt = (μ.2 11).toInt := r3
  have r4 : (σ.2 8).toInt = (μ.2 10).toInt := r4
  have r5 : (σ.2 7).toInt = (μ.2 9).toInt := r5
  have r6 : (σ.2 2).toInt = (μ.2 4).toInt := r6
  obtain ⟨o, e1, h1⟩ := s_fX9_load (hs_ka (by decide)) (hs_ki (by decide)) σ x1 x2 x3 (Q := fun o => hc_I (hs_k [22, 23, 24, 25, 26] [0, 1, 2, 3, 4, 5, 6, 7, 8, 9] σ) o.1 ∧ (o.2.2 = 0 ∨ o.2.2 = 1)) (⟨hC.1, hC.2.1, hs_k0⟩ : hc_I (hs_k [22, 23, 24, 25, 26] [0, 1, 2, 3, 4, 5, 6, 7, 8, 9] σ) σ) (fun _ _ _ h c  => ⟨h, c⟩)
  obtain ⟨o2, e2, h2⟩ := s_fX10_load (hs_ka (by decide)) (hs_ki (by decide)) μ x1 x2 x3 (P := fun τ v => hm_I (hs_k [23, 24, 25, 26, 27] [1, 2, 3, 4, 5, 6, 7, 8, 9, 10, 11] μ) τ) (⟨hM.1, hM.2.1, hM.2.2.1, hs_k0⟩ : hm_I (hs_k [23, 24, 25, 26, 27] [1, 2, 3, 4, 5, 6, 7, 8, 9, 10, 11] μ) μ) (fun _ _ h => h)
  obtain ⟨h1, a0⟩ := h1
  have : (o.1.2 1).toInt = (σ.2 1).toInt := congrArg Int32.toInt (h1.2.2.2 1 (by decide))
  have : (o.1.2 2).toInt = (σ.2 2).toInt := congrArg Int32.toInt (h1.2.2.2 2 (by decide))
  have : (o.1.2 3).toInt = (σ.2 3).toInt := congrArg Int32.toInt (h1.2.2.2 3 (by decide))
  have : (o.1.2 4).toInt = (σ.2 4).toInt := congrArg Int32.toInt (h1.2.2.2 4 (by decide))
  have : (o.1.2 5).toInt = (σ.2 5).toInt := congrArg Int32.toInt (h1.2.2.2 5 (by decide))
  have : (o.1.2 7).toInt = (σ.2 7).toInt := congrArg Int32.toInt (h1.2.2.2 7 (by decide))
  have : (o.1.2 8).toInt = (σ.2 8).toInt := congrArg Int32.toInt (h1.2.2.2 8 (by decide))
  have : (o2.1.2 1).toInt = (μ.2 1).toInt := congrArg Int32.toInt (h2.2.2.2.2 1 (by decide))
  have : (o2.1.2 2).toInt = (μ.2 2).toInt := congrArg Int32.toInt (h2.2.2.2.2 2 (by decide))
  have : (o2.1.2 3).toInt = (μ.2 3).toInt := congrArg Int32.toInt (h2.2.2.2.2 3 (by decide))
  have : (o2.1.2 4).toInt = (μ.2 4).toInt := congrArg Int32.toInt (h2.2.2.2.2 4 (by decide))
  have : (o2.1.2 9).toInt = (μ.2 9).toInt := congrArg Int32.toInt (h2.2.2.2.2 9 (by decide))
  have : (o2.1.2 10).toInt = (μ.2 10).toInt := congrArg Int32.toInt (h2.2.2.2.2 10 (by decide))
  have : (o2.1.2 11).toInt = (μ.2 11).toInt := congrArg Int32.toInt (h2.2.2.2.2 11 (by decide))
  try dsimp only at a0
  have : (-2147483648 : Int) ≤ (σ.2 1).toInt ∧ (σ.2 1).toInt ≤ 2147483647 := hC.2.1 1
  have : (0 : Int) ≤ (σ.2 2).toInt ∧ (σ.2 2).toInt ≤ 400 := hC.2.1 2
  have : (0 : Int) ≤ (σ.2 3).toInt ∧ (σ.2 3).toInt ≤ 8 := hC.2.1 3
  have : (0 : Int) ≤ (σ.2 4).toInt ∧ (σ.2 4).toInt ≤ 60 := hC.2.1 4
  have : (0 : Int) ≤ (σ.2 5).toInt ∧ (σ.2 5).toInt ≤ 4 := hC.2.1 5
  have : (0 : Int) ≤ (σ.2 7).toInt ∧ (σ.2 7).toInt ≤ 60 := hC.2.1 7
  have : (0 : Int) ≤ (σ.2 8).toInt ∧ (σ.2 8).toInt ≤ 60 := hC.2.1 8
  exact ⟨o, o2, e1, e2, a0, ⟨⟨h1.1, h1.2.1, trivial⟩, ⟨h2.1, h2.2.1, h2.2.2.1, trivial⟩, ⟨(show (o.1.2 5).toInt = (o2.1.2 3).toInt by omega), (show (o.1.2 3).toInt = (o2.1.2 1).toInt by omega), (show (o.1.2 4).toInt = (o2.1.2 2).toInt by omega), (show (o.1.2 1).toInt = (o2.1.2 11).toInt by omega), (show (o.1.2 8).toInt = (o2.1.2 10).toInt by omega), (show (o.1.2 7).toInt = (o2.1.2 9).toInt by omega), (show (o.1.2 2).toInt = (o2.1.2 4).toInt by omega), (ht_keep (fun j hj => h1.2.2.1 j (hs_inc (by decide) hj)) (fun j hj => h1.2.2.2 j (hs_inc (by decide) hj)) (fun j hj => h2.2.2.2.1 j (hs_inc (by decide) hj)) (fun j hj => h2.2.2.2.2 j (hs_inc (by decide) hj)) RY)⟩, by omega, by omega⟩⟩
theorem hp_land : hz_I_land hp_I := by
  intro n σ μ x1 x2 hn hI
  obtain ⟨hC, hM, ⟨r0, r1, r2, r3, r4, r5, r6, RY⟩, t0, t1⟩ := hI
  have r0 : (σ.2 5).toInt = (μ.2 3).toInt := r0
  have r1 : (σ.2 3).toInt = (μ.2 1).toInt := r1
  have r2 : (σ.2 4).toInt = (μ.2 2).toInt := r2
  have r3 : (σ.2 1).toInt = (μ.2 11).toInt := r3
  have r4 : (σ.2 8).toInt = (μ.2 10).toInt := r4
  have r5 : (σ.2 7).toInt = (μ.2 9).toInt := r5
  have r6 : (σ.2 2).toInt = (μ.2 4).toInt := r6
  obtain ⟨o, e1, h1⟩ := s_fX9_land (hs_ka (by decide)) (hs_ki (by decide)) σ x1 x2 (Q := fun o => hc_I (hs_k [22, 23, 24, 25, 26] [0, 1, 2, 3, 4, 5, 6, 7, 8, 9] σ) o.1 ∧ (o.2.2 = 0 ∨ o.2.2 = 1)) (⟨hC.1, hC.2.1, hs_k0⟩ : hc_I (hs_k [22, 23, 24, 25, 26] [0, 1, 2, 3, 4, 5, 6, 7, 8, 9] σ) σ) (fun _ _ _ h c  => ⟨h, c⟩)
  obtain ⟨o2, e2, h2⟩ := s_fX10_land (hs_ka (by decide)) (hs_ki (by decide)) μ x1 x2 (P := fun τ v => hm_I (hs_k [23, 24, 25, 26, 27] [1, 2, 3, 4, 5, 6, 7, 8, 9, 10, 11] μ) τ) (⟨hM.1, hM.2.1, hM.2.2.1, hs_k0⟩ : hm_I (hs_k [23, 24, 25, 26, 27] [1, 2, 3, 4, 5, 6, 7, 8, 9, 10, 11] μ) μ) (fun _ _ h => h)
  obtain ⟨h1, a0⟩ := h1
  have : (o.1.2 1).toInt = (σ.2 1).toInt := congrArg Int32.toInt (h1.2.2.2 1 (by decide))
  have : (o.1.2 2).toInt = (σ.2 2).toInt := congrArg Int32.toInt (h1.2.2.2 2 (by decide))
  have : (o.1.2 3).toInt = (σ.2 3).toInt := congrArg Int32.toInt (h1.2.2.2 3 (by decide))
  have : (o.1.2 4).toInt = (σ.2 4).toInt := congrArg Int32.toInt (h1.2.2.2 4 (by decide))
  have : (o.1.2 5).toInt = (σ.2 5).toInt := congrArg Int32.toInt (h1.2.2.2 5 (by decide))
  have : (o.1.2 7).toInt = (σ.2 7).toInt := congrArg Int32.toInt (h1.2.2.2 7 (by decide))
  have : (o.1.2 8).toInt = (σ.2 8).toInt := congrArg Int32.toInt (h1.2.2.2 8 (by decide))
  have : (o2.1.2 1).toInt = (μ.2 1).toInt := congrArg Int32.toInt (h2.2.2.2.2 1 (by decide))
  have : (o2.1.2 2).toInt = (μ.2 2).toInt := congrArg Int32.toInt (h2.2.2.2.2 2 (by decide))
  have : (o2.1.2 3).toInt = (μ.2 3).toInt := congrArg Int32.toInt (h2.2.2.2.2 3 (by decide))
  have : (o2.1.2 4).toInt = (μ.2 4).toInt := congrArg Int32.toInt (h2.2.2.2.2 4 (by decide))
  have : (o2.1.2 9).toInt = (μ.2 9).toInt := congrArg Int32.toInt (h2.2.2.2.2 9 (by decide))
  have : (o2.1.2 10).toInt = (μ.2 10).toInt := congrArg Int32.toInt (h2.2.2.2.2 10 (by decide))
  have : (o2.1.2 11).toInt = (μ.2 11).toInt := congrArg Int32.toInt (h2.2.2.2.2 11 (by decide))
  try dsimp only at a0
  have : (-2147483648 : Int) ≤ (σ.2 1).toInt ∧ (σ.2 1).toInt ≤ 2147483647 := hC.2.1 1
  have : (0 : Int) ≤ (σ.2 2).toInt ∧ (σ.2 2).toInt ≤ 400 := hC.2.1 2
  have : (0 : Int) ≤ (σ.2 3).toInt ∧ (σ.2 3).toInt ≤ 8 := hC.2.1 3
  have : (0 : Int) ≤ (σ.2 4).toInt ∧ (σ.2 4).toInt ≤ 60 := hC.2.1 4
  have : (0 : Int) ≤ (σ.2 5).toInt ∧ (σ.2 5).toInt ≤ 4 := hC.2.1 5
  have : (0 : Int) ≤ (σ.2 7).toInt ∧ (σ.2 7).toInt ≤ 60 := hC.2.1 7
  have : (0 : Int) ≤ (σ.2 8).toInt ∧ (σ.2 8).toInt ≤ 60 := hC.2.1 8
  exact ⟨o, o2, e1, e2, a0, ⟨⟨h1.1, h1.2.1, trivial⟩, ⟨h2.1, h2.2.1, h2.2.2.1, trivial⟩, ⟨(show (o.1.2 5).toInt = (o2.1.2 3).toInt by omega), (show (o.1.2 3).toInt = (o2.1.2 1).toInt by omega), (show (o.1.2 4).toInt = (o2.1.2 2).toInt by omega), (show (o.1.2 1).toInt = (o2.1.2 11).toInt by omega), (show (o.1.2 8).toInt = (o2.1.2 10).toInt by omega), (show (o.1.2 7).toInt = (o2.1.2 9).toInt by omega), (show (o.1.2 2).toInt = (o2.1.2 4).toInt by omega), (ht_keep (fun j hj => h1.2.2.1 j (hs_inc (by decide) hj)) (fun j hj => h1.2.2.2 j (hs_inc (by decide) hj)) (fun j hj => h2.2.2.2.1 j (hs_inc (by decide) hj)) (fun j hj => h2.2.2.2.2 j (hs_inc (by decide) hj)) RY)⟩, by omega, by omega⟩⟩
theorem hp_storm : hz_I_storm hp_I := by
  intro n σ μ x1 x2 hn hI
  obtain ⟨hC, hM, ⟨r0, r1, r2, r3, r4, r5, r6, RY⟩, t0, t1⟩ := hI
  have r0 : (σ.2 5).toInt = (μ.2 3).toInt := r0
  have r1 : (σ.2 3).toInt = (μ.2 1).toInt := r1
  have r2 : (σ.2 4).toInt = (μ.2 2).toInt := r2
  have r3 : (σ.2 1).toInt = (μ.2 11).toInt := r3
  have r4 : (σ.2 8).toInt = (μ.2 10).toInt := r4
  have r5 : (σ.2 7).toInt = (μ.2 9).toInt := r5
  have r6 : (σ.2 2).toInt = (μ.2 4).toInt := r6
  obtain ⟨o, e1, h1⟩ := s_fX9_storm (hs_ka (by decide)) (hs_ki (by decide)) σ x1 x2 (Q := fun o => hc_I (hs_k [22, 23, 24, 25, 26] [0, 1, 2, 3, 4, 5, 6, 7, 8, 9] σ) o.1 ∧ (o.2.2 = 0 ∨ o.2.2 = 1 ∨ o.2.2 = 2)) (⟨hC.1, hC.2.1, hs_k0⟩ : hc_I (hs_k [22, 23, 24, 25, 26] [0, 1, 2, 3, 4, 5, 6, 7, 8, 9] σ) σ) (fun _ _ _ h c  => ⟨h, c⟩)
  obtain ⟨o2, e2, h2⟩ := s_fX10_storm (hs_ka (by decide)) (hs_ki (by decide)) μ x1 x2 (P := fun τ v => hm_I (hs_k [23, 24, 25, 26, 27] [1, 2, 3, 4, 5, 6, 7, 8, 9, 10, 11] μ) τ) (⟨hM.1, hM.2.1, hM.2.2.1, hs_k0⟩ : hm_I (hs_k [23, 24, 25, 26, 27] [1, 2, 3, 4, 5, 6, 7, 8, 9, 10, 11] μ) μ) (fun _ _ h => h)
  obtain ⟨h1, a0⟩ := h1
  have : (o.1.2 1).toInt = (σ.2 1).toInt := congrArg Int32.toInt (h1.2.2.2 1 (by decide))
  have : (o.1.2 2).toInt = (σ.2 2).toInt := congrArg Int32.toInt (h1.2.2.2 2 (by decide))
  have : (o.1.2 3).toInt = (σ.2 3).toInt := congrArg Int32.toInt (h1.2.2.2 3 (by decide))
  have : (o.1.2 4).toInt = (σ.2 4).toInt := congrArg Int32.toInt (h1.2.2.2 4 (by decide))
  have : (o.1.2 5).toInt = (σ.2 5).toInt := congrArg Int32.toInt (h1.2.2.2 5 (by decide))
  have : (o.1.2 7).toInt = (σ.2 7).toInt := congrArg Int32.toInt (h1.2.2.2 7 (by decide))
  have : (o.1.2 8).toInt = (σ.2 8).toInt := congrArg Int32.toInt (h1.2.2.2 8 (by decide))
  have : (o2.1.2 1).toInt = (μ.2 1).toInt := congrArg Int32.toInt (h2.2.2.2.2 1 (by decide))
  have : (o2.1.2 2).toInt = (μ.2 2).toInt := congrArg Int32.toInt (h2.2.2.2.2 2 (by decide))
  have : (o2.1.2 3).toInt = (μ.2 3).toInt := congrArg Int32.toInt (h2.2.2.2.2 3 (by decide))
  have : (o2.1.2 4).toInt = (μ.2 4).toInt := congrArg Int32.toInt (h2.2.2.2.2 4 (by decide))
  have : (o2.1.2 9).toInt = (μ.2 9).toInt := congrArg Int32.toInt (h2.2.2.2.2 9 (by decide))
  have : (o2.1.2 10).toInt = (μ.2 10).toInt := congrArg Int32.toInt (h2.2.2.2.2 10 (by decide))
  have : (o2.1.2 11).toInt = (μ.2 11).toInt := congrArg Int32.toInt (h2.2.2.2.2 11 (by decide))
  try dsimp only at a0
  have : (-2147483648 : Int) ≤ (σ.2 1).toInt ∧ (σ.2 1).toInt ≤ 2147483647 := hC.2.1 1
  have : (0 : Int) ≤ (σ.2 2).toInt ∧ (σ.2 2).toInt ≤ 400 := hC.2.1 2
  have : (0 : Int) ≤ (σ.2 3).toInt ∧ (σ.2 3).toInt ≤ 8 := hC.2.1 3
  have : (0 : Int) ≤ (σ.2 4).toInt ∧ (σ.2 4).toInt ≤ 60 := hC.2.1 4
  have : (0 : Int) ≤ (σ.2 5).toInt ∧ (σ.2 5).toInt ≤ 4 := hC.2.1 5
  have : (0 : Int) ≤ (σ.2 7).toInt ∧ (σ.2 7).toInt ≤ 60 := hC.2.1 7
  have : (0 : Int) ≤ (σ.2 8).toInt ∧ (σ.2 8).toInt ≤ 60 := hC.2.1 8
  exact ⟨o, o2, e1, e2, a0, ⟨⟨h1.1, h1.2.1, trivial⟩, ⟨h2.1, h2.2.1, h2.2.2.1, trivial⟩, ⟨(show (o.1.2 5).toInt = (o2.1.2 3).toInt by omega), (show (o.1.2 3).toInt = (o2.1.2 1).toInt by omega), (show (o.1.2 4).toInt = (o2.1.2 2).toInt by omega), (show (o.1.2 1).toInt = (o2.1.2 11).toInt by omega), (show (o.1.2 8).toInt = (o2.1.2 10).toInt by omega), (show (o.1.2 7).toInt = (o2.1.2 9).toInt by omega), (show (o.1.2 2).toInt = (o2.1.2 4).toInt by omega), (ht_keep (fun j hj => h1.2.2.1 j (hs_inc (by decide) hj)) (fun j hj => h1.2.2.2 j (hs_inc (by decide) hj)) (fun j hj => h2.2.2.2.1 j (hs_inc (by decide) hj)) (fun j hj => h2.2.2.2.2 j (hs_inc (by decide) hj)) RY)⟩, by omega, by omega⟩⟩
theorem hp_look : hz_I_look hp_I := by
  intro n σ μ x1 x2 hn hI
  obtain ⟨hC, hM, ⟨r0, r1, r2, r3, r4, r5, r6, RY⟩, t0, t1⟩ := hI
  have r0 : (σ.2 5).toInt = (μ.2 3).toInt := r0
  have r1 : (σ.2 3).toInt = (μ.2 1).toInt := r1
  have r2 : (σ.2 4).toInt = (μ.2 2).toInt := r2
  have r3 : (σ.2 1).toInt = (μ.2 11).toInt := r3
  have r4 : (σ.2 8).toInt = (μ.2 10).toInt := r4
  have r5 : (σ.2 7).toInt = (μ.2 9).toInt := r5
  have r6 : (σ.2 2).toInt = (μ.2 4).toInt := r6
  obtain ⟨o, e1, h1⟩ := s_fX9_look (hs_ka (by decide)) (hs_ki (by decide)) σ x1 x2 (Q := fun o => hc_I (hs_k [22, 23, 24, 25, 26] [0, 1, 2, 3, 4, 5, 6, 7, 8, 9] σ) o.1 ∧ (o.2.2 = 0 ∨ o.2.2 = 1 ∨ o.2.2 = 4)) (⟨hC.1, hC.2.1, hs_k0⟩ : hc_I (hs_k [22, 23, 24, 25, 26] [0, 1, 2, 3, 4, 5, 6, 7, 8, 9] σ) σ) (fun _ _ _ h c  => ⟨h, c⟩)
  obtain ⟨o2, e2, h2⟩ := s_fX10_look (hs_ka (by decide)) (hs_ki (by decide)) μ x1 x2 (P := fun τ v => hm_I (hs_k [23, 24, 25, 26, 27] [1, 2, 3, 4, 5, 6, 7, 8, 9, 10, 11] μ) τ) (⟨hM.1, hM.2.1, hM.2.2.1, hs_k0⟩ : hm_I (hs_k [23, 24, 25, 26, 27] [1, 2, 3, 4, 5, 6, 7, 8, 9, 10, 11] μ) μ) (fun _ _ h => h)
  obtain ⟨h1, a0⟩ := h1
  have : (o.1.2 1).toInt = (σ.2 1).toInt := congrArg Int32.toInt (h1.2.2.2 1 (by decide))
  have : (o.1.2 2).toInt = (σ.2 2).toInt := congrArg Int32.toInt (h1.2.2.2 2 (by decide))
  have : (o.1.2 3).toInt = (σ.2 3).toInt := congrArg Int32.toInt (h1.2.2.2 3 (by decide))
  have : (o.1.2 4).toInt = (σ.2 4).toInt := congrArg Int32.toInt (h1.2.2.2 4 (by decide))
  have : (o.1.2 5).toInt = (σ.2 5).toInt := congrArg Int32.toInt (h1.2.2.2 5 (by decide))
  have : (o.1.2 7).toInt = (σ.2 7).toInt := congrArg Int32.toInt (h1.2.2.2 7 (by decide))
  have : (o.1.2 8).toInt = (σ.2 8).toInt := congrArg Int32.toInt (h1.2.2.2 8 (by decide))
  have : (o2.1.2 1).toInt = (μ.2 1).toInt := congrArg Int32.toInt (h2.2.2.2.2 1 (by decide))
  have : (o2.1.2 2).toInt = (μ.2 2).toInt := congrArg Int32.toInt (h2.2.2.2.2 2 (by decide))
  have : (o2.1.2 3).toInt = (μ.2 3).toInt := congrArg Int32.toInt (h2.2.2.2.2 3 (by decide))
  have : (o2.1.2 4).toInt = (μ.2 4).toInt := congrArg Int32.toInt (h2.2.2.2.2 4 (by decide))
  have : (o2.1.2 9).toInt = (μ.2 9).toInt := congrArg Int32.toInt (h2.2.2.2.2 9 (by decide))
  have : (o2.1.2 10).toInt = (μ.2 10).toInt := congrArg Int32.toInt (h2.2.2.2.2 10 (by decide))
  have : (o2.1.2 11).toInt = (μ.2 11).toInt := congrArg Int32.toInt (h2.2.2.2.2 11 (by decide))
  try dsimp only at a0
  have : (-2147483648 : Int) ≤ (σ.2 1).toInt ∧ (σ.2 1).toInt ≤ 2147483647 := hC.2.1 1
  have : (0 : Int) ≤ (σ.2 2).toInt ∧ (σ.2 2).toInt ≤ 400 := hC.2.1 2
  have : (0 : Int) ≤ (σ.2 3).toInt ∧ (σ.2 3).toInt ≤ 8 := hC.2.1 3
  have : (0 : Int) ≤ (σ.2 4).toInt ∧ (σ.2 4).toInt ≤ 60 := hC.2.1 4
  have : (0 : Int) ≤ (σ.2 5).toInt ∧ (σ.2 5).toInt ≤ 4 := hC.2.1 5
  have : (0 : Int) ≤ (σ.2 7).toInt ∧ (σ.2 7).toInt ≤ 60 := hC.2.1 7
  have : (0 : Int) ≤ (σ.2 8).toInt ∧ (σ.2 8).toInt ≤ 60 := hC.2.1 8
  exact ⟨o, o2, e1, e2, a0, ⟨⟨h1.1, h1.2.1, trivial⟩, ⟨h2.1, h2.2.1, h2.2.2.1, trivial⟩, ⟨(show (o.1.2 5).toInt = (o2.1.2 3).toInt by omega), (show (o.1.2 3).toInt = (o2.1.2 1).toInt by omega), (show (o.1.2 4).toInt = (o2.1.2 2).toInt by omega), (show (o.1.2 1).toInt = (o2.1.2 11).toInt by omega), (show (o.1.2 8).toInt = (o2.1.2 10).toInt by omega), (show (o.1.2 7).toInt = (o2.1.2 9).toInt by omega), (show (o.1.2 2).toInt = (o2.1.2 4).toInt by omega), (ht_keep (fun j hj => h1.2.2.1 j (hs_inc (by decide) hj)) (fun j hj => h1.2.2.2 j (hs_inc (by decide) hj)) (fun j hj => h2.2.2.2.1 j (hs_inc (by decide) hj)) (fun j hj => h2.2.2.2.2 j (hs_inc (by decide) hj)) RY)⟩, by omega, by omega⟩⟩
theorem hp_stack : hz_I_stack hp_I := by
  intro n σ μ x1 x2 x3 hn hI
  obtain ⟨hC, hM, ⟨r0, r1, r2, r3, r4, r5, r6, RY⟩, t0, t1⟩ := hI
  have r0 : (σ.2 5).toInt = (μ.2 3).toInt := r0
  have r1 : (σ.2 3).toInt = (μ.2 1).toInt := r1
  have r2 : (σ.2 4).toInt = (μ.2 2).toInt := r2
  have r3 : (σ.2 1).toInt = (μ.2 11).toInt := r3
  have r4 : (σ.2 8).toInt = (μ.2 10).toInt := r4
  have r5 : (σ.2 7).toInt = (μ.2 9).toInt := r5
  have r6 : (σ.2 2).toInt = (μ.2 4).toInt := r6
  obtain ⟨o, e1, h1⟩ := s_fX9_stack (hs_ka (by decide)) (hs_ki (by decide)) σ x1 x2 x3 (Q := fun o => hc_I (hs_k [22, 23, 24, 25, 26] [0, 1, 2, 3, 4, 5, 6, 7, 8, 9] σ) o.1 ∧ (o.2.2 = 0 ∨ o.2.2 = 1)) (⟨hC.1, hC.2.1, hs_k0⟩ : hc_I (hs_k [22, 23, 24, 25, 26] [0, 1, 2, 3, 4, 5, 6, 7, 8, 9] σ) σ) (fun _ _ _ h c  => ⟨h, c⟩)
  obtain ⟨o2, e2, h2⟩ := s_fX10_stack (hs_ka (by decide)) (hs_ki (by decide)) μ x1 x2 x3 (P := fun τ v => hm_I (hs_k [23, 24, 25, 26, 27] [1, 2, 3, 4, 5, 6, 7, 8, 9, 10, 11] μ) τ) (⟨hM.1, hM.2.1, hM.2.2.1, hs_k0⟩ : hm_I (hs_k [23, 24, 25, 26, 27] [1, 2, 3, 4, 5, 6, 7, 8, 9, 10, 11] μ) μ) (fun _ _ h => h)
  obtain ⟨h1, a0⟩ := h1
  have : (o.1.2 1).toInt = (σ.2 1).toInt := congrArg Int32.toInt (h1.2.2.2 1 (by decide))
  have : (o.1.2 2).toInt = (σ.2 2).toInt := congrArg Int32.toInt (h1.2.2.2 2 (by decide))
  have : (o.1.2 3).toInt = (σ.2 3).toInt := congrArg Int32.toInt (h1.2.2.2 3 (by decide))
  have : (o.1.2 4).toInt = (σ.2 4).toInt := congrArg Int32.toInt (h1.2.2.2 4 (by decide))
  have : (o.1.2 5).toInt = (σ.2 5).toInt := congrArg Int32.toInt (h1.2.2.2 5 (by decide))
  have : (o.1.2 7).toInt = (σ.2 7).toInt := congrArg Int32.toInt (h1.2.2.2 7 (by decide))
  have : (o.1.2 8).toInt = (σ.2 8).toInt := congrArg Int32.toInt (h1.2.2.2 8 (by decide))
  have : (o2.1.2 1).toInt = (μ.2 1).toInt := congrArg Int32.toInt (h2.2.2.2.2 1 (by decide))
  have : (o2.1.2 2).toInt = (μ.2 2).toInt := congrArg Int32.toInt (h2.2.2.2.2 2 (by decide))
  have : (o2.1.2 3).toInt = (μ.2 3).toInt := congrArg Int32.toInt (h2.2.2.2.2 3 (by decide))
  have : (o2.1.2 4).toInt = (μ.2 4).toInt := congrArg Int32.toInt (h2.2.2.2.2 4 (by decide))
  have : (o2.1.2 9).toInt = (μ.2 9).toInt := congrArg Int32.toInt (h2.2.2.2.2 9 (by decide))
  have : (o2.1.2 10).toInt = (μ.2 10).toInt := congrArg Int32.toInt (h2.2.2.2.2 10 (by decide))
  have : (o2.1.2 11).toInt = (μ.2 11).toInt := congrArg Int32.toInt (h2.2.2.2.2 11 (by decide))
  try dsimp only at a0
  have : (-2147483648 : Int) ≤ (σ.2 1).toInt ∧ (σ.2 1).toInt ≤ 2147483647 := hC.2.1 1
  have : (0 : Int) ≤ (σ.2 2).toInt ∧ (σ.2 2).toInt ≤ 400 := hC.2.1 2
  have : (0 : Int) ≤ (σ.2 3).toInt ∧ (σ.2 3).toInt ≤ 8 := hC.2.1 3
  have : (0 : Int) ≤ (σ.2 4).toInt ∧ (σ.2 4).toInt ≤ 60 := hC.2.1 4
  have : (0 : Int) ≤ (σ.2 5).toInt ∧ (σ.2 5).toInt ≤ 4 := hC.2.1 5
  have : (0 : Int) ≤ (σ.2 7).toInt ∧ (σ.2 7).toInt ≤ 60 := hC.2.1 7
  have : (0 : Int) ≤ (σ.2 8).toInt ∧ (σ.2 8).toInt ≤ 60 := hC.2.1 8
  exact ⟨o, o2, e1, e2, a0, ⟨⟨h1.1, h1.2.1, trivial⟩, ⟨h2.1, h2.2.1, h2.2.2.1, trivial⟩, ⟨(show (o.1.2 5).toInt = (o2.1.2 3).toInt by omega), (show (o.1.2 3).toInt = (o2.1.2 1).toInt by omega), (show (o.1.2 4).toInt = (o2.1.2 2).toInt by omega), (show (o.1.2 1).toInt = (o2.1.2 11).toInt by omega), (show (o.1.2 8).toInt = (o2.1.2 10).toInt by omega), (show (o.1.2 7).toInt = (o2.1.2 9).toInt by omega), (show (o.1.2 2).toInt = (o2.1.2 4).toInt by omega), (ht_keep (fun j hj => h1.2.2.1 j (hs_inc (by decide) hj)) (fun j hj => h1.2.2.2 j (hs_inc (by decide) hj)) (fun j hj => h2.2.2.2.1 j (hs_inc (by decide) hj)) (fun j hj => h2.2.2.2.2 j (hs_inc (by decide) hj)) RY)⟩, by omega, by omega⟩⟩
theorem hp_tallest : hz_I_tallest hp_I := by
  intro n σ μ x1 hn hI
  obtain ⟨hC, hM, ⟨r0, r1, r2, r3, r4, r5, r6, RY⟩, t0, t1⟩ := hI
  have r0 : (σ.2 5).toInt = (μ.2 3).toInt := r0
  have r1 : (σ.2 3).toInt = (μ.2 1).toInt := r1
  have r2 : (σ.2 4).toInt = (μ.2 2).toInt := r2
  have r3 : (σ.2 1).toInt = (μ.2 11).toInt := r3
  have r4 : (σ.2 8).toInt = (μ.2 10).toInt := r4
  have r5 : (σ.2 7).toInt = (μ.2 9).toInt := r5
  have r6 : (σ.2 2).toInt = (μ.2 4).toInt := r6
  obtain ⟨o, e1, h1⟩ := s_fX9_tallest (hs_ka (by decide)) (hs_ki (by decide)) σ x1 (Q := fun o => hc_I (hs_k [22, 23, 24, 25, 26] [0, 1, 2, 3, 4, 5, 7, 8, 9] σ) o.1 ∧ (o.2.2 = 0 ∨ o.2.2 = 2)) (⟨hC.1, hC.2.1, hs_k0⟩ : hc_I (hs_k [22, 23, 24, 25, 26] [0, 1, 2, 3, 4, 5, 7, 8, 9] σ) σ) (fun _ _ _ h c  => ⟨h, c⟩)
  obtain ⟨o2, e2, h2⟩ := s_fX10_tallest (hs_ka (by decide)) (hs_ki (by decide)) μ x1 (P := fun τ v => hm_I (hs_k [23, 24, 25, 26, 27] [1, 2, 3, 4, 5, 6, 7, 8, 9, 10, 11] μ) τ) (⟨hM.1, hM.2.1, hM.2.2.1, hs_k0⟩ : hm_I (hs_k [23, 24, 25, 26, 27] [1, 2, 3, 4, 5, 6, 7, 8, 9, 10, 11] μ) μ) (fun _ _ h => h)
  obtain ⟨h1, a0⟩ := h1
  have : (o.1.2 1).toInt = (σ.2 1).toInt := congrArg Int32.toInt (h1.2.2.2 1 (by decide))
  have : (o.1.2 2).toInt = (σ.2 2).toInt := congrArg Int32.toInt (h1.2.2.2 2 (by decide))
  have : (o.1.2 3).toInt = (σ.2 3).toInt := congrArg Int32.toInt (h1.2.2.2 3 (by decide))
  have : (o.1.2 4).toInt = (σ.2 4).toInt := congrArg Int32.toInt (h1.2.2.2 4 (by decide))
  have : (o.1.2 5).toInt = (σ.2 5).toInt := congrArg Int32.toInt (h1.2.2.2 5 (by decide))
  have : (o.1.2 7).toInt = (σ.2 7).toInt := congrArg Int32.toInt (h1.2.2.2 7 (by decide))
  have : (o.1.2 8).toInt = (σ.2 8).toInt := congrArg Int32.toInt (h1.2.2.2 8 (by decide))
  have : (o2.1.2 1).toInt = (μ.2 1).toInt := congrArg Int32.toInt (h2.2.2.2.2 1 (by decide))
  have : (o2.1.2 2).toInt = (μ.2 2).toInt := congrArg Int32.toInt (h2.2.2.2.2 2 (by decide))
  have : (o2.1.2 3).toInt = (μ.2 3).toInt := congrArg Int32.toInt (h2.2.2.2.2 3 (by decide))
  have : (o2.1.2 4).toInt = (μ.2 4).toInt := congrArg Int32.toInt (h2.2.2.2.2 4 (by decide))
  have : (o2.1.2 9).toInt = (μ.2 9).toInt := congrArg Int32.toInt (h2.2.2.2.2 9 (by decide))
  have : (o2.1.2 10).toInt = (μ.2 10).toInt := congrArg Int32.toInt (h2.2.2.2.2 10 (by decide))
  have : (o2.1.2 11).toInt = (μ.2 11).toInt := congrArg Int32.toInt (h2.2.2.2.2 11 (by decide))
  try dsimp only at a0
  have : (-2147483648 : Int) ≤ (σ.2 1).toInt ∧ (σ.2 1).toInt ≤ 2147483647 := hC.2.1 1
  have : (0 : Int) ≤ (σ.2 2).toInt ∧ (σ.2 2).toInt ≤ 400 := hC.2.1 2
  have : (0 : Int) ≤ (σ.2 3).toInt ∧ (σ.2 3).toInt ≤ 8 := hC.2.1 3
  have : (0 : Int) ≤ (σ.2 4).toInt ∧ (σ.2 4).toInt ≤ 60 := hC.2.1 4
  have : (0 : Int) ≤ (σ.2 5).toInt ∧ (σ.2 5).toInt ≤ 4 := hC.2.1 5
  have : (0 : Int) ≤ (σ.2 7).toInt ∧ (σ.2 7).toInt ≤ 60 := hC.2.1 7
  have : (0 : Int) ≤ (σ.2 8).toInt ∧ (σ.2 8).toInt ≤ 60 := hC.2.1 8
  exact ⟨o, o2, e1, e2, a0, ⟨⟨h1.1, h1.2.1, trivial⟩, ⟨h2.1, h2.2.1, h2.2.2.1, trivial⟩, ⟨(show (o.1.2 5).toInt = (o2.1.2 3).toInt by omega), (show (o.1.2 3).toInt = (o2.1.2 1).toInt by omega), (show (o.1.2 4).toInt = (o2.1.2 2).toInt by omega), (show (o.1.2 1).toInt = (o2.1.2 11).toInt by omega), (show (o.1.2 8).toInt = (o2.1.2 10).toInt by omega), (show (o.1.2 7).toInt = (o2.1.2 9).toInt by omega), (show (o.1.2 2).toInt = (o2.1.2 4).toInt by omega), (ht_keep (fun j hj => h1.2.2.1 j (hs_inc (by decide) hj)) (fun j hj => h1.2.2.2 j (hs_inc (by decide) hj)) (fun j hj => h2.2.2.2.1 j (hs_inc (by decide) hj)) (fun j hj => h2.2.2.2.2 j (hs_inc (by decide) hj)) RY)⟩, by omega, by omega⟩⟩
theorem hp_rate : hz_I_rate hp_I := by
  intro n σ μ x1 x2 hn hI
  obtain ⟨hC, hM, ⟨r0, r1, r2, r3, r4, r5, r6, RY⟩, t0, t1⟩ := hI
  have r0 : (σ.2 5).toInt = (μ.2 3).toInt := r0
  have r1 : (σ.2 3).toInt = (μ.2 1).toInt := r1
  have r2 : (σ.2 4).toInt = (μ.2 2).toInt := r2
  have r3 : (σ.2 1).toInt = (μ.2 11).toInt := r3
  have r4 : (σ.2 8).toInt = (μ.2 10).toInt := r4
  have r5 : (σ.2 7).toInt = (μ.2 9).toInt := r5
  have r6 : (σ.2 2).toInt = (μ.2 4).toInt := r6
  obtain ⟨o, e1, h1⟩ := s_fX9_rate (hs_ka (by decide)) (hs_ki (by decide)) σ x1 x2 (Q := fun o => hc_I (hs_k [22, 23, 24, 25, 26] [0, 1, 2, 3, 4, 5, 6, 7, 8, 9] σ) o.1 ∧ (o.2.2 = 0 ∨ o.2.2 = 1 ∨ o.2.2 = 2)) (⟨hC.1, hC.2.1, hs_k0⟩ : hc_I (hs_k [22, 23, 24, 25, 26] [0, 1, 2, 3, 4, 5, 6, 7, 8, 9] σ) σ) (fun _ _ _ h c  => ⟨h, c⟩)
  obtain ⟨o2, e2, h2⟩ := s_fX10_rate (hs_ka (by decide)) (hs_ki (by decide)) μ x1 x2 (P := fun τ v => hm_I (hs_k [23, 24, 25, 26, 27] [1, 2, 3, 4, 5, 6, 7, 8, 9, 10, 11] μ) τ) (⟨hM.1, hM.2.1, hM.2.2.1, hs_k0⟩ : hm_I (hs_k [23, 24, 25, 26, 27] [1, 2, 3, 4, 5, 6, 7, 8, 9, 10, 11] μ) μ) (fun _ _ h => h)
  obtain ⟨h1, a0⟩ := h1
  have : (o.1.2 1).toInt = (σ.2 1).toInt := congrArg Int32.toInt (h1.2.2.2 1 (by decide))
  have : (o.1.2 2).toInt = (σ.2 2).toInt := congrArg Int32.toInt (h1.2.2.2 2 (by decide))
  have : (o.1.2 3).toInt = (σ.2 3).toInt := congrArg Int32.toInt (h1.2.2.2 3 (by decide))
  have : (o.1.2 4).toInt = (σ.2 4).toInt := congrArg Int32.toInt (h1.2.2.2 4 (by decide))
  have : (o.1.2 5).toInt = (σ.2 5).toInt := congrArg Int32.toInt (h1.2.2.2 5 (by decide))
  have : (o.1.2 7).toInt = (σ.2 7).toInt := congrArg Int32.toInt (h1.2.2.2 7 (by decide))
  have : (o.1.2 8).toInt = (σ.2 8).toInt := congrArg Int32.toInt (h1.2.2.2 8 (by decide))
  have : (o2.1.2 1).toInt = (μ.2 1).toInt := congrArg Int32.toInt (h2.2.2.2.2 1 (by decide))
  have : (o2.1.2 2).toInt = (μ.2 2).toInt := congrArg Int32.toInt (h2.2.2.2.2 2 (by decide))
  have : (o2.1.2 3).toInt = (μ.2 3).toInt := congrArg Int32.toInt (h2.2.2.2.2 3 (by decide))
  have : (o2.1.2 4).toInt = (μ.2 4).toInt := congrArg Int32.toInt (h2.2.2.2.2 4 (by decide))
  have : (o2.1.2 9).toInt = (μ.2 9).toInt := congrArg Int32.toInt (h2.2.2.2.2 9 (by decide))
  have : (o2.1.2 10).toInt = (μ.2 10).toInt := congrArg Int32.toInt (h2.2.2.2.2 10 (by decide))
  have : (o2.1.2 11).toInt = (μ.2 11).toInt := congrArg Int32.toInt (h2.2.2.2.2 11 (by decide))
  try dsimp only at a0
  have : (-2147483648 : Int) ≤ (σ.2 1).toInt ∧ (σ.2 1).toInt ≤ 2147483647 := hC.2.1 1
  have : (0 : Int) ≤ (σ.2 2).toInt ∧ (σ.2 2).toInt ≤ 400 := hC.2.1 2
  have : (0 : Int) ≤ (σ.2 3).toInt ∧ (σ.2 3).toInt ≤ 8 := hC.2.1 3
  have : (0 : Int) ≤ (σ.2 4).toInt ∧ (σ.2 4).toInt ≤ 60 := hC.2.1 4
  have : (0 : Int) ≤ (σ.2 5).toInt ∧ (σ.2 5).toInt ≤ 4 := hC.2.1 5
  have : (0 : Int) ≤ (σ.2 7).toInt ∧ (σ.2 7).toInt ≤ 60 := hC.2.1 7
  have : (0 : Int) ≤ (σ.2 8).toInt ∧ (σ.2 8).toInt ≤ 60 := hC.2.1 8
  exact ⟨o, o2, e1, e2, a0, ⟨⟨h1.1, h1.2.1, trivial⟩, ⟨h2.1, h2.2.1, h2.2.2.1, trivial⟩, ⟨(show (o.1.2 5).toInt = (o2.1.2 3).toInt by omega), (show (o.1.2 3).toInt = (o2.1.2 1).toInt by omega), (show (o.1.2 4).toInt = (o2.1.2 2).toInt by omega), (show (o.1.2 1).toInt = (o2.1.2 11).toInt by omega), (show (o.1.2 8).toInt = (o2.1.2 10).toInt by omega), (show (o.1.2 7).toInt = (o2.1.2 9).toInt by omega), (show (o.1.2 2).toInt = (o2.1.2 4).toInt by omega), (ht_keep (fun j hj => h1.2.2.1 j (hs_inc (by decide) hj)) (fun j hj => h1.2.2.2 j (hs_inc (by decide) hj)) (fun j hj => h2.2.2.2.1 j (hs_inc (by decide) hj)) (fun j hj => h2.2.2.2.2 j (hs_inc (by decide) hj)) RY)⟩, by omega, by omega⟩⟩
theorem hp_check : hz_I_check hp_I := by
  intro n σ μ x1 hn hI
  obtain ⟨hC, hM, ⟨r0, r1, r2, r3, r4, r5, r6, RY⟩, t0, t1⟩ := hI
  have r0 : (σ.2 5).toInt = (μ.2 3).toInt := r0
  have r1 : (σ.2 3).toInt = (μ.2 1).toInt := r1
  have r2 : (σ.2 4).toInt = (μ.2 2).toInt := r2
  have r3 : (σ.2 1).toInt = (μ.2 11).toInt := r3
  have r4 : (σ.2 8).toInt = (μ.2 10).toInt := r4
  have r5 : (σ.2 7).toInt = (μ.2 9).toInt := r5
  have r6 : (σ.2 2).toInt = (μ.2 4).toInt := r6
  obtain ⟨o, e1, h1⟩ := s_fX9_check (hs_ka (by decide)) (hs_ki (by decide)) σ x1 (Q := fun o => hc_I (hs_k [22, 23, 24, 25, 26] [1, 3, 4, 5, 6, 7, 8, 9] σ) o.1 ∧ (o.2.2 = 0 ∨ o.2.2 = 1 ∨ o.2.2 = 2) ∧ ((o.1.2 2).toInt = 0)) (⟨hC.1, hC.2.1, hs_k0⟩ : hc_I (hs_k [22, 23, 24, 25, 26] [1, 3, 4, 5, 6, 7, 8, 9] σ) σ) (fun _ _ _ h c g0 => ⟨h, c, g0⟩)
  obtain ⟨o2, e2, h2⟩ := s_fX10_check (hs_ka (by decide)) (hs_ki (by decide)) μ x1 (P := fun τ v => hm_I (hs_k [23, 24, 25, 26, 27] [1, 2, 3, 9, 10, 11] μ) τ ∧ ((τ.2 4).toInt = 0)) (⟨hM.1, hM.2.1, hM.2.2.1, hs_k0⟩ : hm_I (hs_k [23, 24, 25, 26, 27] [1, 2, 3, 9, 10, 11] μ) μ) (fun _ _ h g0 => ⟨h, g0⟩)
  obtain ⟨h1, a0, a1⟩ := h1
  obtain ⟨h2, b0⟩ := h2
  have : (o.1.2 1).toInt = (σ.2 1).toInt := congrArg Int32.toInt (h1.2.2.2 1 (by decide))
  have : (o.1.2 3).toInt = (σ.2 3).toInt := congrArg Int32.toInt (h1.2.2.2 3 (by decide))
  have : (o.1.2 4).toInt = (σ.2 4).toInt := congrArg Int32.toInt (h1.2.2.2 4 (by decide))
  have : (o.1.2 5).toInt = (σ.2 5).toInt := congrArg Int32.toInt (h1.2.2.2 5 (by decide))
  have : (o.1.2 7).toInt = (σ.2 7).toInt := congrArg Int32.toInt (h1.2.2.2 7 (by decide))
  have : (o.1.2 8).toInt = (σ.2 8).toInt := congrArg Int32.toInt (h1.2.2.2 8 (by decide))
  have : (o2.1.2 1).toInt = (μ.2 1).toInt := congrArg Int32.toInt (h2.2.2.2.2 1 (by decide))
  have : (o2.1.2 2).toInt = (μ.2 2).toInt := congrArg Int32.toInt (h2.2.2.2.2 2 (by decide))
  have : (o2.1.2 3).toInt = (μ.2 3).toInt := congrArg Int32.toInt (h2.2.2.2.2 3 (by decide))
  have : (o2.1.2 9).toInt = (μ.2 9).toInt := congrArg Int32.toInt (h2.2.2.2.2 9 (by decide))
  have : (o2.1.2 10).toInt = (μ.2 10).toInt := congrArg Int32.toInt (h2.2.2.2.2 10 (by decide))
  have : (o2.1.2 11).toInt = (μ.2 11).toInt := congrArg Int32.toInt (h2.2.2.2.2 11 (by decide))
  try dsimp only at a0
  try dsimp only at a1
  try dsimp only at b0
  have : (-2147483648 : Int) ≤ (σ.2 1).toInt ∧ (σ.2 1).toInt ≤ 2147483647 := hC.2.1 1
  have : (0 : Int) ≤ (σ.2 2).toInt ∧ (σ.2 2).toInt ≤ 400 := hC.2.1 2
  have : (0 : Int) ≤ (σ.2 3).toInt ∧ (σ.2 3).toInt ≤ 8 := hC.2.1 3
  have : (0 : Int) ≤ (σ.2 4).toInt ∧ (σ.2 4).toInt ≤ 60 := hC.2.1 4
  have : (0 : Int) ≤ (σ.2 5).toInt ∧ (σ.2 5).toInt ≤ 4 := hC.2.1 5
  have : (0 : Int) ≤ (σ.2 7).toInt ∧ (σ.2 7).toInt ≤ 60 := hC.2.1 7
  have : (0 : Int) ≤ (σ.2 8).toInt ∧ (σ.2 8).toInt ≤ 60 := hC.2.1 8
  exact ⟨o, o2, e1, e2, a0, ⟨⟨h1.1, h1.2.1, trivial⟩, ⟨h2.1, h2.2.1, h2.2.2.1, trivial⟩, ⟨(show (o.1.2 5).toInt = (o2.1.2 3).toInt by omega), (show (o.1.2 3).toInt = (o2.1.2 1).toInt by omega), (show (o.1.2 4).toInt = (o2.1.2 2).toInt by omega), (show (o.1.2 1).toInt = (o2.1.2 11).toInt by omega), (show (o.1.2 8).toInt = (o2.1.2 10).toInt by omega), (show (o.1.2 7).toInt = (o2.1.2 9).toInt by omega), (show (o.1.2 2).toInt = (o2.1.2 4).toInt by omega), (ht_keep (fun j hj => h1.2.2.1 j (hs_inc (by decide) hj)) (fun j hj => h1.2.2.2 j (hs_inc (by decide) hj)) (fun j hj => h2.2.2.2.1 j (hs_inc (by decide) hj)) (fun j hj => h2.2.2.2.2 j (hs_inc (by decide) hj)) RY)⟩, by omega, by omega⟩⟩
theorem hp_fault : hz_I_fault hp_I := by
  intro n σ μ  hn hI
  obtain ⟨hC, hM, ⟨r0, r1, r2, r3, r4, r5, r6, RY⟩, t0, t1⟩ := hI
  have r0 : (σ.2 5).toInt = (μ.2 3).toInt := r0
  have r1 : (σ.2 3).toInt = (μ.2 1).toInt := r1
  have r2 : (σ.2 4).toInt = (μ.2 2).toInt := r2
  have r3 : (σ.2 1).toInt = (μ.2 11).toInt := r3
  have r4 : (σ.2 8).toInt = (μ.2 10).toInt := r4
  have r5 : (σ.2 7).toInt = (μ.2 9).toInt := r5
  have r6 : (σ.2 2).toInt = (μ.2 4).toInt := r6
  obtain ⟨o, e1, h1⟩ := s_fX9_fault (hs_ka (by decide)) (hs_ki (by decide)) σ  (P := fun τ v => hc_I (hs_k [22, 23, 24, 25, 26] [0, 1, 2, 3, 4, 5, 6, 7, 8, 9] σ) τ) (⟨hC.1, hC.2.1, hs_k0⟩ : hc_I (hs_k [22, 23, 24, 25, 26] [0, 1, 2, 3, 4, 5, 6, 7, 8, 9] σ) σ) (fun _ _ h => h)
  obtain ⟨o2, e2, h2⟩ := s_fX10_fault (hs_ka (by decide)) (hs_ki (by decide)) μ  (P := fun τ v => hm_I (hs_k [23, 24, 25, 26, 27] [1, 2, 3, 4, 5, 6, 7, 8, 9, 10, 11] μ) τ) (⟨hM.1, hM.2.1, hM.2.2.1, hs_k0⟩ : hm_I (hs_k [23, 24, 25, 26, 27] [1, 2, 3, 4, 5, 6, 7, 8, 9, 10, 11] μ) μ) (fun _ _ h => h)
  have : (o.1.2 1).toInt = (σ.2 1).toInt := congrArg Int32.toInt (h1.2.2.2 1 (by decide))
  have : (o.1.2 2).toInt = (σ.2 2).toInt := congrArg Int32.toInt (h1.2.2.2 2 (by decide))
  have : (o.1.2 3).toInt = (σ.2 3).toInt := congrArg Int32.toInt (h1.2.2.2 3 (by decide))
  have : (o.1.2 4).toInt = (σ.2 4).toInt := congrArg Int32.toInt (h1.2.2.2 4 (by decide))
  have : (o.1.2 5).toInt = (σ.2 5).toInt := congrArg Int32.toInt (h1.2.2.2 5 (by decide))
  have : (o.1.2 7).toInt = (σ.2 7).toInt := congrArg Int32.toInt (h1.2.2.2 7 (by decide))
  have : (o.1.2 8).toInt = (σ.2 8).toInt := congrArg Int32.toInt (h1.2.2.2 8 (by decide))
  have : (o2.1.2 1).toInt = (μ.2 1).toInt := congrArg Int32.toInt (h2.2.2.2.2 1 (by decide))
  have : (o2.1.2 2).toInt = (μ.2 2).toInt := congrArg Int32.toInt (h2.2.2.2.2 2 (by decide))
  have : (o2.1.2 3).toInt = (μ.2 3).toInt := congrArg Int32.toInt (h2.2.2.2.2 3 (by decide))
  have : (o2.1.2 4).toInt = (μ.2 4).toInt := congrArg Int32.toInt (h2.2.2.2.2 4 (by decide))
  have : (o2.1.2 9).toInt = (μ.2 9).toInt := congrArg Int32.toInt (h2.2.2.2.2 9 (by decide))
  have : (o2.1.2 10).toInt = (μ.2 10).toInt := congrArg Int32.toInt (h2.2.2.2.2 10 (by decide))
  have : (o2.1.2 11).toInt = (μ.2 11).toInt := congrArg Int32.toInt (h2.2.2.2.2 11 (by decide))
  have : (-2147483648 : Int) ≤ (σ.2 1).toInt ∧ (σ.2 1).toInt ≤ 2147483647 := hC.2.1 1
  have : (0 : Int) ≤ (σ.2 2).toInt ∧ (σ.2 2).toInt ≤ 400 := hC.2.1 2
  have : (0 : Int) ≤ (σ.2 3).toInt ∧ (σ.2 3).toInt ≤ 8 := hC.2.1 3
  have : (0 : Int) ≤ (σ.2 4).toInt ∧ (σ.2 4).toInt ≤ 60 := hC.2.1 4
  have : (0 : Int) ≤ (σ.2 5).toInt ∧ (σ.2 5).toInt ≤ 4 := hC.2.1 5
  have : (0 : Int) ≤ (σ.2 7).toInt ∧ (σ.2 7).toInt ≤ 60 := hC.2.1 7
  have : (0 : Int) ≤ (σ.2 8).toInt ∧ (σ.2 8).toInt ≤ 60 := hC.2.1 8
  exact ⟨o, o2, e1, e2, ⟨⟨h1.1, h1.2.1, trivial⟩, ⟨h2.1, h2.2.1, h2.2.2.1, trivial⟩, ⟨(show (o.1.2 5).toInt = (o2.1.2 3).toInt by omega), (show (o.1.2 3).toInt = (o2.1.2 1).toInt by omega), (show (o.1.2 4).toInt = (o2.1.2 2).toInt by omega), (show (o.1.2 1).toInt = (o2.1.2 11).toInt by omega), (show (o.1.2 8).toInt = (o2.1.2 10).toInt by omega), (show (o.1.2 7).toInt = (o2.1.2 9).toInt by omega), (show (o.1.2 2).toInt = (o2.1.2 4).toInt by omega), (ht_keep (fun j hj => h1.2.2.1 j (hs_inc (by decide) hj)) (fun j hj => h1.2.2.2 j (hs_inc (by decide) hj)) (fun j hj => h2.2.2.2.1 j (hs_inc (by decide) hj)) (fun j hj => h2.2.2.2.2 j (hs_inc (by decide) hj)) RY)⟩, by omega, by omega⟩⟩
theorem hp_notes : hz_I_notes hp_I := by
  intro n σ μ x1 x2 hn hI
  obtain ⟨hC, hM, ⟨r0, r1, r2, r3, r4, r5, r6, RY⟩, t0, t1⟩ := hI
  have r0 : (σ.2 5).toInt = (μ.2 3).toInt := r0
  have r1 : (σ.2 3).toInt = (μ.2 1).toInt := r1
  have r2 : (σ.2 4).toInt = (μ.2 2).toInt := r2
  have r3 : (σ.2 1).toInt = (μ.2 11).toInt := r3
  have r4 : (σ.2 8).toInt = (μ.2 10).toInt := r4
  have r5 : (σ.2 7).toInt = (μ.2 9).toInt := r5
  have r6 : (σ.2 2).toInt = (μ.2 4).toInt := r6
  obtain ⟨o, e1, h1⟩ := s_fX9_notes (hs_ka (by decide)) (hs_ki (by decide)) σ x1 (if x2 = 0 then 0 else 1) (Q := fun o => hc_I (hs_k [22, 23, 24, 25, 26] [0, 1, 2, 3, 4, 5, 6, 7, 8, 9] σ) o.1 ∧ (o.2.2 = 0 ∨ o.2.2 = 1)) (⟨hC.1, hC.2.1, hs_k0⟩ : hc_I (hs_k [22, 23, 24, 25, 26] [0, 1, 2, 3, 4, 5, 6, 7, 8, 9] σ) σ) (fun _ _ _ h c  => ⟨h, c⟩)
  obtain ⟨o2, e2, h2⟩ := s_fX10_notes (hs_ka (by decide)) (hs_ki (by decide)) μ x1 (if x2 = 0 then 0 else 1) (P := fun τ v => hm_I (hs_k [23, 24, 25, 26, 27] [1, 2, 3, 4, 5, 6, 7, 8, 9, 10, 11] μ) τ) (⟨hM.1, hM.2.1, hM.2.2.1, hs_k0⟩ : hm_I (hs_k [23, 24, 25, 26, 27] [1, 2, 3, 4, 5, 6, 7, 8, 9, 10, 11] μ) μ) (fun _ _ h => h)
  obtain ⟨h1, a0⟩ := h1
  have : (o.1.2 1).toInt = (σ.2 1).toInt := congrArg Int32.toInt (h1.2.2.2 1 (by decide))
  have : (o.1.2 2).toInt = (σ.2 2).toInt := congrArg Int32.toInt (h1.2.2.2 2 (by decide))
  have : (o.1.2 3).toInt = (σ.2 3).toInt := congrArg Int32.toInt (h1.2.2.2 3 (by decide))
  have : (o.1.2 4).toInt = (σ.2 4).toInt := congrArg Int32.toInt (h1.2.2.2 4 (by decide))
  have : (o.1.2 5).toInt = (σ.2 5).toInt := congrArg Int32.toInt (h1.2.2.2 5 (by decide))
  have : (o.1.2 7).toInt = (σ.2 7).toInt := congrArg Int32.toInt (h1.2.2.2 7 (by decide))
  have : (o.1.2 8).toInt = (σ.2 8).toInt := congrArg Int32.toInt (h1.2.2.2 8 (by decide))
  have : (o2.1.2 1).toInt = (μ.2 1).toInt := congrArg Int32.toInt (h2.2.2.2.2 1 (by decide))
  have : (o2.1.2 2).toInt = (μ.2 2).toInt := congrArg Int32.toInt (h2.2.2.2.2 2 (by decide))
  have : (o2.1.2 3).toInt = (μ.2 3).toInt := congrArg Int32.toInt (h2.2.2.2.2 3 (by decide))
  have : (o2.1.2 4).toInt = (μ.2 4).toInt := congrArg Int32.toInt (h2.2.2.2.2 4 (by decide))
  have : (o2.1.2 9).toInt = (μ.2 9).toInt := congrArg Int32.toInt (h2.2.2.2.2 9 (by decide))
  have : (o2.1.2 10).toInt = (μ.2 10).toInt := congrArg Int32.toInt (h2.2.2.2.2 10 (by decide))
  have : (o2.1.2 11).toInt = (μ.2 11).toInt := congrArg Int32.toInt (h2.2.2.2.2 11 (by decide))
  try dsimp only at a0
  have : (-2147483648 : Int) ≤ (σ.2 1).toInt ∧ (σ.2 1).toInt ≤ 2147483647 := hC.2.1 1
  have : (0 : Int) ≤ (σ.2 2).toInt ∧ (σ.2 2).toInt ≤ 400 := hC.2.1 2
  have : (0 : Int) ≤ (σ.2 3).toInt ∧ (σ.2 3).toInt ≤ 8 := hC.2.1 3
  have : (0 : Int) ≤ (σ.2 4).toInt ∧ (σ.2 4).toInt ≤ 60 := hC.2.1 4
  have : (0 : Int) ≤ (σ.2 5).toInt ∧ (σ.2 5).toInt ≤ 4 := hC.2.1 5
  have : (0 : Int) ≤ (σ.2 7).toInt ∧ (σ.2 7).toInt ≤ 60 := hC.2.1 7
  have : (0 : Int) ≤ (σ.2 8).toInt ∧ (σ.2 8).toInt ≤ 60 := hC.2.1 8
  exact ⟨o, o2, e1, e2, a0, ⟨⟨h1.1, h1.2.1, trivial⟩, ⟨h2.1, h2.2.1, h2.2.2.1, trivial⟩, ⟨(show (o.1.2 5).toInt = (o2.1.2 3).toInt by omega), (show (o.1.2 3).toInt = (o2.1.2 1).toInt by omega), (show (o.1.2 4).toInt = (o2.1.2 2).toInt by omega), (show (o.1.2 1).toInt = (o2.1.2 11).toInt by omega), (show (o.1.2 8).toInt = (o2.1.2 10).toInt by omega), (show (o.1.2 7).toInt = (o2.1.2 9).toInt by omega), (show (o.1.2 2).toInt = (o2.1.2 4).toInt by omega), (ht_keep (fun j hj => h1.2.2.1 j (hs_inc (by decide) hj)) (fun j hj => h1.2.2.2 j (hs_inc (by decide) hj)) (fun j hj => h2.2.2.2.1 j (hs_inc (by decide) hj)) (fun j hj => h2.2.2.2.2 j (hs_inc (by decide) hj)) RY)⟩, by omega, by omega⟩⟩
theorem hp_sherd : hz_I_sherd hp_I := by
  intro n σ μ x1 x2 hn hI
  obtain ⟨hC, hM, ⟨r0, r1, r2, r3, r4, r5, r6, RY⟩, t0, t1⟩ := hI
  have r0 : (σ.2 5).toInt = (μ.2 3).toInt := r0
  have r1 : (σ.2 3).toInt = (μ.2 1).toInt := r1
  have r2 : (σ.2 4).toInt = (μ.2 2).toInt := r2
  have r3 : (σ.2 1).toInt = (μ.2 11).toInt := r3
  have r4 : (σ.2 8).toInt = (μ.2 10).toInt := r4
  have r5 : (σ.2 7).toInt = (μ.2 9).toInt := r5
  have r6 : (σ.2 2).toInt = (μ.2 4).toInt := r6
  obtain ⟨o, e1, h1⟩ := s_fX9_sherd (hs_ka (by decide)) (hs_ki (by decide)) σ x1 x2 (Q := fun o => hc_I (hs_k [22, 23, 24, 25, 26] [0, 1, 2, 3, 4, 5, 6, 8, 9] σ) o.1 ∧ (o.2.2 = 0 ∨ o.2.2 = 1 ∨ o.2.2 = 2 ∨ o.2.2 = 3) ∧ ((o.2.2 = 0 ∧ 0 ≤ (x1 : Int32).toInt ∧ (x1 : Int32).toInt ≤ 15 ∧ ((x2 : Int32).toInt = -1 ∨ (0 ≤ (x2 : Int32).toInt ∧ (x2 : Int32).toInt < 12)) ∧ (σ.2 7).toInt < 60 ∧ (o.1.2 7).toInt = (σ.2 7).toInt + 1) ∨ (((x1 : Int32).toInt < 0 ∨ 15 < (x1 : Int32).toInt ∨ (¬ (x2 : Int32).toInt = -1 ∧ ((x2 : Int32).toInt < 0 ∨ 12 ≤ (x2 : Int32).toInt)) ∨ 60 ≤ (σ.2 7).toInt) ∧ (o.1.2 7).toInt = (σ.2 7).toInt))) (⟨hC.1, hC.2.1, hs_k0⟩ : hc_I (hs_k [22, 23, 24, 25, 26] [0, 1, 2, 3, 4, 5, 6, 8, 9] σ) σ) (fun _ _ _ h c g0 => ⟨h, c, g0⟩)
  obtain ⟨o2, e2, h2⟩ := s_fX10_sherd (hs_ka (by decide)) (hs_ki (by decide)) μ x1 x2 (P := fun τ v => hm_I (hs_k [23, 24, 25, 26, 27] [1, 2, 3, 4, 5, 6, 7, 8, 10, 11] μ) τ ∧ (((τ.2 0).toInt = 0 ∧ 0 ≤ (x1 : Int32).toInt ∧ (x1 : Int32).toInt ≤ 15 ∧ ((x2 : Int32).toInt = -1 ∨ (0 ≤ (x2 : Int32).toInt ∧ (x2 : Int32).toInt < 12)) ∧ (μ.2 9).toInt < 60 ∧ (τ.2 9).toInt = (μ.2 9).toInt + 1) ∨ (((x1 : Int32).toInt < 0 ∨ 15 < (x1 : Int32).toInt ∨ (¬ (x2 : Int32).toInt = -1 ∧ ((x2 : Int32).toInt < 0 ∨ 12 ≤ (x2 : Int32).toInt)) ∨ 60 ≤ (μ.2 9).toInt) ∧ (τ.2 9).toInt = (μ.2 9).toInt))) (⟨hM.1, hM.2.1, hM.2.2.1, hs_k0⟩ : hm_I (hs_k [23, 24, 25, 26, 27] [1, 2, 3, 4, 5, 6, 7, 8, 10, 11] μ) μ) (fun _ _ h g0 => ⟨h, g0⟩)
  obtain ⟨h1, a0, a1⟩ := h1
  obtain ⟨h2, b0⟩ := h2
  have : (o.1.2 1).toInt = (σ.2 1).toInt := congrArg Int32.toInt (h1.2.2.2 1 (by decide))
  have : (o.1.2 2).toInt = (σ.2 2).toInt := congrArg Int32.toInt (h1.2.2.2 2 (by decide))
  have : (o.1.2 3).toInt = (σ.2 3).toInt := congrArg Int32.toInt (h1.2.2.2 3 (by decide))
  have : (o.1.2 4).toInt = (σ.2 4).toInt := congrArg Int32.toInt (h1.2.2.2 4 (by decide))
  have : (o.1.2 5).toInt = (σ.2 5).toInt := congrArg Int32.toInt (h1.2.2.2 5 (by decide))
  have : (o.1.2 8).toInt = (σ.2 8).toInt := congrArg Int32.toInt (h1.2.2.2 8 (by decide))
  have : (o2.1.2 1).toInt = (μ.2 1).toInt := congrArg Int32.toInt (h2.2.2.2.2 1 (by decide))
  have : (o2.1.2 2).toInt = (μ.2 2).toInt := congrArg Int32.toInt (h2.2.2.2.2 2 (by decide))
  have : (o2.1.2 3).toInt = (μ.2 3).toInt := congrArg Int32.toInt (h2.2.2.2.2 3 (by decide))
  have : (o2.1.2 4).toInt = (μ.2 4).toInt := congrArg Int32.toInt (h2.2.2.2.2 4 (by decide))
  have : (o2.1.2 10).toInt = (μ.2 10).toInt := congrArg Int32.toInt (h2.2.2.2.2 10 (by decide))
  have : (o2.1.2 11).toInt = (μ.2 11).toInt := congrArg Int32.toInt (h2.2.2.2.2 11 (by decide))
  try dsimp only at a0
  try dsimp only at a1
  try dsimp only at b0
  have : (-2147483648 : Int) ≤ (σ.2 1).toInt ∧ (σ.2 1).toInt ≤ 2147483647 := hC.2.1 1
  have : (0 : Int) ≤ (σ.2 2).toInt ∧ (σ.2 2).toInt ≤ 400 := hC.2.1 2
  have : (0 : Int) ≤ (σ.2 3).toInt ∧ (σ.2 3).toInt ≤ 8 := hC.2.1 3
  have : (0 : Int) ≤ (σ.2 4).toInt ∧ (σ.2 4).toInt ≤ 60 := hC.2.1 4
  have : (0 : Int) ≤ (σ.2 5).toInt ∧ (σ.2 5).toInt ≤ 4 := hC.2.1 5
  have : (0 : Int) ≤ (σ.2 7).toInt ∧ (σ.2 7).toInt ≤ 60 := hC.2.1 7
  have : (0 : Int) ≤ (σ.2 8).toInt ∧ (σ.2 8).toInt ≤ 60 := hC.2.1 8
  exact ⟨o, o2, e1, e2, a0, ⟨⟨h1.1, h1.2.1, trivial⟩, ⟨h2.1, h2.2.1, h2.2.2.1, trivial⟩, ⟨(show (o.1.2 5).toInt = (o2.1.2 3).toInt by omega), (show (o.1.2 3).toInt = (o2.1.2 1).toInt by omega), (show (o.1.2 4).toInt = (o2.1.2 2).toInt by omega), (show (o.1.2 1).toInt = (o2.1.2 11).toInt by omega), (show (o.1.2 8).toInt = (o2.1.2 10).toInt by omega), (show (o.1.2 7).toInt = (o2.1.2 9).toInt by omega), (show (o.1.2 2).toInt = (o2.1.2 4).toInt by omega), (ht_keep (fun j hj => h1.2.2.1 j (hs_inc (by decide) hj)) (fun j hj => h1.2.2.2 j (hs_inc (by decide) hj)) (fun j hj => h2.2.2.2.1 j (hs_inc (by decide) hj)) (fun j hj => h2.2.2.2.2 j (hs_inc (by decide) hj)) RY)⟩, by omega, by omega⟩⟩
theorem hp_join : hz_I_join hp_I := by
  intro n σ μ x1 x2 hn hI
  obtain ⟨hC, hM, ⟨r0, r1, r2, r3, r4, r5, r6, RY⟩, t0, t1⟩ := hI
  have r0 : (σ.2 5).toInt = (μ.2 3).toInt := r0
  have r1 : (σ.2 3).toInt = (μ.2 1).toInt := r1
  have r2 : (σ.2 4).toInt = (μ.2 2).toInt := r2
  have r3 : (σ.2 1).toInt = (μ.2 11).toInt := r3
  have r4 : (σ.2 8).toInt = (μ.2 10).toInt := r4
  have r5 : (σ.2 7).toInt = (μ.2 9).toInt := r5
  have r6 : (σ.2 2).toInt = (μ.2 4).toInt := r6
  obtain ⟨o, e1, h1⟩ := s_fX9_join (hs_ka (by decide)) (hs_ki (by decide)) σ x1 x2 (Q := fun o => hc_I (hs_k [22, 23, 24, 25, 26] [0, 1, 2, 3, 4, 5, 6, 7, 8, 9] σ) o.1 ∧ (o.2.2 = 0 ∨ o.2.2 = 1)) (⟨hC.1, hC.2.1, hs_k0⟩ : hc_I (hs_k [22, 23, 24, 25, 26] [0, 1, 2, 3, 4, 5, 6, 7, 8, 9] σ) σ) (fun _ _ _ h c  => ⟨h, c⟩)
  obtain ⟨o2, e2, h2⟩ := s_fX10_join (hs_ka (by decide)) (hs_ki (by decide)) μ x1 x2 (P := fun τ v => hm_I (hs_k [23, 24, 25, 26, 27] [1, 2, 3, 4, 5, 6, 7, 8, 9, 10, 11] μ) τ) (⟨hM.1, hM.2.1, hM.2.2.1, hs_k0⟩ : hm_I (hs_k [23, 24, 25, 26, 27] [1, 2, 3, 4, 5, 6, 7, 8, 9, 10, 11] μ) μ) (fun _ _ h => h)
  obtain ⟨h1, a0⟩ := h1
  have : (o.1.2 1).toInt = (σ.2 1).toInt := congrArg Int32.toInt (h1.2.2.2 1 (by decide))
  have : (o.1.2 2).toInt = (σ.2 2).toInt := congrArg Int32.toInt (h1.2.2.2 2 (by decide))
  have : (o.1.2 3).toInt = (σ.2 3).toInt := congrArg Int32.toInt (h1.2.2.2 3 (by decide))
  have : (o.1.2 4).toInt = (σ.2 4).toInt := congrArg Int32.toInt (h1.2.2.2 4 (by decide))
  have : (o.1.2 5).toInt = (σ.2 5).toInt := congrArg Int32.toInt (h1.2.2.2 5 (by decide))
  have : (o.1.2 7).toInt = (σ.2 7).toInt := congrArg Int32.toInt (h1.2.2.2 7 (by decide))
  have : (o.1.2 8).toInt = (σ.2 8).toInt := congrArg Int32.toInt (h1.2.2.2 8 (by decide))
  have : (o2.1.2 1).toInt = (μ.2 1).toInt := congrArg Int32.toInt (h2.2.2.2.2 1 (by decide))
  have : (o2.1.2 2).toInt = (μ.2 2).toInt := congrArg Int32.toInt (h2.2.2.2.2 2 (by decide))
  have : (o2.1.2 3).toInt = (μ.2 3).toInt := congrArg Int32.toInt (h2.2.2.2.2 3 (by decide))
  have : (o2.1.2 4).toInt = (μ.2 4).toInt := congrArg Int32.toInt (h2.2.2.2.2 4 (by decide))
  have : (o2.1.2 9).toInt = (μ.2 9).toInt := congrArg Int32.toInt (h2.2.2.2.2 9 (by decide))
  have : (o2.1.2 10).toInt = (μ.2 10).toInt := congrArg Int32.toInt (h2.2.2.2.2 10 (by decide))
  have : (o2.1.2 11).toInt = (μ.2 11).toInt := congrArg Int32.toInt (h2.2.2.2.2 11 (by decide))
  try dsimp only at a0
  have : (-2147483648 : Int) ≤ (σ.2 1).toInt ∧ (σ.2 1).toInt ≤ 2147483647 := hC.2.1 1
  have : (0 : Int) ≤ (σ.2 2).toInt ∧ (σ.2 2).toInt ≤ 400 := hC.2.1 2
  have : (0 : Int) ≤ (σ.2 3).toInt ∧ (σ.2 3).toInt ≤ 8 := hC.2.1 3
  have : (0 : Int) ≤ (σ.2 4).toInt ∧ (σ.2 4).toInt ≤ 60 := hC.2.1 4
  have : (0 : Int) ≤ (σ.2 5).toInt ∧ (σ.2 5).toInt ≤ 4 := hC.2.1 5
  have : (0 : Int) ≤ (σ.2 7).toInt ∧ (σ.2 7).toInt ≤ 60 := hC.2.1 7
  have : (0 : Int) ≤ (σ.2 8).toInt ∧ (σ.2 8).toInt ≤ 60 := hC.2.1 8
  exact ⟨o, o2, e1, e2, a0, ⟨⟨h1.1, h1.2.1, trivial⟩, ⟨h2.1, h2.2.1, h2.2.2.1, trivial⟩, ⟨(show (o.1.2 5).toInt = (o2.1.2 3).toInt by omega), (show (o.1.2 3).toInt = (o2.1.2 1).toInt by omega), (show (o.1.2 4).toInt = (o2.1.2 2).toInt by omega), (show (o.1.2 1).toInt = (o2.1.2 11).toInt by omega), (show (o.1.2 8).toInt = (o2.1.2 10).toInt by omega), (show (o.1.2 7).toInt = (o2.1.2 9).toInt by omega), (show (o.1.2 2).toInt = (o2.1.2 4).toInt by omega), (ht_keep (fun j hj => h1.2.2.1 j (hs_inc (by decide) hj)) (fun j hj => h1.2.2.2 j (hs_inc (by decide) hj)) (fun j hj => h2.2.2.2.1 j (hs_inc (by decide) hj)) (fun j hj => h2.2.2.2.2 j (hs_inc (by decide) hj)) RY)⟩, by omega, by omega⟩⟩
theorem hp_vessels : hz_I_vessels hp_I := by
  intro n σ μ x1 hn hI
  obtain ⟨hC, hM, ⟨r0, r1, r2, r3, r4, r5, r6, RY⟩, t0, t1⟩ := hI
  have r0 : (σ.2 5).toInt = (μ.2 3).toInt := r0
  have r1 : (σ.2 3).toInt = (μ.2 1).toInt := r1
  have r2 : (σ.2 4).toInt = (μ.2 2).toInt := r2
  have r3 : (σ.2 1).toInt = (μ.2 11).toInt := r3
  have r4 : (σ.2 8).toInt = (μ.2 10).toInt := r4
  have r5 : (σ.2 7).toInt = (μ.2 9).toInt := r5
  have r6 : (σ.2 2).toInt = (μ.2 4).toInt := r6
  obtain ⟨o, e1, h1⟩ := s_fX9_vessels (hs_ka (by decide)) (hs_ki (by decide)) σ x1 (Q := fun o => hc_I (hs_k [22, 23, 24, 25, 26] [0, 1, 2, 3, 4, 5, 6, 7, 8, 9] σ) o.1 ∧ (o.2.2 = 0 ∨ o.2.2 = 1)) (⟨hC.1, hC.2.1, hs_k0⟩ : hc_I (hs_k [22, 23, 24, 25, 26] [0, 1, 2, 3, 4, 5, 6, 7, 8, 9] σ) σ) (fun _ _ _ h c  => ⟨h, c⟩)
  obtain ⟨o2, e2, h2⟩ := s_fX10_vessels (hs_ka (by decide)) (hs_ki (by decide)) μ x1 (P := fun τ v => hm_I (hs_k [23, 24, 25, 26, 27] [1, 2, 3, 4, 5, 6, 7, 8, 9, 10, 11] μ) τ) (⟨hM.1, hM.2.1, hM.2.2.1, hs_k0⟩ : hm_I (hs_k [23, 24, 25, 26, 27] [1, 2, 3, 4, 5, 6, 7, 8, 9, 10, 11] μ) μ) (fun _ _ h => h)
  obtain ⟨h1, a0⟩ := h1
  have : (o.1.2 1).toInt = (σ.2 1).toInt := congrArg Int32.toInt (h1.2.2.2 1 (by decide))
  have : (o.1.2 2).toInt = (σ.2 2).toInt := congrArg Int32.toInt (h1.2.2.2 2 (by decide))
  have : (o.1.2 3).toInt = (σ.2 3).toInt := congrArg Int32.toInt (h1.2.2.2 3 (by decide))
  have : (o.1.2 4).toInt = (σ.2 4).toInt := congrArg Int32.toInt (h1.2.2.2 4 (by decide))
  have : (o.1.2 5).toInt = (σ.2 5).toInt := congrArg Int32.toInt (h1.2.2.2 5 (by decide))
  have : (o.1.2 7).toInt = (σ.2 7).toInt := congrArg Int32.toInt (h1.2.2.2 7 (by decide))
  have : (o.1.2 8).toInt = (σ.2 8).toInt := congrArg Int32.toInt (h1.2.2.2 8 (by decide))
  have : (o2.1.2 1).toInt = (μ.2 1).toInt := congrArg Int32.toInt (h2.2.2.2.2 1 (by decide))
  have : (o2.1.2 2).toInt = (μ.2 2).toInt := congrArg Int32.toInt (h2.2.2.2.2 2 (by decide))
  have : (o2.1.2 3).toInt = (μ.2 3).toInt := congrArg Int32.toInt (h2.2.2.2.2 3 (by decide))
  have : (o2.1.2 4).toInt = (μ.2 4).toInt := congrArg Int32.toInt (h2.2.2.2.2 4 (by decide))
  have : (o2.1.2 9).toInt = (μ.2 9).toInt := congrArg Int32.toInt (h2.2.2.2.2 9 (by decide))
  have : (o2.1.2 10).toInt = (μ.2 10).toInt := congrArg Int32.toInt (h2.2.2.2.2 10 (by decide))
  have : (o2.1.2 11).toInt = (μ.2 11).toInt := congrArg Int32.toInt (h2.2.2.2.2 11 (by decide))
  try dsimp only at a0
  have : (-2147483648 : Int) ≤ (σ.2 1).toInt ∧ (σ.2 1).toInt ≤ 2147483647 := hC.2.1 1
  have : (0 : Int) ≤ (σ.2 2).toInt ∧ (σ.2 2).toInt ≤ 400 := hC.2.1 2
  have : (0 : Int) ≤ (σ.2 3).toInt ∧ (σ.2 3).toInt ≤ 8 := hC.2.1 3
  have : (0 : Int) ≤ (σ.2 4).toInt ∧ (σ.2 4).toInt ≤ 60 := hC.2.1 4
  have : (0 : Int) ≤ (σ.2 5).toInt ∧ (σ.2 5).toInt ≤ 4 := hC.2.1 5
  have : (0 : Int) ≤ (σ.2 7).toInt ∧ (σ.2 7).toInt ≤ 60 := hC.2.1 7
  have : (0 : Int) ≤ (σ.2 8).toInt ∧ (σ.2 8).toInt ≤ 60 := hC.2.1 8
  exact ⟨o, o2, e1, e2, a0, ⟨⟨h1.1, h1.2.1, trivial⟩, ⟨h2.1, h2.2.1, h2.2.2.1, trivial⟩, ⟨(show (o.1.2 5).toInt = (o2.1.2 3).toInt by omega), (show (o.1.2 3).toInt = (o2.1.2 1).toInt by omega), (show (o.1.2 4).toInt = (o2.1.2 2).toInt by omega), (show (o.1.2 1).toInt = (o2.1.2 11).toInt by omega), (show (o.1.2 8).toInt = (o2.1.2 10).toInt by omega), (show (o.1.2 7).toInt = (o2.1.2 9).toInt by omega), (show (o.1.2 2).toInt = (o2.1.2 4).toInt by omega), (ht_keep (fun j hj => h1.2.2.1 j (hs_inc (by decide) hj)) (fun j hj => h1.2.2.2 j (hs_inc (by decide) hj)) (fun j hj => h2.2.2.2.1 j (hs_inc (by decide) hj)) (fun j hj => h2.2.2.2.2 j (hs_inc (by decide) hj)) RY)⟩, by omega, by omega⟩⟩
theorem hp_vessel : hz_I_vessel hp_I := by
  intro n σ μ x1 x2 hn hI
  obtain ⟨hC, hM, ⟨r0, r1, r2, r3, r4, r5, r6, RY⟩, t0, t1⟩ := hI
  have r0 : (σ.2 5).toInt = (μ.2 3).toInt := r0
  have r1 : (σ.2 3).toInt = (μ.2 1).toInt := r1
  have r2 : (σ.2 4).toInt = (μ.2 2).toInt := r2
  have r3 : (σ.2 1).toInt = (μ.2 11).toInt := r3
  have r4 : (σ.2 8).toInt = (μ.2 10).toInt := r4
  have r5 : (σ.2 7).toInt = (μ.2 9).toInt := r5
  have r6 : (σ.2 2).toInt = (μ.2 4).toInt := r6
  obtain ⟨o, e1, h1⟩ := s_fX9_vessel (hs_ka (by decide)) (hs_ki (by decide)) σ x1 x2 (Q := fun o => hc_I (hs_k [22, 23, 24, 25, 26] [0, 1, 2, 3, 4, 5, 6, 7, 8, 9] σ) o.1 ∧ (o.2.2 = 0 ∨ o.2.2 = 1 ∨ o.2.2 = 4)) (⟨hC.1, hC.2.1, hs_k0⟩ : hc_I (hs_k [22, 23, 24, 25, 26] [0, 1, 2, 3, 4, 5, 6, 7, 8, 9] σ) σ) (fun _ _ _ h c  => ⟨h, c⟩)
  obtain ⟨o2, e2, h2⟩ := s_fX10_vessel (hs_ka (by decide)) (hs_ki (by decide)) μ x1 x2 (P := fun τ v => hm_I (hs_k [23, 24, 25, 26, 27] [1, 2, 3, 4, 5, 6, 7, 8, 9, 10, 11] μ) τ) (⟨hM.1, hM.2.1, hM.2.2.1, hs_k0⟩ : hm_I (hs_k [23, 24, 25, 26, 27] [1, 2, 3, 4, 5, 6, 7, 8, 9, 10, 11] μ) μ) (fun _ _ h => h)
  obtain ⟨h1, a0⟩ := h1
  have : (o.1.2 1).toInt = (σ.2 1).toInt := congrArg Int32.toInt (h1.2.2.2 1 (by decide))
  have : (o.1.2 2).toInt = (σ.2 2).toInt := congrArg Int32.toInt (h1.2.2.2 2 (by decide))
  have : (o.1.2 3).toInt = (σ.2 3).toInt := congrArg Int32.toInt (h1.2.2.2 3 (by decide))
  have : (o.1.2 4).toInt = (σ.2 4).toInt := congrArg Int32.toInt (h1.2.2.2 4 (by decide))
  have : (o.1.2 5).toInt = (σ.2 5).toInt := congrArg Int32.toInt (h1.2.2.2 5 (by decide))
  have : (o.1.2 7).toInt = (σ.2 7).toInt := congrArg Int32.toInt (h1.2.2.2 7 (by decide))
  have : (o.1.2 8).toInt = (σ.2 8).toInt := congrArg Int32.toInt (h1.2.2.2 8 (by decide))
  have : (o2.1.2 1).toInt = (μ.2 1).toInt := congrArg Int32.toInt (h2.2.2.2.2 1 (by decide))
  have : (o2.1.2 2).toInt = (μ.2 2).toInt := congrArg Int32.toInt (h2.2.2.2.2 2 (by decide))
  have : (o2.1.2 3).toInt = (μ.2 3).toInt := congrArg Int32.toInt (h2.2.2.2.2 3 (by decide))
  have : (o2.1.2 4).toInt = (μ.2 4).toInt := congrArg Int32.toInt (h2.2.2.2.2 4 (by decide))
  have : (o2.1.2 9).toInt = (μ.2 9).toInt := congrArg Int32.toInt (h2.2.2.2.2 9 (by decide))
  have : (o2.1.2 10).toInt = (μ.2 10).toInt := congrArg Int32.toInt (h2.2.2.2.2 10 (by decide))
  have : (o2.1.2 11).toInt = (μ.2 11).toInt := congrArg Int32.toInt (h2.2.2.2.2 11 (by decide))
  try dsimp only at a0
  have : (-2147483648 : Int) ≤ (σ.2 1).toInt ∧ (σ.2 1).toInt ≤ 2147483647 := hC.2.1 1
  have : (0 : Int) ≤ (σ.2 2).toInt ∧ (σ.2 2).toInt ≤ 400 := hC.2.1 2
  have : (0 : Int) ≤ (σ.2 3).toInt ∧ (σ.2 3).toInt ≤ 8 := hC.2.1 3
  have : (0 : Int) ≤ (σ.2 4).toInt ∧ (σ.2 4).toInt ≤ 60 := hC.2.1 4
  have : (0 : Int) ≤ (σ.2 5).toInt ∧ (σ.2 5).toInt ≤ 4 := hC.2.1 5
  have : (0 : Int) ≤ (σ.2 7).toInt ∧ (σ.2 7).toInt ≤ 60 := hC.2.1 7
  have : (0 : Int) ≤ (σ.2 8).toInt ∧ (σ.2 8).toInt ≤ 60 := hC.2.1 8
  exact ⟨o, o2, e1, e2, a0, ⟨⟨h1.1, h1.2.1, trivial⟩, ⟨h2.1, h2.2.1, h2.2.2.1, trivial⟩, ⟨(show (o.1.2 5).toInt = (o2.1.2 3).toInt by omega), (show (o.1.2 3).toInt = (o2.1.2 1).toInt by omega), (show (o.1.2 4).toInt = (o2.1.2 2).toInt by omega), (show (o.1.2 1).toInt = (o2.1.2 11).toInt by omega), (show (o.1.2 8).toInt = (o2.1.2 10).toInt by omega), (show (o.1.2 7).toInt = (o2.1.2 9).toInt by omega), (show (o.1.2 2).toInt = (o2.1.2 4).toInt by omega), (ht_keep (fun j hj => h1.2.2.1 j (hs_inc (by decide) hj)) (fun j hj => h1.2.2.2 j (hs_inc (by decide) hj)) (fun j hj => h2.2.2.2.1 j (hs_inc (by decide) hj)) (fun j hj => h2.2.2.2.2 j (hs_inc (by decide) hj)) RY)⟩, by omega, by omega⟩⟩
theorem hp_tell : hz_I_tell hp_I := by
  intro n σ μ x1 x2 x3 hn hI
  obtain ⟨hC, hM, ⟨r0, r1, r2, r3, r4, r5, r6, RY⟩, t0, t1⟩ := hI
  have r0 : (σ.2 5).toInt = (μ.2 3).toInt := r0
  have r1 : (σ.2 3).toInt = (μ.2 1).toInt := r1
  have r2 : (σ.2 4).toInt = (μ.2 2).toInt := r2
  have r3 : (σ.2 1).toInt = (μ.2 11).toInt := r3
  have r4 : (σ.2 8).toInt = (μ.2 10).toInt := r4
  have r5 : (σ.2 7).toInt = (μ.2 9).toInt := r5
  have r6 : (σ.2 2).toInt = (μ.2 4).toInt := r6
  obtain ⟨o, e1, h1⟩ := s_fX9_tell (hs_ka (by decide)) (hs_ki (by decide)) σ x1 x2 x3 (Q := fun o => hc_I (hs_k [] [0, 1, 2, 3, 4, 5, 6, 7, 9] σ) o.1 ∧ (o.2.2 = 0 ∨ o.2.2 = 1 ∨ o.2.2 = 2 ∨ o.2.2 = 3) ∧ ((o.2.2 = 0 ∧ ¬ ((x1 : Int32).toInt < 0 ∨ 12 ≤ (x1 : Int32).toInt ∨ (x2 : Int32).toInt < 0 ∨ 12 ≤ (x2 : Int32).toInt) ∧ ¬ ((x1 : Int32).toInt = (x2 : Int32).toInt ∨ (x3 : Int32).toInt < -500 ∨ 500 < (x3 : Int32).toInt) ∧ (σ.2 8).toInt < 60 ∧ (o.1.2 8).toInt = (σ.2 8).toInt + 1 ∧ o.2.1.toInt = (σ.2 8).toInt) ∨ (o.2.2 = 1 ∧ ((x1 : Int32).toInt < 0 ∨ 12 ≤ (x1 : Int32).toInt ∨ (x2 : Int32).toInt < 0 ∨ 12 ≤ (x2 : Int32).toInt) ∧ (o.1.2 8).toInt = (σ.2 8).toInt) ∨ (o.2.2 = 2 ∧ ¬ ((x1 : Int32).toInt < 0 ∨ 12 ≤ (x1 : Int32).toInt ∨ (x2 : Int32).toInt < 0 ∨ 12 ≤ (x2 : Int32).toInt) ∧ ((x1 : Int32).toInt = (x2 : Int32).toInt ∨ (x3 : Int32).toInt < -500 ∨ 500 < (x3 : Int32).toInt) ∧ (o.1.2 8).toInt = (σ.2 8).toInt) ∨ (o.2.2 = 3 ∧ ¬ ((x1 : Int32).toInt < 0 ∨ 12 ≤ (x1 : Int32).toInt ∨ (x2 : Int32).toInt < 0 ∨ 12 ≤ (x2 : Int32).toInt) ∧ ¬ ((x1 : Int32).toInt = (x2 : Int32).toInt ∨ (x3 : Int32).toInt < -500 ∨ 500 < (x3 : Int32).toInt) ∧ 60 ≤ (σ.2 8).toInt ∧ (o.1.2 8).toInt = (σ.2 8).toInt))) (⟨hC.1, hC.2.1, hs_k0⟩ : hc_I (hs_k [] [0, 1, 2, 3, 4, 5, 6, 7, 9] σ) σ) (fun _ _ _ h c g0 => ⟨h, c, g0⟩)
  obtain ⟨o2, e2, h2⟩ := s_fX10_tell (hs_ka (by decide)) (hs_ki (by decide)) μ x1 x2 x3 (P := fun τ v => hm_I (hs_k [] [1, 2, 3, 4, 5, 6, 7, 8, 9, 11] μ) τ ∧ (((τ.2 0).toInt = 0 ∧ ¬ ((x1 : Int32).toInt < 0 ∨ 12 ≤ (x1 : Int32).toInt ∨ (x2 : Int32).toInt < 0 ∨ 12 ≤ (x2 : Int32).toInt) ∧ ¬ ((x1 : Int32).toInt = (x2 : Int32).toInt ∨ (x3 : Int32).toInt < -500 ∨ 500 < (x3 : Int32).toInt) ∧ (μ.2 10).toInt < 60 ∧ (τ.2 10).toInt = (μ.2 10).toInt + 1 ∧ v.toInt = (μ.2 10).toInt) ∨ ((τ.2 0).toInt = 1 ∧ ((x1 : Int32).toInt < 0 ∨ 12 ≤ (x1 : Int32).toInt ∨ (x2 : Int32).toInt < 0 ∨ 12 ≤ (x2 : Int32).toInt) ∧ (τ.2 10).toInt = (μ.2 10).toInt) ∨ ((τ.2 0).toInt = 2 ∧ ¬ ((x1 : Int32).toInt < 0 ∨ 12 ≤ (x1 : Int32).toInt ∨ (x2 : Int32).toInt < 0 ∨ 12 ≤ (x2 : Int32).toInt) ∧ ((x1 : Int32).toInt = (x2 : Int32).toInt ∨ (x3 : Int32).toInt < -500 ∨ 500 < (x3 : Int32).toInt) ∧ (τ.2 10).toInt = (μ.2 10).toInt) ∨ ((τ.2 0).toInt = 3 ∧ ¬ ((x1 : Int32).toInt < 0 ∨ 12 ≤ (x1 : Int32).toInt ∨ (x2 : Int32).toInt < 0 ∨ 12 ≤ (x2 : Int32).toInt) ∧ ¬ ((x1 : Int32).toInt = (x2 : Int32).toInt ∨ (x3 : Int32).toInt < -500 ∨ 500 < (x3 : Int32).toInt) ∧ 60 ≤ (μ.2 10).toInt ∧ (τ.2 10).toInt = (μ.2 10).toInt))) (⟨hM.1, hM.2.1, hM.2.2.1, hs_k0⟩ : hm_I (hs_k [] [1, 2, 3, 4, 5, 6, 7, 8, 9, 11] μ) μ) (fun _ _ h g0 => ⟨h, g0⟩)
  obtain ⟨h1, a0, a1⟩ := h1
  obtain ⟨h2, b0⟩ := h2
  have : (o.1.2 1).toInt = (σ.2 1).toInt := congrArg Int32.toInt (h1.2.2.2 1 (by decide))
  have : (o.1.2 2).toInt = (σ.2 2).toInt := congrArg Int32.toInt (h1.2.2.2 2 (by decide))
  have : (o.1.2 3).toInt = (σ.2 3).toInt := congrArg Int32.toInt (h1.2.2.2 3 (by decide))
  have : (o.1.2 4).toInt = (σ.2 4).toInt := congrArg Int32.toInt (h1.2.2.2 4 (by decide))
  have : (o.1.2 5).toInt = (σ.2 5).toInt := congrArg Int32.toInt (h1.2.2.2 5 (by decide))
  have : (o.1.2 7).toInt = (σ.2 7).toInt := congrArg Int32.toInt (h1.2.2.2 7 (by decide))
  have : (o2.1.2 1).toInt = (μ.2 1).toInt := congrArg Int32.toInt (h2.2.2.2.2 1 (by decide))
  have : (o2.1.2 2).toInt = (μ.2 2).toInt := congrArg Int32.toInt (h2.2.2.2.2 2 (by decide))
  have : (o2.1.2 3).toInt = (μ.2 3).toInt := congrArg Int32.toInt (h2.2.2.2.2 3 (by decide))
  have : (o2.1.2 4).toInt = (μ.2 4).toInt := congrArg Int32.toInt (h2.2.2.2.2 4 (by decide))
  have : (o2.1.2 9).toInt = (μ.2 9).toInt := congrArg Int32.toInt (h2.2.2.2.2 9 (by decide))
  have : (o2.1.2 11).toInt = (μ.2 11).toInt := congrArg Int32.toInt (h2.2.2.2.2 11 (by decide))
  try dsimp only at a0
  try dsimp only at a1
  try dsimp only at b0
  have : (-2147483648 : Int) ≤ (σ.2 1).toInt ∧ (σ.2 1).toInt ≤ 2147483647 := hC.2.1 1
  have : (0 : Int) ≤ (σ.2 2).toInt ∧ (σ.2 2).toInt ≤ 400 := hC.2.1 2
  have : (0 : Int) ≤ (σ.2 3).toInt ∧ (σ.2 3).toInt ≤ 8 := hC.2.1 3
  have : (0 : Int) ≤ (σ.2 4).toInt ∧ (σ.2 4).toInt ≤ 60 := hC.2.1 4
  have : (0 : Int) ≤ (σ.2 5).toInt ∧ (σ.2 5).toInt ≤ 4 := hC.2.1 5
  have : (0 : Int) ≤ (σ.2 7).toInt ∧ (σ.2 7).toInt ≤ 60 := hC.2.1 7
  have : (0 : Int) ≤ (σ.2 8).toInt ∧ (σ.2 8).toInt ≤ 60 := hC.2.1 8
  have NY := ht_tell hC RY e1 e2
  exact ⟨o, o2, e1, e2, a0, ⟨⟨h1.1, h1.2.1, trivial⟩, ⟨h2.1, h2.2.1, h2.2.2.1, trivial⟩, ⟨(show (o.1.2 5).toInt = (o2.1.2 3).toInt by omega), (show (o.1.2 3).toInt = (o2.1.2 1).toInt by omega), (show (o.1.2 4).toInt = (o2.1.2 2).toInt by omega), (show (o.1.2 1).toInt = (o2.1.2 11).toInt by omega), (show (o.1.2 8).toInt = (o2.1.2 10).toInt by omega), (show (o.1.2 7).toInt = (o2.1.2 9).toInt by omega), (show (o.1.2 2).toInt = (o2.1.2 4).toInt by omega), NY⟩, by omega, by omega⟩⟩
theorem hp_bound : hz_I_bound hp_I := by
  intro n σ μ x1 x2 x3 hn hI
  obtain ⟨hC, hM, ⟨r0, r1, r2, r3, r4, r5, r6, RY⟩, t0, t1⟩ := hI
  have r0 : (σ.2 5).toInt = (μ.2 3).toInt := r0
  have r1 : (σ.2 3).toInt = (μ.2 1).toInt := r1
  have r2 : (σ.2 4).toInt = (μ.2 2).toInt := r2
  have r3 : (σ.2 1).toInt = (μ.2 11).toInt := r3
  have r4 : (σ.2 8).toInt = (μ.2 10).toInt := r4
  have r5 : (σ.2 7).toInt = (μ.2 9).toInt := r5
  have r6 : (σ.2 2).toInt = (μ.2 4).toInt := r6
  obtain ⟨o, e1, h1⟩ := s_fX9_bound (hs_ka (by decide)) (hs_ki (by decide)) σ x1 x2 (if x3 = 0 then 0 else 1) (Q := fun o => hc_I (hs_k [] [0, 1, 2, 3, 4, 5, 6, 7, 9] σ) o.1 ∧ (o.2.2 = 0 ∨ o.2.2 = 1 ∨ o.2.2 = 2 ∨ o.2.2 = 3) ∧ ((o.2.2 = 0 ∧ ¬ ((x1 : Int32).toInt < 0 ∨ 12 ≤ (x1 : Int32).toInt) ∧ ¬ ((x2 : Int32).toInt < 0 ∨ 1000 < (x2 : Int32).toInt) ∧ (σ.2 8).toInt < 60 ∧ (o.1.2 8).toInt = (σ.2 8).toInt + 1 ∧ o.2.1.toInt = (σ.2 8).toInt) ∨ (o.2.2 = 1 ∧ ((x1 : Int32).toInt < 0 ∨ 12 ≤ (x1 : Int32).toInt) ∧ (o.1.2 8).toInt = (σ.2 8).toInt) ∨ (o.2.2 = 2 ∧ ¬ ((x1 : Int32).toInt < 0 ∨ 12 ≤ (x1 : Int32).toInt) ∧ ((x2 : Int32).toInt < 0 ∨ 1000 < (x2 : Int32).toInt) ∧ (o.1.2 8).toInt = (σ.2 8).toInt) ∨ (o.2.2 = 3 ∧ ¬ ((x1 : Int32).toInt < 0 ∨ 12 ≤ (x1 : Int32).toInt) ∧ ¬ ((x2 : Int32).toInt < 0 ∨ 1000 < (x2 : Int32).toInt) ∧ 60 ≤ (σ.2 8).toInt ∧ (o.1.2 8).toInt = (σ.2 8).toInt))) (⟨hC.1, hC.2.1, hs_k0⟩ : hc_I (hs_k [] [0, 1, 2, 3, 4, 5, 6, 7, 9] σ) σ) (fun _ _ _ h c g0 => ⟨h, c, g0⟩)
  obtain ⟨o2, e2, h2⟩ := s_fX10_bound (hs_ka (by decide)) (hs_ki (by decide)) μ x1 x2 (if x3 = 0 then 0 else 1) (P := fun τ v => hm_I (hs_k [] [1, 2, 3, 4, 5, 6, 7, 8, 9, 11] μ) τ ∧ (((τ.2 0).toInt = 0 ∧ ¬ ((x1 : Int32).toInt < 0 ∨ 12 ≤ (x1 : Int32).toInt) ∧ ¬ ((x2 : Int32).toInt < 0 ∨ 1000 < (x2 : Int32).toInt) ∧ (μ.2 10).toInt < 60 ∧ (τ.2 10).toInt = (μ.2 10).toInt + 1 ∧ v.toInt = (μ.2 10).toInt) ∨ ((τ.2 0).toInt = 1 ∧ ((x1 : Int32).toInt < 0 ∨ 12 ≤ (x1 : Int32).toInt) ∧ (τ.2 10).toInt = (μ.2 10).toInt) ∨ ((τ.2 0).toInt = 2 ∧ ¬ ((x1 : Int32).toInt < 0 ∨ 12 ≤ (x1 : Int32).toInt) ∧ ((x2 : Int32).toInt < 0 ∨ 1000 < (x2 : Int32).toInt) ∧ (τ.2 10).toInt = (μ.2 10).toInt) ∨ ((τ.2 0).toInt = 3 ∧ ¬ ((x1 : Int32).toInt < 0 ∨ 12 ≤ (x1 : Int32).toInt) ∧ ¬ ((x2 : Int32).toInt < 0 ∨ 1000 < (x2 : Int32).toInt) ∧ 60 ≤ (μ.2 10).toInt ∧ (τ.2 10).toInt = (μ.2 10).toInt))) (⟨hM.1, hM.2.1, hM.2.2.1, hs_k0⟩ : hm_I (hs_k [] [1, 2, 3, 4, 5, 6, 7, 8, 9, 11] μ) μ) (fun _ _ h g0 => ⟨h, g0⟩)
  obtain ⟨h1, a0, a1⟩ := h1
  obtain ⟨h2, b0⟩ := h2
  have : (o.1.2 1).toInt = (σ.2 1).toInt := congrArg Int32.toInt (h1.2.2.2 1 (by decide))
  have : (o.1.2 2).toInt = (σ.2 2).toInt := congrArg Int32.toInt (h1.2.2.2 2 (by decide))
  have : (o.1.2 3).toInt = (σ.2 3).toInt := congrArg Int32.toInt (h1.2.2.2 3 (by decide))
  have : (o.1.2 4).toInt = (σ.2 4).toInt := congrArg Int32.toInt (h1.2.2.2 4 (by decide))
  have : (o.1.2 5).toInt = (σ.2 5).toInt := congrArg Int32.toInt (h1.2.2.2 5 (by decide))
  have : (o.1.2 7).toInt = (σ.2 7).toInt := congrArg Int32.toInt (h1.2.2.2 7 (by decide))
  have : (o2.1.2 1).toInt = (μ.2 1).toInt := congrArg Int32.toInt (h2.2.2.2.2 1 (by decide))
  have : (o2.1.2 2).toInt = (μ.2 2).toInt := congrArg Int32.toInt (h2.2.2.2.2 2 (by decide))
  have : (o2.1.2 3).toInt = (μ.2 3).toInt := congrArg Int32.toInt (h2.2.2.2.2 3 (by decide))
  have : (o2.1.2 4).toInt = (μ.2 4).toInt := congrArg Int32.toInt (h2.2.2.2.2 4 (by decide))
  have : (o2.1.2 9).toInt = (μ.2 9).toInt := congrArg Int32.toInt (h2.2.2.2.2 9 (by decide))
  have : (o2.1.2 11).toInt = (μ.2 11).toInt := congrArg Int32.toInt (h2.2.2.2.2 11 (by decide))
  try dsimp only at a0
  try dsimp only at a1
  try dsimp only at b0
  have : (-2147483648 : Int) ≤ (σ.2 1).toInt ∧ (σ.2 1).toInt ≤ 2147483647 := hC.2.1 1
  have : (0 : Int) ≤ (σ.2 2).toInt ∧ (σ.2 2).toInt ≤ 400 := hC.2.1 2
  have : (0 : Int) ≤ (σ.2 3).toInt ∧ (σ.2 3).toInt ≤ 8 := hC.2.1 3
  have : (0 : Int) ≤ (σ.2 4).toInt ∧ (σ.2 4).toInt ≤ 60 := hC.2.1 4
  have : (0 : Int) ≤ (σ.2 5).toInt ∧ (σ.2 5).toInt ≤ 4 := hC.2.1 5
  have : (0 : Int) ≤ (σ.2 7).toInt ∧ (σ.2 7).toInt ≤ 60 := hC.2.1 7
  have : (0 : Int) ≤ (σ.2 8).toInt ∧ (σ.2 8).toInt ≤ 60 := hC.2.1 8
  have NY := ht_bound hC RY e1 e2
  exact ⟨o, o2, e1, e2, a0, ⟨⟨h1.1, h1.2.1, trivial⟩, ⟨h2.1, h2.2.1, h2.2.2.1, trivial⟩, ⟨(show (o.1.2 5).toInt = (o2.1.2 3).toInt by omega), (show (o.1.2 3).toInt = (o2.1.2 1).toInt by omega), (show (o.1.2 4).toInt = (o2.1.2 2).toInt by omega), (show (o.1.2 1).toInt = (o2.1.2 11).toInt by omega), (show (o.1.2 8).toInt = (o2.1.2 10).toInt by omega), (show (o.1.2 7).toInt = (o2.1.2 9).toInt by omega), (show (o.1.2 2).toInt = (o2.1.2 4).toInt by omega), NY⟩, by omega, by omega⟩⟩
theorem hp_undo : hz_I_undo hp_I := by
  intro n σ μ x1 hn hI
  obtain ⟨hC, hM, ⟨r0, r1, r2, r3, r4, r5, r6, RY⟩, t0, t1⟩ := hI
  have r0 : (σ.2 5).toInt = (μ.2 3).toInt := r0
  have r1 : (σ.2 3).toInt = (μ.2 1).toInt := r1
  have r2 : (σ.2 4).toInt = (μ.2 2).toInt := r2
  have r3 : (σ.2 1).toInt = (μ.2 11).toInt := r3
  have r4 : (σ.2 8).toInt = (μ.2 10).toInt := r4
  have r5 : (σ.2 7).toInt = (μ.2 9).toInt := r5
  have r6 : (σ.2 2).toInt = (μ.2 4).toInt := r6
  obtain ⟨o, e1, h1⟩ := s_fX9_undo (hs_ka (by decide)) (hs_ki (by decide)) σ x1 (Q := fun o => hc_I (hs_k [22, 23, 24, 25] [0, 1, 2, 3, 4, 5, 6, 7, 8, 9] σ) o.1 ∧ (o.2.2 = 0 ∨ o.2.2 = 1)) (⟨hC.1, hC.2.1, hs_k0⟩ : hc_I (hs_k [22, 23, 24, 25] [0, 1, 2, 3, 4, 5, 6, 7, 8, 9] σ) σ) (fun _ _ _ h c  => ⟨h, c⟩)
  obtain ⟨o2, e2, h2⟩ := s_fX10_undo (hs_ka (by decide)) (hs_ki (by decide)) μ x1 (P := fun τ v => hm_I (hs_k [23, 24, 25, 26] [1, 2, 3, 4, 5, 6, 7, 8, 9, 10, 11] μ) τ) (⟨hM.1, hM.2.1, hM.2.2.1, hs_k0⟩ : hm_I (hs_k [23, 24, 25, 26] [1, 2, 3, 4, 5, 6, 7, 8, 9, 10, 11] μ) μ) (fun _ _ h => h)
  obtain ⟨h1, a0⟩ := h1
  have : (o.1.2 1).toInt = (σ.2 1).toInt := congrArg Int32.toInt (h1.2.2.2 1 (by decide))
  have : (o.1.2 2).toInt = (σ.2 2).toInt := congrArg Int32.toInt (h1.2.2.2 2 (by decide))
  have : (o.1.2 3).toInt = (σ.2 3).toInt := congrArg Int32.toInt (h1.2.2.2 3 (by decide))
  have : (o.1.2 4).toInt = (σ.2 4).toInt := congrArg Int32.toInt (h1.2.2.2 4 (by decide))
  have : (o.1.2 5).toInt = (σ.2 5).toInt := congrArg Int32.toInt (h1.2.2.2 5 (by decide))
  have : (o.1.2 7).toInt = (σ.2 7).toInt := congrArg Int32.toInt (h1.2.2.2 7 (by decide))
  have : (o.1.2 8).toInt = (σ.2 8).toInt := congrArg Int32.toInt (h1.2.2.2 8 (by decide))
  have : (o2.1.2 1).toInt = (μ.2 1).toInt := congrArg Int32.toInt (h2.2.2.2.2 1 (by decide))
  have : (o2.1.2 2).toInt = (μ.2 2).toInt := congrArg Int32.toInt (h2.2.2.2.2 2 (by decide))
  have : (o2.1.2 3).toInt = (μ.2 3).toInt := congrArg Int32.toInt (h2.2.2.2.2 3 (by decide))
  have : (o2.1.2 4).toInt = (μ.2 4).toInt := congrArg Int32.toInt (h2.2.2.2.2 4 (by decide))
  have : (o2.1.2 9).toInt = (μ.2 9).toInt := congrArg Int32.toInt (h2.2.2.2.2 9 (by decide))
  have : (o2.1.2 10).toInt = (μ.2 10).toInt := congrArg Int32.toInt (h2.2.2.2.2 10 (by decide))
  have : (o2.1.2 11).toInt = (μ.2 11).toInt := congrArg Int32.toInt (h2.2.2.2.2 11 (by decide))
  try dsimp only at a0
  have : (-2147483648 : Int) ≤ (σ.2 1).toInt ∧ (σ.2 1).toInt ≤ 2147483647 := hC.2.1 1
  have : (0 : Int) ≤ (σ.2 2).toInt ∧ (σ.2 2).toInt ≤ 400 := hC.2.1 2
  have : (0 : Int) ≤ (σ.2 3).toInt ∧ (σ.2 3).toInt ≤ 8 := hC.2.1 3
  have : (0 : Int) ≤ (σ.2 4).toInt ∧ (σ.2 4).toInt ≤ 60 := hC.2.1 4
  have : (0 : Int) ≤ (σ.2 5).toInt ∧ (σ.2 5).toInt ≤ 4 := hC.2.1 5
  have : (0 : Int) ≤ (σ.2 7).toInt ∧ (σ.2 7).toInt ≤ 60 := hC.2.1 7
  have : (0 : Int) ≤ (σ.2 8).toInt ∧ (σ.2 8).toInt ≤ 60 := hC.2.1 8
  have NY := ht_undo hC t0 RY e1 e2
  exact ⟨o, o2, e1, e2, a0, ⟨⟨h1.1, h1.2.1, trivial⟩, ⟨h2.1, h2.2.1, h2.2.2.1, trivial⟩, ⟨(show (o.1.2 5).toInt = (o2.1.2 3).toInt by omega), (show (o.1.2 3).toInt = (o2.1.2 1).toInt by omega), (show (o.1.2 4).toInt = (o2.1.2 2).toInt by omega), (show (o.1.2 1).toInt = (o2.1.2 11).toInt by omega), (show (o.1.2 8).toInt = (o2.1.2 10).toInt by omega), (show (o.1.2 7).toInt = (o2.1.2 9).toInt by omega), (show (o.1.2 2).toInt = (o2.1.2 4).toInt by omega), NY.1⟩, by omega, by omega⟩⟩
theorem hp_days : hz_I_days hp_I := by
  intro n σ μ x1 hn hI
  obtain ⟨hC, hM, ⟨r0, r1, r2, r3, r4, r5, r6, RY⟩, t0, t1⟩ := hI
  have r0 : (σ.2 5).toInt = (μ.2 3).toInt := r0
  have r1 : (σ.2 3).toInt = (μ.2 1).toInt := r1
  have r2 : (σ.2 4).toInt = (μ.2 2).toInt := r2
  have r3 : (σ.2 1).toInt = (μ.2 11).toInt := r3
  have r4 : (σ.2 8).toInt = (μ.2 10).toInt := r4
  have r5 : (σ.2 7).toInt = (μ.2 9).toInt := r5
  have r6 : (σ.2 2).toInt = (μ.2 4).toInt := r6
  obtain ⟨o, e1, h1⟩ := s_fX9_days (hs_ka (by decide)) (hs_ki (by decide)) σ x1 (Q := fun o => hc_I (hs_k [22, 23, 24, 25, 26] [0, 2, 3, 4, 5, 6, 7, 8, 9] σ) o.1 ∧ (o.2.2 = 0 ∨ o.2.2 = 2) ∧ ((o.2.2 = 0 ∧ 0 ≤ (x1 : Int32).toInt ∧ (x1 : Int32).toInt ≤ 1000 ∧ (o.1.2 1).toInt = (σ.2 1).toInt + (x1 : Int32).toInt ∧ o.2.1.toInt = (σ.2 1).toInt + (x1 : Int32).toInt) ∨ (o.2.2 = 2 ∧ ((x1 : Int32).toInt < 0 ∨ 1000 < (x1 : Int32).toInt) ∧ (o.1.2 1).toInt = (σ.2 1).toInt))) (⟨hC.1, hC.2.1, hs_k0⟩ : hc_I (hs_k [22, 23, 24, 25, 26] [0, 2, 3, 4, 5, 6, 7, 8, 9] σ) σ) (by omega) (by omega) (fun _ _ _ h c g0 => ⟨h, c, g0⟩)
  obtain ⟨o2, e2, h2⟩ := s_fX10_days (hs_ka (by decide)) (hs_ki (by decide)) μ x1 (P := fun τ v => hm_I (hs_k [23, 24, 25, 26, 27] [1, 2, 3, 4, 5, 6, 7, 8, 9, 10] μ) τ ∧ (((τ.2 0).toInt = 0 ∧ 0 ≤ (x1 : Int32).toInt ∧ (x1 : Int32).toInt ≤ 1000 ∧ (τ.2 11).toInt = (μ.2 11).toInt + (x1 : Int32).toInt ∧ v.toInt = (μ.2 11).toInt + (x1 : Int32).toInt) ∨ ((τ.2 0).toInt = 1 ∧ ((x1 : Int32).toInt < 0 ∨ 1000 < (x1 : Int32).toInt) ∧ (τ.2 11).toInt = (μ.2 11).toInt))) (⟨hM.1, hM.2.1, hM.2.2.1, hs_k0⟩ : hm_I (hs_k [23, 24, 25, 26, 27] [1, 2, 3, 4, 5, 6, 7, 8, 9, 10] μ) μ) (by omega) (by omega) (fun _ _ h g0 => ⟨h, g0⟩)
  obtain ⟨h1, a0, a1⟩ := h1
  obtain ⟨h2, b0⟩ := h2
  have : (o.1.2 2).toInt = (σ.2 2).toInt := congrArg Int32.toInt (h1.2.2.2 2 (by decide))
  have : (o.1.2 3).toInt = (σ.2 3).toInt := congrArg Int32.toInt (h1.2.2.2 3 (by decide))
  have : (o.1.2 4).toInt = (σ.2 4).toInt := congrArg Int32.toInt (h1.2.2.2 4 (by decide))
  have : (o.1.2 5).toInt = (σ.2 5).toInt := congrArg Int32.toInt (h1.2.2.2 5 (by decide))
  have : (o.1.2 7).toInt = (σ.2 7).toInt := congrArg Int32.toInt (h1.2.2.2 7 (by decide))
  have : (o.1.2 8).toInt = (σ.2 8).toInt := congrArg Int32.toInt (h1.2.2.2 8 (by decide))
  have : (o2.1.2 1).toInt = (μ.2 1).toInt := congrArg Int32.toInt (h2.2.2.2.2 1 (by decide))
  have : (o2.1.2 2).toInt = (μ.2 2).toInt := congrArg Int32.toInt (h2.2.2.2.2 2 (by decide))
  have : (o2.1.2 3).toInt = (μ.2 3).toInt := congrArg Int32.toInt (h2.2.2.2.2 3 (by decide))
  have : (o2.1.2 4).toInt = (μ.2 4).toInt := congrArg Int32.toInt (h2.2.2.2.2 4 (by decide))
  have : (o2.1.2 9).toInt = (μ.2 9).toInt := congrArg Int32.toInt (h2.2.2.2.2 9 (by decide))
  have : (o2.1.2 10).toInt = (μ.2 10).toInt := congrArg Int32.toInt (h2.2.2.2.2 10 (by decide))
  try dsimp only at a0
  try dsimp only at a1
  try dsimp only at b0
  have : (-2147483648 : Int) ≤ (σ.2 1).toInt ∧ (σ.2 1).toInt ≤ 2147483647 := hC.2.1 1
  have : (0 : Int) ≤ (σ.2 2).toInt ∧ (σ.2 2).toInt ≤ 400 := hC.2.1 2
  have : (0 : Int) ≤ (σ.2 3).toInt ∧ (σ.2 3).toInt ≤ 8 := hC.2.1 3
  have : (0 : Int) ≤ (σ.2 4).toInt ∧ (σ.2 4).toInt ≤ 60 := hC.2.1 4
  have : (0 : Int) ≤ (σ.2 5).toInt ∧ (σ.2 5).toInt ≤ 4 := hC.2.1 5
  have : (0 : Int) ≤ (σ.2 7).toInt ∧ (σ.2 7).toInt ≤ 60 := hC.2.1 7
  have : (0 : Int) ≤ (σ.2 8).toInt ∧ (σ.2 8).toInt ≤ 60 := hC.2.1 8
  have NY := ht_days RY e1 e2
  exact ⟨o, o2, e1, e2, a0, ⟨⟨h1.1, h1.2.1, trivial⟩, ⟨h2.1, h2.2.1, h2.2.2.1, trivial⟩, ⟨(show (o.1.2 5).toInt = (o2.1.2 3).toInt by omega), (show (o.1.2 3).toInt = (o2.1.2 1).toInt by omega), (show (o.1.2 4).toInt = (o2.1.2 2).toInt by omega), (show (o.1.2 1).toInt = (o2.1.2 11).toInt by omega), (show (o.1.2 8).toInt = (o2.1.2 10).toInt by omega), (show (o.1.2 7).toInt = (o2.1.2 9).toInt by omega), (show (o.1.2 2).toInt = (o2.1.2 4).toInt by omega), NY⟩, by omega, by omega⟩⟩
theorem hp_agree : hz_I_agree hp_I := by
  intro n σ μ x1 hn hI
  obtain ⟨hC, hM, ⟨r0, r1, r2, r3, r4, r5, r6, RY⟩, t0, t1⟩ := hI
  have r0 : (σ.2 5).toInt = (μ.2 3).toInt := r0
  have r1 : (σ.2 3).toInt = (μ.2 1).toInt := r1
  have r2 : (σ.2 4).toInt = (μ.2 2).toInt := r2
  have r3 : (σ.2 1).toInt = (μ.2 11).toInt := r3
  have r4 : (σ.2 8).toInt = (μ.2 10).toInt := r4
  have r5 : (σ.2 7).toInt = (μ.2 9).toInt := r5
  have r6 : (σ.2 2).toInt = (μ.2 4).toInt := r6
  obtain ⟨o, e1, h1⟩ := s_fX9_agree (hs_ka (by decide)) (hs_ki (by decide)) σ x1 (P := fun τ v => hc_I (hs_k [22, 23, 24, 25, 26] [0, 1, 2, 3, 4, 5, 6, 7, 8] σ) τ) (⟨hC.1, hC.2.1, hs_k0⟩ : hc_I (hs_k [22, 23, 24, 25, 26] [0, 1, 2, 3, 4, 5, 6, 7, 8] σ) σ) (fun _ _ h => h)
  obtain ⟨o2, e2, h2⟩ := s_fX10_agree (hs_ka (by decide)) (hs_ki (by decide)) μ x1 (P := fun τ v => hm_I (hs_k [23, 24, 25, 26, 27] [1, 2, 3, 4, 5, 6, 7, 8, 9, 10, 11] μ) τ) (⟨hM.1, hM.2.1, hM.2.2.1, hs_k0⟩ : hm_I (hs_k [23, 24, 25, 26, 27] [1, 2, 3, 4, 5, 6, 7, 8, 9, 10, 11] μ) μ) (fun _ _ h => h)
  have : (o.1.2 1).toInt = (σ.2 1).toInt := congrArg Int32.toInt (h1.2.2.2 1 (by decide))
  have : (o.1.2 2).toInt = (σ.2 2).toInt := congrArg Int32.toInt (h1.2.2.2 2 (by decide))
  have : (o.1.2 3).toInt = (σ.2 3).toInt := congrArg Int32.toInt (h1.2.2.2 3 (by decide))
  have : (o.1.2 4).toInt = (σ.2 4).toInt := congrArg Int32.toInt (h1.2.2.2 4 (by decide))
  have : (o.1.2 5).toInt = (σ.2 5).toInt := congrArg Int32.toInt (h1.2.2.2 5 (by decide))
  have : (o.1.2 7).toInt = (σ.2 7).toInt := congrArg Int32.toInt (h1.2.2.2 7 (by decide))
  have : (o.1.2 8).toInt = (σ.2 8).toInt := congrArg Int32.toInt (h1.2.2.2 8 (by decide))
  have : (o2.1.2 1).toInt = (μ.2 1).toInt := congrArg Int32.toInt (h2.2.2.2.2 1 (by decide))
  have : (o2.1.2 2).toInt = (μ.2 2).toInt := congrArg Int32.toInt (h2.2.2.2.2 2 (by decide))
  have : (o2.1.2 3).toInt = (μ.2 3).toInt := congrArg Int32.toInt (h2.2.2.2.2 3 (by decide))
  have : (o2.1.2 4).toInt = (μ.2 4).toInt := congrArg Int32.toInt (h2.2.2.2.2 4 (by decide))
  have : (o2.1.2 9).toInt = (μ.2 9).toInt := congrArg Int32.toInt (h2.2.2.2.2 9 (by decide))
  have : (o2.1.2 10).toInt = (μ.2 10).toInt := congrArg Int32.toInt (h2.2.2.2.2 10 (by decide))
  have : (o2.1.2 11).toInt = (μ.2 11).toInt := congrArg Int32.toInt (h2.2.2.2.2 11 (by decide))
  have : (-2147483648 : Int) ≤ (σ.2 1).toInt ∧ (σ.2 1).toInt ≤ 2147483647 := hC.2.1 1
  have : (0 : Int) ≤ (σ.2 2).toInt ∧ (σ.2 2).toInt ≤ 400 := hC.2.1 2
  have : (0 : Int) ≤ (σ.2 3).toInt ∧ (σ.2 3).toInt ≤ 8 := hC.2.1 3
  have : (0 : Int) ≤ (σ.2 4).toInt ∧ (σ.2 4).toInt ≤ 60 := hC.2.1 4
  have : (0 : Int) ≤ (σ.2 5).toInt ∧ (σ.2 5).toInt ≤ 4 := hC.2.1 5
  have : (0 : Int) ≤ (σ.2 7).toInt ∧ (σ.2 7).toInt ≤ 60 := hC.2.1 7
  have : (0 : Int) ≤ (σ.2 8).toInt ∧ (σ.2 8).toInt ≤ 60 := hC.2.1 8
  exact ⟨o, o2, e1, e2, ⟨⟨h1.1, h1.2.1, trivial⟩, ⟨h2.1, h2.2.1, h2.2.2.1, trivial⟩, ⟨(show (o.1.2 5).toInt = (o2.1.2 3).toInt by omega), (show (o.1.2 3).toInt = (o2.1.2 1).toInt by omega), (show (o.1.2 4).toInt = (o2.1.2 2).toInt by omega), (show (o.1.2 1).toInt = (o2.1.2 11).toInt by omega), (show (o.1.2 8).toInt = (o2.1.2 10).toInt by omega), (show (o.1.2 7).toInt = (o2.1.2 9).toInt by omega), (show (o.1.2 2).toInt = (o2.1.2 4).toInt by omega), (ht_keep (fun j hj => h1.2.2.1 j (hs_inc (by decide) hj)) (fun j hj => h1.2.2.2 j (hs_inc (by decide) hj)) (fun j hj => h2.2.2.2.1 j (hs_inc (by decide) hj)) (fun j hj => h2.2.2.2.2 j (hs_inc (by decide) hj)) RY)⟩, by omega, by omega⟩⟩
theorem hp_span : hz_I_span hp_I := by
  intro n σ μ x1 x2 x3 hn hI
  obtain ⟨hC, hM, ⟨r0, r1, r2, r3, r4, r5, r6, RY⟩, t0, t1⟩ := hI
  have r0 : (σ.2 5).toInt = (μ.2 3).toInt := r0
  have r1 : (σ.2 3).toInt = (μ.2 1).toInt := r1
  have r2 : (σ.2 4).toInt = (μ.2 2).toInt := r2
  have r3 : (σ.2 1).toInt = (μ.2 11).toInt := r3
  have r4 : (σ.2 8).toInt = (μ.2 10).toInt := r4
  have r5 : (σ.2 7).toInt = (μ.2 9).toInt := r5
  have r6 : (σ.2 2).toInt = (μ.2 4).toInt := r6
  obtain ⟨o, e1, h1⟩ := s_fX9_span (hs_ka (by decide)) (hs_ki (by decide)) σ x1 (if x2 = 0 then 0 else 1) x3 (Q := fun o => hc_I (hs_k [22, 23, 24, 25, 26] [0, 1, 2, 3, 4, 5, 6, 7, 8] σ) o.1 ∧ (o.2.2 = 0 ∨ o.2.2 = 1 ∨ o.2.2 = 4)) (⟨hC.1, hC.2.1, hs_k0⟩ : hc_I (hs_k [22, 23, 24, 25, 26] [0, 1, 2, 3, 4, 5, 6, 7, 8] σ) σ) (fun _ _ _ h c  => ⟨h, c⟩)
  obtain ⟨o2, e2, h2⟩ := s_fX10_span (hs_ka (by decide)) (hs_ki (by decide)) μ x1 (if x2 = 0 then 0 else 1) x3 (P := fun τ v => hm_I (hs_k [23, 24, 25, 26, 27] [1, 2, 3, 4, 5, 6, 7, 8, 9, 10, 11] μ) τ) (⟨hM.1, hM.2.1, hM.2.2.1, hs_k0⟩ : hm_I (hs_k [23, 24, 25, 26, 27] [1, 2, 3, 4, 5, 6, 7, 8, 9, 10, 11] μ) μ) (fun _ _ h => h)
  obtain ⟨h1, a0⟩ := h1
  have : (o.1.2 1).toInt = (σ.2 1).toInt := congrArg Int32.toInt (h1.2.2.2 1 (by decide))
  have : (o.1.2 2).toInt = (σ.2 2).toInt := congrArg Int32.toInt (h1.2.2.2 2 (by decide))
  have : (o.1.2 3).toInt = (σ.2 3).toInt := congrArg Int32.toInt (h1.2.2.2 3 (by decide))
  have : (o.1.2 4).toInt = (σ.2 4).toInt := congrArg Int32.toInt (h1.2.2.2 4 (by decide))
  have : (o.1.2 5).toInt = (σ.2 5).toInt := congrArg Int32.toInt (h1.2.2.2 5 (by decide))
  have : (o.1.2 7).toInt = (σ.2 7).toInt := congrArg Int32.toInt (h1.2.2.2 7 (by decide))
  have : (o.1.2 8).toInt = (σ.2 8).toInt := congrArg Int32.toInt (h1.2.2.2 8 (by decide))
  have : (o2.1.2 1).toInt = (μ.2 1).toInt := congrArg Int32.toInt (h2.2.2.2.2 1 (by decide))
  have : (o2.1.2 2).toInt = (μ.2 2).toInt := congrArg Int32.toInt (h2.2.2.2.2 2 (by decide))
  have : (o2.1.2 3).toInt = (μ.2 3).toInt := congrArg Int32.toInt (h2.2.2.2.2 3 (by decide))
  have : (o2.1.2 4).toInt = (μ.2 4).toInt := congrArg Int32.toInt (h2.2.2.2.2 4 (by decide))
  have : (o2.1.2 9).toInt = (μ.2 9).toInt := congrArg Int32.toInt (h2.2.2.2.2 9 (by decide))
  have : (o2.1.2 10).toInt = (μ.2 10).toInt := congrArg Int32.toInt (h2.2.2.2.2 10 (by decide))
  have : (o2.1.2 11).toInt = (μ.2 11).toInt := congrArg Int32.toInt (h2.2.2.2.2 11 (by decide))
  try dsimp only at a0
  have : (-2147483648 : Int) ≤ (σ.2 1).toInt ∧ (σ.2 1).toInt ≤ 2147483647 := hC.2.1 1
  have : (0 : Int) ≤ (σ.2 2).toInt ∧ (σ.2 2).toInt ≤ 400 := hC.2.1 2
  have : (0 : Int) ≤ (σ.2 3).toInt ∧ (σ.2 3).toInt ≤ 8 := hC.2.1 3
  have : (0 : Int) ≤ (σ.2 4).toInt ∧ (σ.2 4).toInt ≤ 60 := hC.2.1 4
  have : (0 : Int) ≤ (σ.2 5).toInt ∧ (σ.2 5).toInt ≤ 4 := hC.2.1 5
  have : (0 : Int) ≤ (σ.2 7).toInt ∧ (σ.2 7).toInt ≤ 60 := hC.2.1 7
  have : (0 : Int) ≤ (σ.2 8).toInt ∧ (σ.2 8).toInt ≤ 60 := hC.2.1 8
  have NY := hg_span hC RY e1 e2
  exact ⟨o, o2, (o2.1, o2.1.2 0), e1, e2, rfl, NY.1, NY.2, ⟨⟨h1.1, h1.2.1, trivial⟩, ⟨h2.1, h2.2.1, h2.2.2.1, trivial⟩, ⟨(show (o.1.2 5).toInt = (o2.1.2 3).toInt by omega), (show (o.1.2 3).toInt = (o2.1.2 1).toInt by omega), (show (o.1.2 4).toInt = (o2.1.2 2).toInt by omega), (show (o.1.2 1).toInt = (o2.1.2 11).toInt by omega), (show (o.1.2 8).toInt = (o2.1.2 10).toInt by omega), (show (o.1.2 7).toInt = (o2.1.2 9).toInt by omega), (show (o.1.2 2).toInt = (o2.1.2 4).toInt by omega), (ht_keep (fun j hj => h1.2.2.1 j (hs_inc (by decide) hj)) (fun j hj => h1.2.2.2 j (hs_inc (by decide) hj)) (fun j hj => h2.2.2.2.1 j (hs_inc (by decide) hj)) (fun j hj => h2.2.2.2.2 j (hs_inc (by decide) hj)) RY)⟩, by omega, by omega⟩⟩
theorem hp_quarrel : hz_I_quarrel hp_I := by
  intro n σ μ x1 hn hI
  obtain ⟨hC, hM, ⟨r0, r1, r2, r3, r4, r5, r6, RY⟩, t0, t1⟩ := hI
  have r0 : (σ.2 5).toInt = (μ.2 3).toInt := r0
  have r1 : (σ.2 3).toInt = (μ.2 1).toInt := r1
  have r2 : (σ.2 4).toInt = (μ.2 2).toInt := r2
  have r3 : (σ.2 1).toInt = (μ.2 11).toInt := r3
  have r4 : (σ.2 8).toInt = (μ.2 10).toInt := r4
  have r5 : (σ.2 7).toInt = (μ.2 9).toInt := r5
  have r6 : (σ.2 2).toInt = (μ.2 4).toInt := r6
  obtain ⟨o, e1, h1⟩ := s_fX9_quarrel (hs_ka (by decide)) (hs_ki (by decide)) σ x1 (P := fun τ v => hc_I (hs_k [22, 23, 24, 25, 26] [0, 1, 2, 3, 4, 5, 6, 7, 8] σ) τ) (⟨hC.1, hC.2.1, hs_k0⟩ : hc_I (hs_k [22, 23, 24, 25, 26] [0, 1, 2, 3, 4, 5, 6, 7, 8] σ) σ) (fun _ _ h => h)
  obtain ⟨o2, e2, h2⟩ := s_fX10_quarrel (hs_ka (by decide)) (hs_ki (by decide)) μ x1 (P := fun τ v => hm_I (hs_k [23, 24, 25, 26, 27] [1, 2, 3, 4, 5, 6, 7, 8, 9, 10, 11] μ) τ) (⟨hM.1, hM.2.1, hM.2.2.1, hs_k0⟩ : hm_I (hs_k [23, 24, 25, 26, 27] [1, 2, 3, 4, 5, 6, 7, 8, 9, 10, 11] μ) μ) (fun _ _ h => h)
  have : (o.1.2 1).toInt = (σ.2 1).toInt := congrArg Int32.toInt (h1.2.2.2 1 (by decide))
  have : (o.1.2 2).toInt = (σ.2 2).toInt := congrArg Int32.toInt (h1.2.2.2 2 (by decide))
  have : (o.1.2 3).toInt = (σ.2 3).toInt := congrArg Int32.toInt (h1.2.2.2 3 (by decide))
  have : (o.1.2 4).toInt = (σ.2 4).toInt := congrArg Int32.toInt (h1.2.2.2 4 (by decide))
  have : (o.1.2 5).toInt = (σ.2 5).toInt := congrArg Int32.toInt (h1.2.2.2 5 (by decide))
  have : (o.1.2 7).toInt = (σ.2 7).toInt := congrArg Int32.toInt (h1.2.2.2 7 (by decide))
  have : (o.1.2 8).toInt = (σ.2 8).toInt := congrArg Int32.toInt (h1.2.2.2 8 (by decide))
  have : (o2.1.2 1).toInt = (μ.2 1).toInt := congrArg Int32.toInt (h2.2.2.2.2 1 (by decide))
  have : (o2.1.2 2).toInt = (μ.2 2).toInt := congrArg Int32.toInt (h2.2.2.2.2 2 (by decide))
  have : (o2.1.2 3).toInt = (μ.2 3).toInt := congrArg Int32.toInt (h2.2.2.2.2 3 (by decide))
  have : (o2.1.2 4).toInt = (μ.2 4).toInt := congrArg Int32.toInt (h2.2.2.2.2 4 (by decide))
  have : (o2.1.2 9).toInt = (μ.2 9).toInt := congrArg Int32.toInt (h2.2.2.2.2 9 (by decide))
  have : (o2.1.2 10).toInt = (μ.2 10).toInt := congrArg Int32.toInt (h2.2.2.2.2 10 (by decide))
  have : (o2.1.2 11).toInt = (μ.2 11).toInt := congrArg Int32.toInt (h2.2.2.2.2 11 (by decide))
  have : (-2147483648 : Int) ≤ (σ.2 1).toInt ∧ (σ.2 1).toInt ≤ 2147483647 := hC.2.1 1
  have : (0 : Int) ≤ (σ.2 2).toInt ∧ (σ.2 2).toInt ≤ 400 := hC.2.1 2
  have : (0 : Int) ≤ (σ.2 3).toInt ∧ (σ.2 3).toInt ≤ 8 := hC.2.1 3
  have : (0 : Int) ≤ (σ.2 4).toInt ∧ (σ.2 4).toInt ≤ 60 := hC.2.1 4
  have : (0 : Int) ≤ (σ.2 5).toInt ∧ (σ.2 5).toInt ≤ 4 := hC.2.1 5
  have : (0 : Int) ≤ (σ.2 7).toInt ∧ (σ.2 7).toInt ≤ 60 := hC.2.1 7
  have : (0 : Int) ≤ (σ.2 8).toInt ∧ (σ.2 8).toInt ≤ 60 := hC.2.1 8
  exact ⟨o, o2, e1, e2, ⟨⟨h1.1, h1.2.1, trivial⟩, ⟨h2.1, h2.2.1, h2.2.2.1, trivial⟩, ⟨(show (o.1.2 5).toInt = (o2.1.2 3).toInt by omega), (show (o.1.2 3).toInt = (o2.1.2 1).toInt by omega), (show (o.1.2 4).toInt = (o2.1.2 2).toInt by omega), (show (o.1.2 1).toInt = (o2.1.2 11).toInt by omega), (show (o.1.2 8).toInt = (o2.1.2 10).toInt by omega), (show (o.1.2 7).toInt = (o2.1.2 9).toInt by omega), (show (o.1.2 2).toInt = (o2.1.2 4).toInt by omega), (ht_keep (fun j hj => h1.2.2.1 j (hs_inc (by decide) hj)) (fun j hj => h1.2.2.2 j (hs_inc (by decide) hj)) (fun j hj => h2.2.2.2.1 j (hs_inc (by decide) hj)) (fun j hj => h2.2.2.2.2 j (hs_inc (by decide) hj)) RY)⟩, by omega, by omega⟩⟩
theorem hp_count : hz_I_count hp_I := by
  intro n σ μ x1 hn hI
  obtain ⟨hC, hM, ⟨r0, r1, r2, r3, r4, r5, r6, RY⟩, t0, t1⟩ := hI
  have r0 : (σ.2 5).toInt = (μ.2 3).toInt := r0
  have r1 : (σ.2 3).toInt = (μ.2 1).toInt := r1
  have r2 : (σ.2 4).toInt = (μ.2 2).toInt := r2
  have r3 : (σ.2 1).toInt = (μ.2 11).toInt := r3
  have r4 : (σ.2 8).toInt = (μ.2 10).toInt := r4
  have r5 : (σ.2 7).toInt = (μ.2 9).toInt := r5
  have r6 : (σ.2 2).toInt = (μ.2 4).toInt := r6
  obtain ⟨o, e1, h1⟩ := s_fX9_count (hs_ka (by decide)) (hs_ki (by decide)) σ x1 (P := fun τ v => hc_I (hs_k [22, 23, 24, 25, 26] [0, 1, 2, 3, 4, 5, 6, 7, 8, 9] σ) τ) (⟨hC.1, hC.2.1, hs_k0⟩ : hc_I (hs_k [22, 23, 24, 25, 26] [0, 1, 2, 3, 4, 5, 6, 7, 8, 9] σ) σ) (fun _ _ h => h)
  obtain ⟨o2, e2, h2⟩ := s_fX10_count (hs_ka (by decide)) (hs_ki (by decide)) μ x1 (P := fun τ v => hm_I (hs_k [23, 24, 25, 26, 27] [1, 2, 3, 4, 5, 6, 7, 8, 9, 10, 11] μ) τ) (⟨hM.1, hM.2.1, hM.2.2.1, hs_k0⟩ : hm_I (hs_k [23, 24, 25, 26, 27] [1, 2, 3, 4, 5, 6, 7, 8, 9, 10, 11] μ) μ) (fun _ _ h => h)
  have : (o.1.2 1).toInt = (σ.2 1).toInt := congrArg Int32.toInt (h1.2.2.2 1 (by decide))
  have : (o.1.2 2).toInt = (σ.2 2).toInt := congrArg Int32.toInt (h1.2.2.2 2 (by decide))
  have : (o.1.2 3).toInt = (σ.2 3).toInt := congrArg Int32.toInt (h1.2.2.2 3 (by decide))
  have : (o.1.2 4).toInt = (σ.2 4).toInt := congrArg Int32.toInt (h1.2.2.2 4 (by decide))
  have : (o.1.2 5).toInt = (σ.2 5).toInt := congrArg Int32.toInt (h1.2.2.2 5 (by decide))
  have : (o.1.2 7).toInt = (σ.2 7).toInt := congrArg Int32.toInt (h1.2.2.2 7 (by decide))
  have : (o.1.2 8).toInt = (σ.2 8).toInt := congrArg Int32.toInt (h1.2.2.2 8 (by decide))
  have : (o2.1.2 1).toInt = (μ.2 1).toInt := congrArg Int32.toInt (h2.2.2.2.2 1 (by decide))
  have : (o2.1.2 2).toInt = (μ.2 2).toInt := congrArg Int32.toInt (h2.2.2.2.2 2 (by decide))
  have : (o2.1.2 3).toInt = (μ.2 3).toInt := congrArg Int32.toInt (h2.2.2.2.2 3 (by decide))
  have : (o2.1.2 4).toInt = (μ.2 4).toInt := congrArg Int32.toInt (h2.2.2.2.2 4 (by decide))
  have : (o2.1.2 9).toInt = (μ.2 9).toInt := congrArg Int32.toInt (h2.2.2.2.2 9 (by decide))
  have : (o2.1.2 10).toInt = (μ.2 10).toInt := congrArg Int32.toInt (h2.2.2.2.2 10 (by decide))
  have : (o2.1.2 11).toInt = (μ.2 11).toInt := congrArg Int32.toInt (h2.2.2.2.2 11 (by decide))
  have : (-2147483648 : Int) ≤ (σ.2 1).toInt ∧ (σ.2 1).toInt ≤ 2147483647 := hC.2.1 1
  have : (0 : Int) ≤ (σ.2 2).toInt ∧ (σ.2 2).toInt ≤ 400 := hC.2.1 2
  have : (0 : Int) ≤ (σ.2 3).toInt ∧ (σ.2 3).toInt ≤ 8 := hC.2.1 3
  have : (0 : Int) ≤ (σ.2 4).toInt ∧ (σ.2 4).toInt ≤ 60 := hC.2.1 4
  have : (0 : Int) ≤ (σ.2 5).toInt ∧ (σ.2 5).toInt ≤ 4 := hC.2.1 5
  have : (0 : Int) ≤ (σ.2 7).toInt ∧ (σ.2 7).toInt ≤ 60 := hC.2.1 7
  have : (0 : Int) ≤ (σ.2 8).toInt ∧ (σ.2 8).toInt ≤ 60 := hC.2.1 8
  exact ⟨o, o2, e1, e2, ⟨⟨h1.1, h1.2.1, trivial⟩, ⟨h2.1, h2.2.1, h2.2.2.1, trivial⟩, ⟨(show (o.1.2 5).toInt = (o2.1.2 3).toInt by omega), (show (o.1.2 3).toInt = (o2.1.2 1).toInt by omega), (show (o.1.2 4).toInt = (o2.1.2 2).toInt by omega), (show (o.1.2 1).toInt = (o2.1.2 11).toInt by omega), (show (o.1.2 8).toInt = (o2.1.2 10).toInt by omega), (show (o.1.2 7).toInt = (o2.1.2 9).toInt by omega), (show (o.1.2 2).toInt = (o2.1.2 4).toInt by omega), (ht_keep (fun j hj => h1.2.2.1 j (hs_inc (by decide) hj)) (fun j hj => h1.2.2.2 j (hs_inc (by decide) hj)) (fun j hj => h2.2.2.2.1 j (hs_inc (by decide) hj)) (fun j hj => h2.2.2.2.2 j (hs_inc (by decide) hj)) RY)⟩, by omega, by omega⟩⟩
theorem hp_all : hz_all hp_I := ⟨hp_0, fun n σ μ hn h => ⟨h.1, h.2.1, h.2.2.1, h.2.2.2.1, by have := h.2.2.2.2; omega⟩, hp_feed, hp_end, hp_kind, hp_fire, hp_fill, hp_ship, hp_load, hp_land, hp_storm, hp_look, hp_stack, hp_tallest, hp_rate, hp_check, hp_fault, hp_notes, hp_sherd, hp_join, hp_vessels, hp_vessel, hp_tell, hp_bound, hp_undo, hp_days, hp_agree, hp_span, hp_quarrel, hp_count⟩
