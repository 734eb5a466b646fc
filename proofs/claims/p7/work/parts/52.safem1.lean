theorem s_fX10_look_172 {R : hy_S → Prop} {Q : hy_S × Int32 → Prop} : ∀ (n : Nat) (σ : hy_S) (x1 x3 : Int32), hm_I R σ → 0 ≤ x1.toInt → x1.toInt < (σ.2 2).toInt → 0 ≤ (σ.1 8 x1.toNatClampNeg).toInt → 0 ≤ x3.toInt → x3.toInt ≤ 9 → (∀ q : Nat, (q : Int) < x3.toInt → ¬ (σ.1 9 (10 * (σ.1 8 x1.toNatClampNeg).toNatClampNeg + q)).toInt = x1.toInt) → 10 - x3.toInt < (n : Int) → (∀ v9 : Int32, Q (σ, v9)) → hs_ok (fX10_look_172 n σ x1 x3) Q := by
  intro n
  induction n with
  | zero =>
    intro σ x1 x3 I p0 p1 p2 p3 p4 hq hm hQ
    exact absurd hm (by omega)
  | succ n ih =>
    intro σ x1 x3 I p0 p1 p2 p3 p4 hq hm hQ
    have hj : (0 : Int) ≤ (σ.2 2).toInt ∧ (σ.2 2).toInt ≤ 60 := I.2.1 2
    have hn := hs_tn p0
    obtain ⟨k, hk1, hk2⟩ := I.2.2.1 x1.toNatClampNeg (by omega) p2
    have b10 := hm_b10 I (σ.1 8 x1.toNatClampNeg).toNatClampNeg
    have hk3 : x3.toInt ≤ (k : Int) := by
      by_cases c : (k : Int) < x3.toInt
      · exact absurd (by rw [hk2]; exact hn) (hq k c)
      · omega
    have h8 := hm_b8 I x1.toNatClampNeg
    unfold fX10_look_172
    refine hs_ga (j := 8) I (by omega) (by omega) (fun v1 e1 (b1 : (-1 : Int) ≤ v1.toInt ∧ v1.toInt ≤ 23) => ?_)
    have p2' : 0 ≤ v1.toInt := by rw [e1]; exact p2
    have n1 := hs_tn p2'
    have f2 : (10 * v1).toInt = 10 * v1.toInt := hs_mull 10 rfl (by omega) (by omega)
    have f3 : (10 * v1 + x3).toInt = 10 * v1.toInt + x3.toInt := by rw [hs_add (by rw [f2]; omega) (by rw [f2]; omega), f2]
    have n3 : ((10 * v1 + x3).toNatClampNeg : Int) = 10 * v1.toInt + x3.toInt := by rw [hs_tn (by rw [f3]; omega), f3]
    have nx := hs_tn p3
    refine hs_ga (j := 9) I (by rw [f3]; omega) (by rw [f3]; omega) (fun v4 e4 (b4 : (0 : Int) ≤ v4.toInt ∧ v4.toInt ≤ 59) => ?_)
    have en : (10 * v1 + x3).toNatClampNeg = 10 * (σ.1 8 x1.toNatClampNeg).toNatClampNeg + x3.toNatClampNeg := by
      rw [← e1]
      omega
    refine hs_ite (fun h => ?_) (fun h => ?_)
    · refine hs_ga (j := 8) I (by omega) (by omega) (fun v8 e8 (b8 : (-1 : Int) ≤ v8.toInt ∧ v8.toInt ≤ 23) => ?_)
      have p8 : 0 ≤ v8.toInt := by rw [e8]; exact p2
      refine hs_bd (s_fX10_above σ v8 x3 I p8 (by omega) p3 p4 (fun v12 => ?_))
      exact hs_some (hQ v12)
    · have h4 : ¬ v4.toInt = x1.toInt := fun z => h (Int32.toInt_inj.mp z)
      have g1 : (x3 + 1).toInt = x3.toInt + 1 := hs_addk 1 rfl (by omega) (by omega)
      have hne : ¬ (k : Int) = x3.toInt := by
        intro z
        have ek : k = x3.toNatClampNeg := by omega
        rw [ek, ← en, ← e4] at hk2
        omega
      refine ih σ x1 (x3 + 1) I p0 p1 p2 (by rw [g1]; omega) (by rw [g1]; omega) (fun q hq2 => ?_) (by rw [g1]; omega) hQ
      rw [g1] at hq2
      by_cases c : (q : Int) < x3.toInt
      · exact hq q c
      · have eq : q = x3.toNatClampNeg := by omega
        rw [eq, ← en, ← e4]
        exact h4
theorem s_fX10_look {R : hy_S → Prop} (ra : ∀ j, j ∈ ([] : List Nat) → ∀ (τ : hy_S) (g : Nat → Int32), R τ → R (hy_sc τ j g)) (ri : ∀ j, j ∈ ([0] : List Nat) → ∀ (τ : hy_S) (v : Int32), R τ → R (hy_si τ j v)) (σ : hy_S) (x1 : Int32) (x2 : Int32) {P : hy_S → Int32 → Prop} (I : hm_I R σ) (hQ : ∀ (σ9 : hy_S) (v9 : Int32), hm_I R σ9 → P σ9 v9) : hs_ok2 (fX10_look σ x1 x2) P := by
  unfold fX10_look
  show hs_ok _ _
  have : (-2147483648 : Int) ≤ (σ.2 0).toInt ∧ (σ.2 0).toInt ≤ 2147483647 := I.2.1 0
  have : (0 : Int) ≤ (σ.2 2).toInt ∧ (σ.2 2).toInt ≤ 60 := I.2.1 2
  refine hs_pf (v := 0) I (hs_any _) (fun r => ⟨hm_Ri (by decide) r.1, ri 0 (by decide) _ _ r.2⟩) (fun σ1_1 eσ1_1 Iσ1_1 => ?_)
  have : (σ1_1.2 0).toInt = (0) := by rw [eσ1_1]; rfl
  have : (σ1_1.2 2).toInt = (σ.2 2).toInt := by rw [eσ1_1]; rfl
  have : (-2147483648 : Int) ≤ (σ1_1.2 0).toInt ∧ (σ1_1.2 0).toInt ≤ 2147483647 := Iσ1_1.2.1 0
  have : (0 : Int) ≤ (σ1_1.2 2).toInt ∧ (σ1_1.2 2).toInt ≤ 60 := Iσ1_1.2.1 2
  refine hs_bd (s_fX10_noJar σ1_1 x1 Iσ1_1  (fun v4_2 (gv4_2_0 : 0 ≤ v4_2.toInt) (gv4_2_1 : v4_2.toInt ≤ 1) (gv4_2_2 : v4_2.toInt = 1 ∨ (0 ≤ (x1 : Int32).toInt ∧ (x1 : Int32).toInt < (σ1_1.2 2).toInt)) => ?_))
  refine hs_bd (s_fX10_throwsIf (fun j h => ra j (hs_inc (by decide) h)) (fun j h => ri j (hs_inc (by decide) h)) σ1_1 v4_2 (1 : Int32) Iσ1_1 (show 0 ≤ (v4_2 : Int32).toInt by omega) (show (v4_2 : Int32).toInt ≤ 1 by omega) (fun σ6_4 v7_3 Iσ6_4 (gv7_3_0 : v7_3.toInt = (v4_2 : Int32).toInt) (gv7_3_1 : (σ6_4.2 1).toInt = (σ1_1.2 1).toInt) (gv7_3_2 : (σ6_4.2 2).toInt = (σ1_1.2 2).toInt) (gv7_3_3 : (σ6_4.2 3).toInt = (σ1_1.2 3).toInt) (gv7_3_4 : (σ6_4.2 4).toInt = (σ1_1.2 4).toInt) (gv7_3_5 : (σ6_4.2 5).toInt = (σ1_1.2 5).toInt) (gv7_3_6 : (σ6_4.2 6).toInt = (σ1_1.2 6).toInt) (gv7_3_7 : (σ6_4.2 7).toInt = (σ1_1.2 7).toInt) (gv7_3_8 : (σ6_4.2 8).toInt = (σ1_1.2 8).toInt) (gv7_3_9 : (σ6_4.2 9).toInt = (σ1_1.2 9).toInt) (gv7_3_10 : (σ6_4.2 10).toInt = (σ1_1.2 10).toInt) (gv7_3_11 : (σ6_4.2 11).toInt = (σ1_1.2 11).toInt) (gv7_3_12 : ((v4_2 : Int32).toInt = 0 ∧ (σ6_4.2 0).toInt = (σ1_1.2 0).toInt) ∨ ((v4_2 : Int32).toInt = 1 ∧ (σ6_4.2 0).toInt = (1))) => ?_))
  have : (-2147483648 : Int) ≤ (σ6_4.2 0).toInt ∧ (σ6_4.2 0).toInt ≤ 2147483647 := Iσ6_4.2.1 0
  have : (0 : Int) ≤ (σ6_4.2 2).toInt ∧ (σ6_4.2 2).toInt ≤ 60 := Iσ6_4.2.1 2
  refine hs_ite (fun h_5 => ?_) (fun h_5 => ?_)
  · have : (v7_3 : Int32).toInt = (0) := congrArg Int32.toInt h_5
    refine hs_ite (fun h_6 => ?_) (fun h_6 => ?_)
    · have : (x2 : Int32).toInt = (0) := congrArg Int32.toInt h_6
      refine hs_ga (j := 7) Iσ6_4 (by omega) (by omega) (fun v11_7 ev11_7 (bv11_7 : (-2147483648 : Int) ≤ v11_7.toInt ∧ v11_7.toInt ≤ 2147483647) => ?_)
      exact hs_some (hQ σ6_4 (v11_7 : Int32) Iσ6_4 )
    · have : ¬ (x2 : Int32).toInt = (0) := fun z => h_6 (Int32.toInt_inj.mp z)
      refine hs_ite (fun h_8 => ?_) (fun h_8 => ?_)
      · have : (x2 : Int32).toInt = (1) := congrArg Int32.toInt h_8
        refine hs_ga (j := 3) Iσ6_4 (by omega) (by omega) (fun v15_9 ev15_9 (bv15_9 : (0 : Int) ≤ v15_9.toInt ∧ v15_9.toInt ≤ 7) => ?_)
        exact hs_some (hQ σ6_4 (v15_9 : Int32) Iσ6_4 )
      · have : ¬ (x2 : Int32).toInt = (1) := fun z => h_8 (Int32.toInt_inj.mp z)
        refine hs_ite (fun h_10 => ?_) (fun h_10 => ?_)
        · have : (x2 : Int32).toInt = (2) := congrArg Int32.toInt h_10
          refine hs_ga (j := 4) Iσ6_4 (by omega) (by omega) (fun v19_11 ev19_11 (bv19_11 : (-2147483648 : Int) ≤ v19_11.toInt ∧ v19_11.toInt ≤ 2147483647) => ?_)
          exact hs_some (hQ σ6_4 (v19_11 : Int32) Iσ6_4 )
        · have : ¬ (x2 : Int32).toInt = (2) := fun z => h_10 (Int32.toInt_inj.mp z)
          refine hs_ite (fun h_12 => ?_) (fun h_12 => ?_)
          · have : (x2 : Int32).toInt = (3) := congrArg Int32.toInt h_12
            refine hs_ga (j := 5) Iσ6_4 (by omega) (by omega) (fun v23_13 ev23_13 (bv23_13 : (-2147483648 : Int) ≤ v23_13.toInt ∧ v23_13.toInt ≤ 2147483647) => ?_)
            exact hs_some (hQ σ6_4 (v23_13 : Int32) Iσ6_4 )
          · have : ¬ (x2 : Int32).toInt = (3) := fun z => h_12 (Int32.toInt_inj.mp z)
            refine hs_ite (fun h_14 => ?_) (fun h_14 => ?_)
            · have : (x2 : Int32).toInt = (4) := congrArg Int32.toInt h_14
              refine hs_ga (j := 6) Iσ6_4 (by omega) (by omega) (fun v27_15 ev27_15 (bv27_15 : (-2147483648 : Int) ≤ v27_15.toInt ∧ v27_15.toInt ≤ 2147483647) => ?_)
              exact hs_some (hQ σ6_4 (v27_15 : Int32) Iσ6_4 )
            · have : ¬ (x2 : Int32).toInt = (4) := fun z => h_14 (Int32.toInt_inj.mp z)
              refine hs_ite (fun h_16 => ?_) (fun h_16 => ?_)
              · have : (x2 : Int32).toInt = (5) := congrArg Int32.toInt h_16
                refine hs_bd (s_fX10_weight σ6_4 x1 Iσ6_4 (show 0 ≤ (x1 : Int32).toInt by omega) (show (x1 : Int32).toInt < 60 by omega) (fun v32_17  => ?_))
                exact hs_some (hQ σ6_4 (v32_17 : Int32) Iσ6_4 )
              · have : ¬ (x2 : Int32).toInt = (5) := fun z => h_16 (Int32.toInt_inj.mp z)
                refine hs_ite (fun h_18 => ?_) (fun h_18 => ?_)
                · have : (x2 : Int32).toInt = (6) := congrArg Int32.toInt h_18
                  refine hs_ga (j := 8) Iσ6_4 (by omega) (by omega) (fun v35_19 ev35_19 (bv35_19 : (-1 : Int) ≤ v35_19.toInt ∧ v35_19.toInt ≤ 23) => ?_)
                  have : (σ6_4.1 8 (x1 : Int32).toNatClampNeg).toInt = v35_19.toInt := by rw [ev35_19]
                  refine hs_ite (fun h_20 => ?_) (fun h_20 => ?_)
                  · have : (0) ≤ (v35_19 : Int32).toInt := Int32.le_iff_toInt_le.mp h_20
                    refine hs_ga (j := 8) Iσ6_4 (by omega) (by omega) (fun v39_21 ev39_21 (bv39_21 : (-1 : Int) ≤ v39_21.toInt ∧ v39_21.toInt ≤ 23) => ?_)
                    have : (σ6_4.1 8 (x1 : Int32).toNatClampNeg).toInt = v39_21.toInt := by rw [ev39_21]
                    obtain ⟨e_22, he_22⟩ : ∃ e9 : Int32, e9 = (v39_21 / 6) := ⟨_, rfl⟩
                    try have : e_22.toInt = (v39_21 : Int32).toInt / (6) := by rw [he_22]; exact hs_div (6) rfl (by omega) (by omega)
                    try rw [← he_22]
                    exact hs_some (hQ σ6_4 (e_22 : Int32) Iσ6_4 )
                  · have : ¬ (0) ≤ (v35_19 : Int32).toInt := fun z => h_20 (Int32.le_iff_toInt_le.mpr z)
                    exact hs_some (hQ σ6_4 ((-1) : Int32) Iσ6_4 )
                · have : ¬ (x2 : Int32).toInt = (6) := fun z => h_18 (Int32.toInt_inj.mp z)
                  refine hs_ite (fun h_23 => ?_) (fun h_23 => ?_)
                  · have : (x2 : Int32).toInt = (7) := congrArg Int32.toInt h_23
                    refine hs_ga (j := 8) Iσ6_4 (by omega) (by omega) (fun v43_24 ev43_24 (bv43_24 : (-1 : Int) ≤ v43_24.toInt ∧ v43_24.toInt ≤ 23) => ?_)
                    have : (σ6_4.1 8 (x1 : Int32).toNatClampNeg).toInt = v43_24.toInt := by rw [ev43_24]
                    refine hs_ite (fun h_25 => ?_) (fun h_25 => ?_)
                    · have : (0) ≤ (v43_24 : Int32).toInt := Int32.le_iff_toInt_le.mp h_25
                      refine hs_ga (j := 8) Iσ6_4 (by omega) (by omega) (fun v47_26 ev47_26 (bv47_26 : (-1 : Int) ≤ v47_26.toInt ∧ v47_26.toInt ≤ 23) => ?_)
                      have : (σ6_4.1 8 (x1 : Int32).toNatClampNeg).toInt = v47_26.toInt := by rw [ev47_26]
                      obtain ⟨e_27, he_27⟩ : ∃ e9 : Int32, e9 = (v47_26 / 6) := ⟨_, rfl⟩
                      try have : e_27.toInt = (v47_26 : Int32).toInt / (6) := by rw [he_27]; exact hs_div (6) rfl (by omega) (by omega)
                      try rw [← he_27]
                      obtain ⟨e_28, he_28⟩ : ∃ e9 : Int32, e9 = (e_27 * 6) := ⟨_, rfl⟩
                      try have : e_28.toInt = (e_27 : Int32).toInt * (6) := by rw [he_28]; exact hs_mulr (6) rfl (by omega) (by omega)
                      try rw [← he_28]
                      obtain ⟨e_29, he_29⟩ : ∃ e9 : Int32, e9 = (v47_26 - e_28) := ⟨_, rfl⟩
                      try have : e_29.toInt = (v47_26 : Int32).toInt - (e_28 : Int32).toInt := by rw [he_29]; exact hs_sub (by omega) (by omega)
                      try rw [← he_29]
                      exact hs_some (hQ σ6_4 (e_29 : Int32) Iσ6_4 )
                    · have : ¬ (0) ≤ (v43_24 : Int32).toInt := fun z => h_25 (Int32.le_iff_toInt_le.mpr z)
                      exact hs_some (hQ σ6_4 ((-1) : Int32) Iσ6_4 )
                  · have : ¬ (x2 : Int32).toInt = (7) := fun z => h_23 (Int32.toInt_inj.mp z)
                    refine hs_ite (fun h_30 => ?_) (fun h_30 => ?_)
                    · have : (x2 : Int32).toInt = (8) := congrArg Int32.toInt h_30
                      refine hs_ga (j := 8) Iσ6_4 (by omega) (by omega) (fun v51_31 ev51_31 (bv51_31 : (-1 : Int) ≤ v51_31.toInt ∧ v51_31.toInt ≤ 23) => ?_)
                      have : (σ6_4.1 8 (x1 : Int32).toNatClampNeg).toInt = v51_31.toInt := by rw [ev51_31]
                      refine hs_ite (fun h_32 => ?_) (fun h_32 => ?_)
                      · have : (0) ≤ (v51_31 : Int32).toInt := Int32.le_iff_toInt_le.mp h_32
                        have hfu : ((hy_fu : Nat) : Int) = 5000 := rfl
                        refine s_fX10_look_172   hy_fu σ6_4 (x1 : Int32) (0 : Int32) Iσ6_4 (show 0 ≤ (x1 : Int32).toInt by omega) (show (x1 : Int32).toInt < (σ6_4.2 2).toInt by omega) (show 0 ≤ (σ6_4.1 8 (x1 : Int32).toNatClampNeg).toInt by omega) (show 0 ≤ (0) by omega) (show (0) ≤ 9 by omega) (fun q hq => absurd hq (by have : (0 : Int32).toInt = 0 := rfl; omega)) (show 10 - (0) < ((hy_fu : Nat) : Int) by rw [hfu]; omega) (fun v_33  => ?_)
                        exact (hQ σ6_4 (v_33 : Int32) Iσ6_4 )
                      · have : ¬ (0) ≤ (v51_31 : Int32).toInt := fun z => h_32 (Int32.le_iff_toInt_le.mpr z)
                        exact hs_some (hQ σ6_4 (0 : Int32) Iσ6_4 )
                    · have : ¬ (x2 : Int32).toInt = (8) := fun z => h_30 (Int32.toInt_inj.mp z)
                      refine hs_pf (v := 2) Iσ6_4 (hs_any _) (fun r => ⟨hm_Ri (by decide) r.1, ri 0 (by decide) _ _ r.2⟩) (fun σ55_34 eσ55_34 Iσ55_34 => ?_)
                      have : (σ55_34.2 0).toInt = (2) := by rw [eσ55_34]; rfl
                      have : (σ55_34.2 2).toInt = (σ6_4.2 2).toInt := by rw [eσ55_34]; rfl
                      have : (-2147483648 : Int) ≤ (σ55_34.2 0).toInt ∧ (σ55_34.2 0).toInt ≤ 2147483647 := Iσ55_34.2.1 0
                      have : (0 : Int) ≤ (σ55_34.2 2).toInt ∧ (σ55_34.2 2).toInt ≤ 60 := Iσ55_34.2.1 2
                      exact hs_some (hQ σ55_34 (0 : Int32) Iσ55_34 )
  · have : ¬ (v7_3 : Int32).toInt = (0) := fun z => h_5 (Int32.toInt_inj.mp z)
    exact hs_some (hQ σ6_4 (0 : Int32) Iσ6_4 )
theorem s_fX10_stack {R : hy_S → Prop} (ra : ∀ j, j ∈ ([] : List Nat) → ∀ (τ : hy_S) (g : Nat → Int32), R τ → R (hy_sc τ j g)) (ri : ∀ j, j ∈ ([0] : List Nat) → ∀ (τ : hy_S) (v : Int32), R τ → R (hy_si τ j v)) (σ : hy_S) (x1 : Int32) (x2 : Int32) (x3 : Int32) {P : hy_S → Int32 → Prop} (I : hm_I R σ) (hQ : ∀ (σ9 : hy_S) (v9 : Int32), hm_I R σ9 → P σ9 v9) : hs_ok2 (fX10_stack σ x1 x2 x3) P := by
  unfold fX10_stack
  show hs_ok _ _
  have : (-2147483648 : Int) ≤ (σ.2 0).toInt ∧ (σ.2 0).toInt ≤ 2147483647 := I.2.1 0
  have : (0 : Int) ≤ (σ.2 2).toInt ∧ (σ.2 2).toInt ≤ 60 := I.2.1 2
  have : (0 : Int) ≤ (σ.2 3).toInt ∧ (σ.2 3).toInt ≤ 4 := I.2.1 3
  refine hs_pf (v := 0) I (hs_any _) (fun r => ⟨hm_Ri (by decide) r.1, ri 0 (by decide) _ _ r.2⟩) (fun σ1_1 eσ1_1 Iσ1_1 => ?_)
  have : (σ1_1.2 0).toInt = (0) := by rw [eσ1_1]; rfl
  have : (σ1_1.2 2).toInt = (σ.2 2).toInt := by rw [eσ1_1]; rfl
  have : (σ1_1.2 3).toInt = (σ.2 3).toInt := by rw [eσ1_1]; rfl
  have : (-2147483648 : Int) ≤ (σ1_1.2 0).toInt ∧ (σ1_1.2 0).toInt ≤ 2147483647 := Iσ1_1.2.1 0
  have : (0 : Int) ≤ (σ1_1.2 2).toInt ∧ (σ1_1.2 2).toInt ≤ 60 := Iσ1_1.2.1 2
  have : (0 : Int) ≤ (σ1_1.2 3).toInt ∧ (σ1_1.2 3).toInt ≤ 4 := Iσ1_1.2.1 3
  refine hs_bd (s_fX10_noHold σ1_1 x1 x2 Iσ1_1  (fun v4_2 (gv4_2_0 : 0 ≤ v4_2.toInt) (gv4_2_1 : v4_2.toInt ≤ 1) (gv4_2_2 : v4_2.toInt = 1 ∨ (0 ≤ (x1 : Int32).toInt ∧ (x1 : Int32).toInt < (σ1_1.2 3).toInt ∧ 0 ≤ (x2 : Int32).toInt ∧ (x2 : Int32).toInt ≤ 5)) => ?_))
  refine hs_bd (s_fX10_throwsIf (fun j h => ra j (hs_inc (by decide) h)) (fun j h => ri j (hs_inc (by decide) h)) σ1_1 v4_2 (1 : Int32) Iσ1_1 (show 0 ≤ (v4_2 : Int32).toInt by omega) (show (v4_2 : Int32).toInt ≤ 1 by omega) (fun σ6_4 v7_3 Iσ6_4 (gv7_3_0 : v7_3.toInt = (v4_2 : Int32).toInt) (gv7_3_1 : (σ6_4.2 1).toInt = (σ1_1.2 1).toInt) (gv7_3_2 : (σ6_4.2 2).toInt = (σ1_1.2 2).toInt) (gv7_3_3 : (σ6_4.2 3).toInt = (σ1_1.2 3).toInt) (gv7_3_4 : (σ6_4.2 4).toInt = (σ1_1.2 4).toInt) (gv7_3_5 : (σ6_4.2 5).toInt = (σ1_1.2 5).toInt) (gv7_3_6 : (σ6_4.2 6).toInt = (σ1_1.2 6).toInt) (gv7_3_7 : (σ6_4.2 7).toInt = (σ1_1.2 7).toInt) (gv7_3_8 : (σ6_4.2 8).toInt = (σ1_1.2 8).toInt) (gv7_3_9 : (σ6_4.2 9).toInt = (σ1_1.2 9).toInt) (gv7_3_10 : (σ6_4.2 10).toInt = (σ1_1.2 10).toInt) (gv7_3_11 : (σ6_4.2 11).toInt = (σ1_1.2 11).toInt) (gv7_3_12 : ((v4_2 : Int32).toInt = 0 ∧ (σ6_4.2 0).toInt = (σ1_1.2 0).toInt) ∨ ((v4_2 : Int32).toInt = 1 ∧ (σ6_4.2 0).toInt = (1))) => ?_))
  have : (-2147483648 : Int) ≤ (σ6_4.2 0).toInt ∧ (σ6_4.2 0).toInt ≤ 2147483647 := Iσ6_4.2.1 0
  have : (0 : Int) ≤ (σ6_4.2 2).toInt ∧ (σ6_4.2 2).toInt ≤ 60 := Iσ6_4.2.1 2
  have : (0 : Int) ≤ (σ6_4.2 3).toInt ∧ (σ6_4.2 3).toInt ≤ 4 := Iσ6_4.2.1 3
  refine hs_ite (fun h_5 => ?_) (fun h_5 => ?_)
  · have : (v7_3 : Int32).toInt = (0) := congrArg Int32.toInt h_5
    obtain ⟨e_6, he_6⟩ : ∃ e9 : Int32, e9 = (6 * x1) := ⟨_, rfl⟩
    try have : e_6.toInt = (6) * (x1 : Int32).toInt := by rw [he_6]; exact hs_mull (6) rfl (by omega) (by omega)
    try rw [← he_6]
    obtain ⟨e_7, he_7⟩ : ∃ e9 : Int32, e9 = (e_6 + x2) := ⟨_, rfl⟩
    try have : e_7.toInt = (e_6 : Int32).toInt + (x2 : Int32).toInt := by rw [he_7]; exact hs_add (by omega) (by omega)
    try rw [← he_7]
    refine hs_ga (j := 10) Iσ6_4 (by omega) (by omega) (fun v10_8 ev10_8 (bv10_8 : (0 : Int) ≤ v10_8.toInt ∧ v10_8.toInt ≤ 10) => ?_)
    have : (σ6_4.1 10 (e_7 : Int32).toNatClampNeg).toInt = v10_8.toInt := by rw [ev10_8]
    obtain ⟨e_9, he_9⟩ : ∃ e9 : Int32, e9 = (v10_8 - 1) := ⟨_, rfl⟩
    try have : e_9.toInt = (v10_8 : Int32).toInt - (1) := by rw [he_9]; exact hs_subk (1) rfl (by omega) (by omega)
    try rw [← he_9]
    refine hs_bd (s_fX10_in σ6_4 x3 (0 : Int32) e_9 Iσ6_4  (fun v14_10 (gv14_10_0 : (v14_10.toInt = 1 ∧ (0) ≤ (x3 : Int32).toInt ∧ (x3 : Int32).toInt ≤ (e_9 : Int32).toInt) ∨ (v14_10.toInt = 0 ∧ ((x3 : Int32).toInt < (0) ∨ (e_9 : Int32).toInt < (x3 : Int32).toInt))) => ?_))
    refine hs_ite (fun h_11 => ?_) (fun h_11 => ?_)
    · have : (v14_10 : Int32).toInt = (0) := congrArg Int32.toInt h_11
      exact hs_some (hQ σ6_4 ((-1) : Int32) Iσ6_4 )
    · have : ¬ (v14_10 : Int32).toInt = (0) := fun z => h_11 (Int32.toInt_inj.mp z)
      try rw [← he_6]
      try rw [← he_7]
      obtain ⟨e_12, he_12⟩ : ∃ e9 : Int32, e9 = (10 * e_7) := ⟨_, rfl⟩
      try have : e_12.toInt = (10) * (e_7 : Int32).toInt := by rw [he_12]; exact hs_mull (10) rfl (by omega) (by omega)
      try rw [← he_12]
      obtain ⟨e_13, he_13⟩ : ∃ e9 : Int32, e9 = (e_12 + x3) := ⟨_, rfl⟩
      try have : e_13.toInt = (e_12 : Int32).toInt + (x3 : Int32).toInt := by rw [he_13]; exact hs_add (by omega) (by omega)
      try rw [← he_13]
      refine hs_ga (j := 9) Iσ6_4 (by omega) (by omega) (fun v17_14 ev17_14 (bv17_14 : (0 : Int) ≤ v17_14.toInt ∧ v17_14.toInt ≤ 59) => ?_)
      exact hs_some (hQ σ6_4 (v17_14 : Int32) Iσ6_4 )
  · have : ¬ (v7_3 : Int32).toInt = (0) := fun z => h_5 (Int32.toInt_inj.mp z)
    exact hs_some (hQ σ6_4 (0 : Int32) Iσ6_4 )
theorem s_fX10_feed_60 {R : hy_S → Prop} (ra : ∀ j, j ∈ ([17] : List Nat) → ∀ (τ : hy_S) (g : Nat → Int32), R τ → R (hy_sc τ j g)) (ri : ∀ j, j ∈ ([4] : List Nat) → ∀ (τ : hy_S) (v : Int32), R τ → R (hy_si τ j v)) (g : Int) {Q : hy_S × Int32 → Prop} (hQ : ∀ (σ9 : hy_S) (v9 : Int32), hm_I R σ9 → (σ9.2 4).toInt = g + 20 → v9.toInt = g + 20 → Q (σ9, v9)) : ∀ (n : Nat) (σ : hy_S) (x6 : Int32), hm_I R σ → 0 ≤ x6.toInt → x6.toInt ≤ 20 → (σ.2 4).toInt ≤ 380 → (σ.2 4).toInt = g → 20 - x6.toInt < (n : Int) → hs_ok (fX10_feed_60 n σ x6) Q := by
  intro n
  induction n with
  | zero =>
    intro σ x6 I p0 p1 p2 p3  hm
    have : (0 : Int) ≤ (σ.2 4).toInt ∧ (σ.2 4).toInt ≤ 400 := I.2.1 4
    exact absurd hm (by omega)
  | succ n ih =>
    intro σ x6 I p0 p1 p2 p3  hm
    unfold fX10_feed_60
    have : (0 : Int) ≤ (σ.2 4).toInt ∧ (σ.2 4).toInt ≤ 400 := I.2.1 4
    refine hs_ite (fun h_1 => ?_) (fun h_1 => ?_)
    · have : (20) ≤ (x6 : Int32).toInt := Int32.le_iff_toInt_le.mp h_1
      obtain ⟨e_2, he_2⟩ : ∃ e9 : Int32, e9 = ((σ.2 4) + 20) := ⟨_, rfl⟩
      try have : e_2.toInt = ((σ.2 4) : Int32).toInt + (20) := by rw [he_2]; exact hs_addk (20) rfl (by omega) (by omega)
      try rw [← he_2]
      refine hs_pf (v := e_2) I ⟨(by omega : (0 : Int) ≤ (e_2 : Int32).toInt), (by omega : (e_2 : Int32).toInt ≤ 400)⟩ (fun r => ⟨hm_Ri (by decide) r.1, ri 4 (by decide) _ _ r.2⟩) (fun σ2_3 eσ2_3 Iσ2_3 => ?_)
      have : (σ2_3.2 4).toInt = (e_2 : Int32).toInt := by rw [eσ2_3]; rfl
      have : (0 : Int) ≤ (σ2_3.2 4).toInt ∧ (σ2_3.2 4).toInt ≤ 400 := Iσ2_3.2.1 4
      exact hs_some (hQ σ2_3 ((σ2_3.2 4) : Int32) Iσ2_3 (show (σ2_3.2 4).toInt = g + 20 by omega) (show ((σ2_3.2 4) : Int32).toInt = g + 20 by omega))
    · have : ¬ (20) ≤ (x6 : Int32).toInt := fun z => h_1 (Int32.le_iff_toInt_le.mpr z)
      obtain ⟨e_4, he_4⟩ : ∃ e9 : Int32, e9 = (x6 / 4) := ⟨_, rfl⟩
      try have : e_4.toInt = (x6 : Int32).toInt / (4) := by rw [he_4]; exact hs_div (4) rfl (by omega) (by omega)
      try rw [← he_4]
      refine hs_ga (j := 18) I (by omega) (by omega) (fun v4_5 ev4_5 (bv4_5 : (-2147483648 : Int) ≤ v4_5.toInt ∧ v4_5.toInt ≤ 2147483647) => ?_)
      obtain ⟨e_6, he_6⟩ : ∃ e9 : Int32, e9 = ((σ.2 4) + x6) := ⟨_, rfl⟩
      try have : e_6.toInt = ((σ.2 4) : Int32).toInt + (x6 : Int32).toInt := by rw [he_6]; exact hs_add (by omega) (by omega)
      try rw [← he_6]
      refine hs_pa (idx := e_6) (v := _) I (by omega) (by omega) (hs_any _) (fun r => ⟨hm_Ra (by decide) r.1, ra 17 (by decide) _ _ r.2⟩) (fun σ7_7 eσ7_7 Iσ7_7 => ?_)
      have : (σ7_7.2 4).toInt = (σ.2 4).toInt := by rw [eσ7_7]; rfl
      have : (0 : Int) ≤ (σ7_7.2 4).toInt ∧ (σ7_7.2 4).toInt ≤ 400 := Iσ7_7.2.1 4
      obtain ⟨e_8, he_8⟩ : ∃ e9 : Int32, e9 = (x6 + 1) := ⟨_, rfl⟩
      try have : e_8.toInt = (x6 : Int32).toInt + (1) := by rw [he_8]; exact hs_addk (1) rfl (by omega) (by omega)
      try rw [← he_8]
      exact ih σ7_7 (e_8 : Int32) Iσ7_7 (show 0 ≤ (e_8 : Int32).toInt by omega) (show (e_8 : Int32).toInt ≤ 20 by omega) (show (σ7_7.2 4).toInt ≤ 380 by omega) (show (σ7_7.2 4).toInt = g by omega)  (by omega)
theorem s_fX10_feed {R : hy_S → Prop} (ra : ∀ j, j ∈ ([17, 18] : List Nat) → ∀ (τ : hy_S) (g : Nat → Int32), R τ → R (hy_sc τ j g)) (ri : ∀ j, j ∈ ([0, 4] : List Nat) → ∀ (τ : hy_S) (v : Int32), R τ → R (hy_si τ j v)) (σ : hy_S) (x1 : Int32) (x2 : Int32) (x3 : Int32) (x4 : Int32) (x5 : Int32) {P : hy_S → Int32 → Prop} (I : hm_I R σ) (hQ : ∀ (σ9 : hy_S) (v9 : Int32), hm_I R σ9 → ((σ.2 4).toInt + 20 ≤ 400 ∧ (σ9.2 4).toInt = (σ.2 4).toInt + 20 ∧ v9.toInt = (σ.2 4).toInt + 20) ∨ (400 < (σ.2 4).toInt + 20 ∧ (σ9.2 4).toInt = (σ.2 4).toInt ∧ v9.toInt = -1) → P σ9 v9) : hs_ok2 (fX10_feed σ x1 x2 x3 x4 x5) P := by
  unfold fX10_feed
  show hs_ok _ _
  have : (-2147483648 : Int) ≤ (σ.2 0).toInt ∧ (σ.2 0).toInt ≤ 2147483647 := I.2.1 0
  have : (0 : Int) ≤ (σ.2 4).toInt ∧ (σ.2 4).toInt ≤ 400 := I.2.1 4
  refine hs_pf (v := 0) I (hs_any _) (fun r => ⟨hm_Ri (by decide) r.1, ri 0 (by decide) _ _ r.2⟩) (fun σ1_1 eσ1_1 Iσ1_1 => ?_)
  have : (σ1_1.2 0).toInt = (0) := by rw [eσ1_1]; rfl
  have : (σ1_1.2 4).toInt = (σ.2 4).toInt := by rw [eσ1_1]; rfl
  have : (-2147483648 : Int) ≤ (σ1_1.2 0).toInt ∧ (σ1_1.2 0).toInt ≤ 2147483647 := Iσ1_1.2.1 0
  have : (0 : Int) ≤ (σ1_1.2 4).toInt ∧ (σ1_1.2 4).toInt ≤ 400 := Iσ1_1.2.1 4
  obtain ⟨e_2, he_2⟩ : ∃ e9 : Int32, e9 = ((σ1_1.2 4) + 20) := ⟨_, rfl⟩
  try have : e_2.toInt = ((σ1_1.2 4) : Int32).toInt + (20) := by rw [he_2]; exact hs_addk (20) rfl (by omega) (by omega)
  try rw [← he_2]
  refine hs_ite (fun h_3 => ?_) (fun h_3 => ?_)
  · have : (e_2 : Int32).toInt ≤ (400) := Int32.le_iff_toInt_le.mp h_3
    refine hs_pa (idx := 0) (v := _) Iσ1_1 (by decide) (by decide) (hs_any _) (fun r => ⟨hm_Ra (by decide) r.1, ra 18 (by decide) _ _ r.2⟩) (fun σ4_4 eσ4_4 Iσ4_4 => ?_)
    have : (σ4_4.2 0).toInt = (σ1_1.2 0).toInt := by rw [eσ4_4]; rfl
    have : (σ4_4.2 4).toInt = (σ1_1.2 4).toInt := by rw [eσ4_4]; rfl
    have : (-2147483648 : Int) ≤ (σ4_4.2 0).toInt ∧ (σ4_4.2 0).toInt ≤ 2147483647 := Iσ4_4.2.1 0
    have : (0 : Int) ≤ (σ4_4.2 4).toInt ∧ (σ4_4.2 4).toInt ≤ 400 := Iσ4_4.2.1 4
    refine hs_pa (idx := 1) (v := _) Iσ4_4 (by decide) (by decide) (hs_any _) (fun r => ⟨hm_Ra (by decide) r.1, ra 18 (by decide) _ _ r.2⟩) (fun σ7_5 eσ7_5 Iσ7_5 => ?_)
    have : (σ7_5.2 0).toInt = (σ4_4.2 0).toInt := by rw [eσ7_5]; rfl
    have : (σ7_5.2 4).toInt = (σ4_4.2 4).toInt := by rw [eσ7_5]; rfl
    have : (-2147483648 : Int) ≤ (σ7_5.2 0).toInt ∧ (σ7_5.2 0).toInt ≤ 2147483647 := Iσ7_5.2.1 0
    have : (0 : Int) ≤ (σ7_5.2 4).toInt ∧ (σ7_5.2 4).toInt ≤ 400 := Iσ7_5.2.1 4
    refine hs_pa (idx := 2) (v := _) Iσ7_5 (by decide) (by decide) (hs_any _) (fun r => ⟨hm_Ra (by decide) r.1, ra 18 (by decide) _ _ r.2⟩) (fun σ10_6 eσ10_6 Iσ10_6 => ?_)
    have : (σ10_6.2 0).toInt = (σ7_5.2 0).toInt := by rw [eσ10_6]; rfl
    have : (σ10_6.2 4).toInt = (σ7_5.2 4).toInt := by rw [eσ10_6]; rfl
    have : (-2147483648 : Int) ≤ (σ10_6.2 0).toInt ∧ (σ10_6.2 0).toInt ≤ 2147483647 := Iσ10_6.2.1 0
    have : (0 : Int) ≤ (σ10_6.2 4).toInt ∧ (σ10_6.2 4).toInt ≤ 400 := Iσ10_6.2.1 4
    refine hs_pa (idx := 3) (v := _) Iσ10_6 (by decide) (by decide) (hs_any _) (fun r => ⟨hm_Ra (by decide) r.1, ra 18 (by decide) _ _ r.2⟩) (fun σ13_7 eσ13_7 Iσ13_7 => ?_)
    have : (σ13_7.2 0).toInt = (σ10_6.2 0).toInt := by rw [eσ13_7]; rfl
    have : (σ13_7.2 4).toInt = (σ10_6.2 4).toInt := by rw [eσ13_7]; rfl
    have : (-2147483648 : Int) ≤ (σ13_7.2 0).toInt ∧ (σ13_7.2 0).toInt ≤ 2147483647 := Iσ13_7.2.1 0
    have : (0 : Int) ≤ (σ13_7.2 4).toInt ∧ (σ13_7.2 4).toInt ≤ 400 := Iσ13_7.2.1 4
    refine hs_pa (idx := 4) (v := _) Iσ13_7 (by decide) (by decide) (hs_any _) (fun r => ⟨hm_Ra (by decide) r.1, ra 18 (by decide) _ _ r.2⟩) (fun σ16_8 eσ16_8 Iσ16_8 => ?_)
    have : (σ16_8.2 0).toInt = (σ13_7.2 0).toInt := by rw [eσ16_8]; rfl
    have : (σ16_8.2 4).toInt = (σ13_7.2 4).toInt := by rw [eσ16_8]; rfl
    have : (-2147483648 : Int) ≤ (σ16_8.2 0).toInt ∧ (σ16_8.2 0).toInt ≤ 2147483647 := Iσ16_8.2.1 0
    have : (0 : Int) ≤ (σ16_8.2 4).toInt ∧ (σ16_8.2 4).toInt ≤ 400 := Iσ16_8.2.1 4
    have hfu : ((hy_fu : Nat) : Int) = 5000 := rfl
    refine s_fX10_feed_60 (fun j h => ra j (hs_inc (by decide) h)) (fun j h => ri j (hs_inc (by decide) h)) ((σ16_8.2 4).toInt) (fun τ_9 v_10 Iτ_9 gv_10_0 gv_10_1 => ?_)  hy_fu σ16_8 (0 : Int32) Iσ16_8 (show 0 ≤ (0) by omega) (show (0) ≤ 20 by omega) (show (σ16_8.2 4).toInt ≤ 380 by omega) (show (σ16_8.2 4).toInt = ((σ16_8.2 4).toInt) by omega)  (show 20 - (0) < ((hy_fu : Nat) : Int) by rw [hfu]; omega)
    have : (-2147483648 : Int) ≤ (τ_9.2 0).toInt ∧ (τ_9.2 0).toInt ≤ 2147483647 := Iτ_9.2.1 0
    have : (0 : Int) ≤ (τ_9.2 4).toInt ∧ (τ_9.2 4).toInt ≤ 400 := Iτ_9.2.1 4
    exact (hQ τ_9 (v_10 : Int32) Iτ_9 (show ((σ.2 4).toInt + 20 ≤ 400 ∧ (τ_9.2 4).toInt = (σ.2 4).toInt + 20 ∧ (v_10 : Int32).toInt = (σ.2 4).toInt + 20) ∨ (400 < (σ.2 4).toInt + 20 ∧ (τ_9.2 4).toInt = (σ.2 4).toInt ∧ (v_10 : Int32).toInt = -1) by omega))
  · have : ¬ (e_2 : Int32).toInt ≤ (400) := fun z => h_3 (Int32.le_iff_toInt_le.mpr z)
    exact hs_some (hQ σ1_1 ((-1) : Int32) Iσ1_1 (show ((σ.2 4).toInt + 20 ≤ 400 ∧ (σ1_1.2 4).toInt = (σ.2 4).toInt + 20 ∧ (-1) = (σ.2 4).toInt + 20) ∨ (400 < (σ.2 4).toInt + 20 ∧ (σ1_1.2 4).toInt = (σ.2 4).toInt ∧ (-1) = -1) by omega))
theorem s_fX10_end {R : hy_S → Prop} (ra : ∀ j, j ∈ ([] : List Nat) → ∀ (τ : hy_S) (g : Nat → Int32), R τ → R (hy_sc τ j g)) (ri : ∀ j, j ∈ ([0, 4] : List Nat) → ∀ (τ : hy_S) (v : Int32), R τ → R (hy_si τ j v)) (σ : hy_S) (x1 : Int32) {P : hy_S → Int32 → Prop} (I : hm_I R σ) (hQ : ∀ (σ9 : hy_S) (v9 : Int32), hm_I R σ9 → (0 ≤ x1.toInt ∧ x1.toInt ≤ (σ.2 4).toInt ∧ (σ9.2 4).toInt = x1.toInt ∧ v9.toInt = 1) ∨ ((x1.toInt < 0 ∨ (σ.2 4).toInt < x1.toInt) ∧ (σ9.2 4).toInt = (σ.2 4).toInt ∧ v9.toInt = 0) → P σ9 v9) : hs_ok2 (fX10_end σ x1) P := by
  unfold fX10_end
  show hs_ok _ _
  have : (-2147483648 : Int) ≤ (σ.2 0).toInt ∧ (σ.2 0).toInt ≤ 2147483647 := I.2.1 0
  have : (0 : Int) ≤ (σ.2 4).toInt ∧ (σ.2 4).toInt ≤ 400 := I.2.1 4
  refine hs_pf (v := 0) I (hs_any _) (fun r => ⟨hm_Ri (by decide) r.1, ri 0 (by decide) _ _ r.2⟩) (fun σ1_1 eσ1_1 Iσ1_1 => ?_)
  have : (σ1_1.2 0).toInt = (0) := by rw [eσ1_1]; rfl
  have : (σ1_1.2 4).toInt = (σ.2 4).toInt := by rw [eσ1_1]; rfl
  have : (-2147483648 : Int) ≤ (σ1_1.2 0).toInt ∧ (σ1_1.2 0).toInt ≤ 2147483647 := Iσ1_1.2.1 0
  have : (0 : Int) ≤ (σ1_1.2 4).toInt ∧ (σ1_1.2 4).toInt ≤ 400 := Iσ1_1.2.1 4
  refine hs_ite (fun h_2 => ?_) (fun h_2 => ?_)
  · have : (x1 : Int32).toInt < (0) := Int32.lt_iff_toInt_lt.mp h_2
    exact hs_some (hQ σ1_1 (0 : Int32) Iσ1_1 (show (0 ≤ x1.toInt ∧ x1.toInt ≤ (σ.2 4).toInt ∧ (σ1_1.2 4).toInt = x1.toInt ∧ (0) = 1) ∨ ((x1.toInt < 0 ∨ (σ.2 4).toInt < x1.toInt) ∧ (σ1_1.2 4).toInt = (σ.2 4).toInt ∧ (0) = 0) by omega))
  · have : ¬ (x1 : Int32).toInt < (0) := fun z => h_2 (Int32.lt_iff_toInt_lt.mpr z)
    refine hs_ite (fun h_3 => ?_) (fun h_3 => ?_)
    · have : (x1 : Int32).toInt ≤ ((σ1_1.2 4) : Int32).toInt := Int32.le_iff_toInt_le.mp h_3
      refine hs_pf (v := x1) Iσ1_1 ⟨(by omega : (0 : Int) ≤ (x1 : Int32).toInt), (by omega : (x1 : Int32).toInt ≤ 400)⟩ (fun r => ⟨hm_Ri (by decide) r.1, ri 4 (by decide) _ _ r.2⟩) (fun σ5_4 eσ5_4 Iσ5_4 => ?_)
      have : (σ5_4.2 0).toInt = (σ1_1.2 0).toInt := by rw [eσ5_4]; rfl
      have : (σ5_4.2 4).toInt = (x1 : Int32).toInt := by rw [eσ5_4]; rfl
      have : (-2147483648 : Int) ≤ (σ5_4.2 0).toInt ∧ (σ5_4.2 0).toInt ≤ 2147483647 := Iσ5_4.2.1 0
      have : (0 : Int) ≤ (σ5_4.2 4).toInt ∧ (σ5_4.2 4).toInt ≤ 400 := Iσ5_4.2.1 4
      exact hs_some (hQ σ5_4 (1 : Int32) Iσ5_4 (show (0 ≤ x1.toInt ∧ x1.toInt ≤ (σ.2 4).toInt ∧ (σ5_4.2 4).toInt = x1.toInt ∧ (1) = 1) ∨ ((x1.toInt < 0 ∨ (σ.2 4).toInt < x1.toInt) ∧ (σ5_4.2 4).toInt = (σ.2 4).toInt ∧ (1) = 0) by omega))
    · have : ¬ (x1 : Int32).toInt ≤ ((σ1_1.2 4) : Int32).toInt := fun z => h_3 (Int32.le_iff_toInt_le.mpr z)
      exact hs_some (hQ σ1_1 (0 : Int32) Iσ1_1 (show (0 ≤ x1.toInt ∧ x1.toInt ≤ (σ.2 4).toInt ∧ (σ1_1.2 4).toInt = x1.toInt ∧ (0) = 1) ∨ ((x1.toInt < 0 ∨ (σ.2 4).toInt < x1.toInt) ∧ (σ1_1.2 4).toInt = (σ.2 4).toInt ∧ (0) = 0) by omega))
theorem s_fX10_rate {R : hy_S → Prop} (ra : ∀ j, j ∈ ([14] : List Nat) → ∀ (τ : hy_S) (g : Nat → Int32), R τ → R (hy_sc τ j g)) (ri : ∀ j, j ∈ ([0] : List Nat) → ∀ (τ : hy_S) (v : Int32), R τ → R (hy_si τ j v)) (σ : hy_S) (x1 : Int32) (x2 : Int32) {P : hy_S → Int32 → Prop} (I : hm_I R σ) (hQ : ∀ (σ9 : hy_S) (v9 : Int32), hm_I R σ9 → P σ9 v9) : hs_ok2 (fX10_rate σ x1 x2) P := by
  unfold fX10_rate
  show hs_ok _ _
  have : (-2147483648 : Int) ≤ (σ.2 0).toInt ∧ (σ.2 0).toInt ≤ 2147483647 := I.2.1 0
  refine hs_pf (v := 0) I (hs_any _) (fun r => ⟨hm_Ri (by decide) r.1, ri 0 (by decide) _ _ r.2⟩) (fun σ1_1 eσ1_1 Iσ1_1 => ?_)
  have : (σ1_1.2 0).toInt = (0) := by rw [eσ1_1]; rfl
  have : (-2147483648 : Int) ≤ (σ1_1.2 0).toInt ∧ (σ1_1.2 0).toInt ≤ 2147483647 := Iσ1_1.2.1 0
  refine hs_bd (s_fX10_in σ1_1 x1 (0 : Int32) (7 : Int32) Iσ1_1  (fun v4_2 (gv4_2_0 : (v4_2.toInt = 1 ∧ (0) ≤ (x1 : Int32).toInt ∧ (x1 : Int32).toInt ≤ (7)) ∨ (v4_2.toInt = 0 ∧ ((x1 : Int32).toInt < (0) ∨ (7) < (x1 : Int32).toInt))) => ?_))
  refine hs_ite (fun h_3 => ?_) (fun h_3 => ?_)
  · have : (v4_2 : Int32).toInt = (0) := congrArg Int32.toInt h_3
    unfold fX10_rate_21
    refine hs_bd (s_fX10_throwsIf (fun j h => ra j (hs_inc (by decide) h)) (fun j h => ri j (hs_inc (by decide) h)) σ1_1 (1 : Int32) (1 : Int32) Iσ1_1 (show 0 ≤ (1) by omega) (show (1) ≤ 1 by omega) (fun σ1_5 v2_4 Iσ1_5 (gv2_4_0 : v2_4.toInt = (1)) (gv2_4_1 : (σ1_5.2 1).toInt = (σ1_1.2 1).toInt) (gv2_4_2 : (σ1_5.2 2).toInt = (σ1_1.2 2).toInt) (gv2_4_3 : (σ1_5.2 3).toInt = (σ1_1.2 3).toInt) (gv2_4_4 : (σ1_5.2 4).toInt = (σ1_1.2 4).toInt) (gv2_4_5 : (σ1_5.2 5).toInt = (σ1_1.2 5).toInt) (gv2_4_6 : (σ1_5.2 6).toInt = (σ1_1.2 6).toInt) (gv2_4_7 : (σ1_5.2 7).toInt = (σ1_1.2 7).toInt) (gv2_4_8 : (σ1_5.2 8).toInt = (σ1_1.2 8).toInt) (gv2_4_9 : (σ1_5.2 9).toInt = (σ1_1.2 9).toInt) (gv2_4_10 : (σ1_5.2 10).toInt = (σ1_1.2 10).toInt) (gv2_4_11 : (σ1_5.2 11).toInt = (σ1_1.2 11).toInt) (gv2_4_12 : ((1) = 0 ∧ (σ1_5.2 0).toInt = (σ1_1.2 0).toInt) ∨ ((1) = 1 ∧ (σ1_5.2 0).toInt = (1))) => ?_))
    have : (-2147483648 : Int) ≤ (σ1_5.2 0).toInt ∧ (σ1_5.2 0).toInt ≤ 2147483647 := Iσ1_5.2.1 0
    refine hs_ite (fun h_6 => ?_) (fun h_6 => ?_)
    · have : (v2_4 : Int32).toInt = (0) := congrArg Int32.toInt h_6
      refine hs_bd (s_fX10_in σ1_5 x2 (0 : Int32) (1000 : Int32) Iσ1_5  (fun v6_7 (gv6_7_0 : (v6_7.toInt = 1 ∧ (0) ≤ (x2 : Int32).toInt ∧ (x2 : Int32).toInt ≤ (1000)) ∨ (v6_7.toInt = 0 ∧ ((x2 : Int32).toInt < (0) ∨ (1000) < (x2 : Int32).toInt))) => ?_))
      refine hs_ite (fun h_8 => ?_) (fun h_8 => ?_)
      · have : (v6_7 : Int32).toInt = (0) := congrArg Int32.toInt h_8
        unfold fX10_rate_45
        refine hs_bd (s_fX10_throwsIf (fun j h => ra j (hs_inc (by decide) h)) (fun j h => ri j (hs_inc (by decide) h)) σ1_5 (1 : Int32) (2 : Int32) Iσ1_5 (show 0 ≤ (1) by omega) (show (1) ≤ 1 by omega) (fun σ1_10 v2_9 Iσ1_10 (gv2_9_0 : v2_9.toInt = (1)) (gv2_9_1 : (σ1_10.2 1).toInt = (σ1_5.2 1).toInt) (gv2_9_2 : (σ1_10.2 2).toInt = (σ1_5.2 2).toInt) (gv2_9_3 : (σ1_10.2 3).toInt = (σ1_5.2 3).toInt) (gv2_9_4 : (σ1_10.2 4).toInt = (σ1_5.2 4).toInt) (gv2_9_5 : (σ1_10.2 5).toInt = (σ1_5.2 5).toInt) (gv2_9_6 : (σ1_10.2 6).toInt = (σ1_5.2 6).toInt) (gv2_9_7 : (σ1_10.2 7).toInt = (σ1_5.2 7).toInt) (gv2_9_8 : (σ1_10.2 8).toInt = (σ1_5.2 8).toInt) (gv2_9_9 : (σ1_10.2 9).toInt = (σ1_5.2 9).toInt) (gv2_9_10 : (σ1_10.2 10).toInt = (σ1_5.2 10).toInt) (gv2_9_11 : (σ1_10.2 11).toInt = (σ1_5.2 11).toInt) (gv2_9_12 : ((1) = 0 ∧ (σ1_10.2 0).toInt = (σ1_5.2 0).toInt) ∨ ((1) = 1 ∧ (σ1_10.2 0).toInt = (2))) => ?_))
        have : (-2147483648 : Int) ≤ (σ1_10.2 0).toInt ∧ (σ1_10.2 0).toInt ≤ 2147483647 := Iσ1_10.2.1 0
        refine hs_ite (fun h_11 => ?_) (fun h_11 => ?_)
        · have : (v2_9 : Int32).toInt = (0) := congrArg Int32.toInt h_11
          refine hs_pa (idx := x1) (v := _) Iσ1_10 (by omega) (by omega) (hs_any _) (fun r => ⟨hm_Ra (by decide) r.1, ra 14 (by decide) _ _ r.2⟩) (fun σ5_12 eσ5_12 Iσ5_12 => ?_)
          have : (σ5_12.2 0).toInt = (σ1_10.2 0).toInt := by rw [eσ5_12]; rfl
          have : (-2147483648 : Int) ≤ (σ5_12.2 0).toInt ∧ (σ5_12.2 0).toInt ≤ 2147483647 := Iσ5_12.2.1 0
          exact hs_some (hQ σ5_12 (0 : Int32) Iσ5_12 )
        · have : ¬ (v2_9 : Int32).toInt = (0) := fun z => h_11 (Int32.toInt_inj.mp z)
          exact hs_some (hQ σ1_10 (0 : Int32) Iσ1_10 )
      · have : ¬ (v6_7 : Int32).toInt = (0) := fun z => h_8 (Int32.toInt_inj.mp z)
        unfold fX10_rate_45
        refine hs_bd (s_fX10_throwsIf (fun j h => ra j (hs_inc (by decide) h)) (fun j h => ri j (hs_inc (by decide) h)) σ1_5 (0 : Int32) (2 : Int32) Iσ1_5 (show 0 ≤ (0) by omega) (show (0) ≤ 1 by omega) (fun σ1_14 v2_13 Iσ1_14 (gv2_13_0 : v2_13.toInt = (0)) (gv2_13_1 : (σ1_14.2 1).toInt = (σ1_5.2 1).toInt) (gv2_13_2 : (σ1_14.2 2).toInt = (σ1_5.2 2).toInt) (gv2_13_3 : (σ1_14.2 3).toInt = (σ1_5.2 3).toInt) (gv2_13_4 : (σ1_14.2 4).toInt = (σ1_5.2 4).toInt) (gv2_13_5 : (σ1_14.2 5).toInt = (σ1_5.2 5).toInt) (gv2_13_6 : (σ1_14.2 6).toInt = (σ1_5.2 6).toInt) (gv2_13_7 : (σ1_14.2 7).toInt = (σ1_5.2 7).toInt) (gv2_13_8 : (σ1_14.2 8).toInt = (σ1_5.2 8).toInt) (gv2_13_9 : (σ1_14.2 9).toInt = (σ1_5.2 9).toInt) (gv2_13_10 : (σ1_14.2 10).toInt = (σ1_5.2 10).toInt) (gv2_13_11 : (σ1_14.2 11).toInt = (σ1_5.2 11).toInt) (gv2_13_12 : ((0) = 0 ∧ (σ1_14.2 0).toInt = (σ1_5.2 0).toInt) ∨ ((0) = 1 ∧ (σ1_14.2 0).toInt = (2))) => ?_))
        have : (-2147483648 : Int) ≤ (σ1_14.2 0).toInt ∧ (σ1_14.2 0).toInt ≤ 2147483647 := Iσ1_14.2.1 0
        refine hs_ite (fun h_15 => ?_) (fun h_15 => ?_)
        · have : (v2_13 : Int32).toInt = (0) := congrArg Int32.toInt h_15
          refine hs_pa (idx := x1) (v := _) Iσ1_14 (by omega) (by omega) (hs_any _) (fun r => ⟨hm_Ra (by decide) r.1, ra 14 (by decide) _ _ r.2⟩) (fun σ5_16 eσ5_16 Iσ5_16 => ?_)
          have : (σ5_16.2 0).toInt = (σ1_14.2 0).toInt := by rw [eσ5_16]; rfl
          have : (-2147483648 : Int) ≤ (σ5_16.2 0).toInt ∧ (σ5_16.2 0).toInt ≤ 2147483647 := Iσ5_16.2.1 0
          exact hs_some (hQ σ5_16 (0 : Int32) Iσ5_16 )
        · have : ¬ (v2_13 : Int32).toInt = (0) := fun z => h_15 (Int32.toInt_inj.mp z)
          exact hs_some (hQ σ1_14 (0 : Int32) Iσ1_14 )
    · have : ¬ (v2_4 : Int32).toInt = (0) := fun z => h_6 (Int32.toInt_inj.mp z)
      exact hs_some (hQ σ1_5 (0 : Int32) Iσ1_5 )
  · have : ¬ (v4_2 : Int32).toInt = (0) := fun z => h_3 (Int32.toInt_inj.mp z)
    unfold fX10_rate_21
    refine hs_bd (s_fX10_throwsIf (fun j h => ra j (hs_inc (by decide) h)) (fun j h => ri j (hs_inc (by decide) h)) σ1_1 (0 : Int32) (1 : Int32) Iσ1_1 (show 0 ≤ (0) by omega) (show (0) ≤ 1 by omega) (fun σ1_18 v2_17 Iσ1_18 (gv2_17_0 : v2_17.toInt = (0)) (gv2_17_1 : (σ1_18.2 1).toInt = (σ1_1.2 1).toInt) (gv2_17_2 : (σ1_18.2 2).toInt = (σ1_1.2 2).toInt) (gv2_17_3 : (σ1_18.2 3).toInt = (σ1_1.2 3).toInt) (gv2_17_4 : (σ1_18.2 4).toInt = (σ1_1.2 4).toInt) (gv2_17_5 : (σ1_18.2 5).toInt = (σ1_1.2 5).toInt) (gv2_17_6 : (σ1_18.2 6).toInt = (σ1_1.2 6).toInt) (gv2_17_7 : (σ1_18.2 7).toInt = (σ1_1.2 7).toInt) (gv2_17_8 : (σ1_18.2 8).toInt = (σ1_1.2 8).toInt) (gv2_17_9 : (σ1_18.2 9).toInt = (σ1_1.2 9).toInt) (gv2_17_10 : (σ1_18.2 10).toInt = (σ1_1.2 10).toInt) (gv2_17_11 : (σ1_18.2 11).toInt = (σ1_1.2 11).toInt) (gv2_17_12 : ((0) = 0 ∧ (σ1_18.2 0).toInt = (σ1_1.2 0).toInt) ∨ ((0) = 1 ∧ (σ1_18.2 0).toInt = (1))) => ?_))
    have : (-2147483648 : Int) ≤ (σ1_18.2 0).toInt ∧ (σ1_18.2 0).toInt ≤ 2147483647 := Iσ1_18.2.1 0
    refine hs_ite (fun h_19 => ?_) (fun h_19 => ?_)
    · have : (v2_17 : Int32).toInt = (0) := congrArg Int32.toInt h_19
      refine hs_bd (s_fX10_in σ1_18 x2 (0 : Int32) (1000 : Int32) Iσ1_18  (fun v6_20 (gv6_20_0 : (v6_20.toInt = 1 ∧ (0) ≤ (x2 : Int32).toInt ∧ (x2 : Int32).toInt ≤ (1000)) ∨ (v6_20.toInt = 0 ∧ ((x2 : Int32).toInt < (0) ∨ (1000) < (x2 : Int32).toInt))) => ?_))
      refine hs_ite (fun h_21 => ?_) (fun h_21 => ?_)
      · have : (v6_20 : Int32).toInt = (0) := congrArg Int32.toInt h_21
        unfold fX10_rate_45
        refine hs_bd (s_fX10_throwsIf (fun j h => ra j (hs_inc (by decide) h)) (fun j h => ri j (hs_inc (by decide) h)) σ1_18 (1 : Int32) (2 : Int32) Iσ1_18 (show 0 ≤ (1) by omega) (show (1) ≤ 1 by omega) (fun σ1_23 v2_22 Iσ1_23 (gv2_22_0 : v2_22.toInt = (1)) (gv2_22_1 : (σ1_23.2 1).toInt = (σ1_18.2 1).toInt) (gv2_22_2 : (σ1_23.2 2).toInt = (σ1_18.2 2).toInt) (gv2_22_3 : (σ1_23.2 3).toInt = (σ1_18.2 3).toInt) (gv2_22_4 : (σ1_23.2 4).toInt = (σ1_18.2 4).toInt) (gv2_22_5 : (σ1_23.2 5).toInt = (σ1_18.2 5).toInt) (gv2_22_6 : (σ1_23.2 6).toInt = (σ1_18.2 6).toInt) (gv2_22_7 : (σ1_23.2 7).toInt = (σ1_18.2 7).toInt) (gv2_22_8 : (σ1_23.2 8).toInt = (σ1_18.2 8).toInt) (gv2_22_9 : (σ1_23.2 9).toInt = (σ1_18.2 9).toInt) (gv2_22_10 : (σ1_23.2 10).toInt = (σ1_18.2 10).toInt) (gv2_22_11 : (σ1_23.2 11).toInt = (σ1_18.2 11).toInt) (gv2_22_12 : ((1) = 0 ∧ (σ1_23.2 0).toInt = (σ1_18.2 0).toInt) ∨ ((1) = 1 ∧ (σ1_23.2 0).toInt = (2))) => ?_))
        have : (-2147483648 : Int) ≤ (σ1_23.2 0).toInt ∧ (σ1_23.2 0).toInt ≤ 2147483647 := Iσ1_23.2.1 0
        refine hs_ite (fun h_24 => ?_) (fun h_24 => ?_)
        · have : (v2_22 : Int32).toInt = (0) := congrArg Int32.toInt h_24
          refine hs_pa (idx := x1) (v := _) Iσ1_23 (by omega) (by omega) (hs_any _) (fun r => ⟨hm_Ra (by decide) r.1, ra 14 (by decide) _ _ r.2⟩) (fun σ5_25 eσ5_25 Iσ5_25 => ?_)
          have : (σ5_25.2 0).toInt = (σ1_23.2 0).toInt := by rw [eσ5_25]; rfl
          have : (-2147483648 : Int) ≤ (σ5_25.2 0).toInt ∧ (σ5_25.2 0).toInt ≤ 2147483647 := Iσ5_25.2.1 0
          exact hs_some (hQ σ5_25 (0 : Int32) Iσ5_25 )
        · have : ¬ (v2_22 : Int32).toInt = (0) := fun z => h_24 (Int32.toInt_inj.mp z)
          exact hs_some (hQ σ1_23 (0 : Int32) Iσ1_23 )
      · have : ¬ (v6_20 : Int32).toInt = (0) := fun z => h_21 (Int32.toInt_inj.mp z)
        unfold fX10_rate_45
        refine hs_bd (s_fX10_throwsIf (fun j h => ra j (hs_inc (by decide) h)) (fun j h => ri j (hs_inc (by decide) h)) σ1_18 (0 : Int32) (2 : Int32) Iσ1_18 (show 0 ≤ (0) by omega) (show (0) ≤ 1 by omega) (fun σ1_27 v2_26 Iσ1_27 (gv2_26_0 : v2_26.toInt = (0)) (gv2_26_1 : (σ1_27.2 1).toInt = (σ1_18.2 1).toInt) (gv2_26_2 : (σ1_27.2 2).toInt = (σ1_18.2 2).toInt) (gv2_26_3 : (σ1_27.2 3).toInt = (σ1_18.2 3).toInt) (gv2_26_4 : (σ1_27.2 4).toInt = (σ1_18.2 4).toInt) (gv2_26_5 : (σ1_27.2 5).toInt = (σ1_18.2 5).toInt) (gv2_26_6 : (σ1_27.2 6).toInt = (σ1_18.2 6).toInt) (gv2_26_7 : (σ1_27.2 7).toInt = (σ1_18.2 7).toInt) (gv2_26_8 : (σ1_27.2 8).toInt = (σ1_18.2 8).toInt) (gv2_26_9 : (σ1_27.2 9).toInt = (σ1_18.2 9).toInt) (gv2_26_10 : (σ1_27.2 10).toInt = (σ1_18.2 10).toInt) (gv2_26_11 : (σ1_27.2 11).toInt = (σ1_18.2 11).toInt) (gv2_26_12 : ((0) = 0 ∧ (σ1_27.2 0).toInt = (σ1_18.2 0).toInt) ∨ ((0) = 1 ∧ (σ1_27.2 0).toInt = (2))) => ?_))
        have : (-2147483648 : Int) ≤ (σ1_27.2 0).toInt ∧ (σ1_27.2 0).toInt ≤ 2147483647 := Iσ1_27.2.1 0
        refine hs_ite (fun h_28 => ?_) (fun h_28 => ?_)
        · have : (v2_26 : Int32).toInt = (0) := congrArg Int32.toInt h_28
          refine hs_pa (idx := x1) (v := _) Iσ1_27 (by omega) (by omega) (hs_any _) (fun r => ⟨hm_Ra (by decide) r.1, ra 14 (by decide) _ _ r.2⟩) (fun σ5_29 eσ5_29 Iσ5_29 => ?_)
          have : (σ5_29.2 0).toInt = (σ1_27.2 0).toInt := by rw [eσ5_29]; rfl
          have : (-2147483648 : Int) ≤ (σ5_29.2 0).toInt ∧ (σ5_29.2 0).toInt ≤ 2147483647 := Iσ5_29.2.1 0
          exact hs_some (hQ σ5_29 (0 : Int32) Iσ5_29 )
        · have : ¬ (v2_26 : Int32).toInt = (0) := fun z => h_28 (Int32.toInt_inj.mp z)
          exact hs_some (hQ σ1_27 (0 : Int32) Iσ1_27 )
    · have : ¬ (v2_17 : Int32).toInt = (0) := fun z => h_19 (Int32.toInt_inj.mp z)
      exact hs_some (hQ σ1_18 (0 : Int32) Iσ1_18 )
theorem s_fX10_isAt {R : hy_S → Prop} (σ : hy_S) (x1 : Int32) (x2 : Int32) {P : hy_S → Int32 → Prop} (I : hm_I R σ) (hQ : ∀ v9 : Int32, 0 ≤ v9.toInt → v9.toInt ≤ 1 → v9.toInt = 0 ∨ (σ.2 5).toInt < (σ.2 6).toInt → P σ v9) : hs_ok2 (fX10_isAt σ x1 x2) P := by
  unfold fX10_isAt
  show hs_ok _ _
  have : (0 : Int) ≤ (σ.2 5).toInt ∧ (σ.2 5).toInt ≤ 400 := I.2.1 5
  have : (0 : Int) ≤ (σ.2 6).toInt ∧ (σ.2 6).toInt ≤ 400 := I.2.1 6
  refine hs_ite (fun h_1 => ?_) (fun h_1 => ?_)
  · have : ((σ.2 6) : Int32).toInt ≤ ((σ.2 5) : Int32).toInt := Int32.le_iff_toInt_le.mp h_1
    exact hs_some (hQ (0 : Int32) (show 0 ≤ (0) by omega) (show (0) ≤ 1 by omega) (show (0) = 0 ∨ (σ.2 5).toInt < (σ.2 6).toInt by omega))
  · have : ¬ ((σ.2 6) : Int32).toInt ≤ ((σ.2 5) : Int32).toInt := fun z => h_1 (Int32.le_iff_toInt_le.mpr z)
    refine hs_ga (j := 17) I (by omega) (by omega) (fun v2_2 ev2_2 (bv2_2 : (-2147483648 : Int) ≤ v2_2.toInt ∧ v2_2.toInt ≤ 2147483647) => ?_)
    refine hs_ite (fun h_3 => ?_) (fun h_3 => ?_)
    · have : (v2_2 : Int32).toInt < (x1 : Int32).toInt := Int32.lt_iff_toInt_lt.mp h_3
      exact hs_some (hQ (0 : Int32) (show 0 ≤ (0) by omega) (show (0) ≤ 1 by omega) (show (0) = 0 ∨ (σ.2 5).toInt < (σ.2 6).toInt by omega))
    · have : ¬ (v2_2 : Int32).toInt < (x1 : Int32).toInt := fun z => h_3 (Int32.lt_iff_toInt_lt.mpr z)
      refine hs_ga (j := 17) I (by omega) (by omega) (fun v6_4 ev6_4 (bv6_4 : (-2147483648 : Int) ≤ v6_4.toInt ∧ v6_4.toInt ≤ 2147483647) => ?_)
      refine hs_ite (fun h_5 => ?_) (fun h_5 => ?_)
      · have : (x2 : Int32).toInt < (v6_4 : Int32).toInt := Int32.lt_iff_toInt_lt.mp h_5
        exact hs_some (hQ (0 : Int32) (show 0 ≤ (0) by omega) (show (0) ≤ 1 by omega) (show (0) = 0 ∨ (σ.2 5).toInt < (σ.2 6).toInt by omega))
      · have : ¬ (x2 : Int32).toInt < (v6_4 : Int32).toInt := fun z => h_5 (Int32.lt_iff_toInt_lt.mpr z)
        exact hs_some (hQ (1 : Int32) (show 0 ≤ (1) by omega) (show (1) ≤ 1 by omega) (show (1) = 0 ∨ (σ.2 5).toInt < (σ.2 6).toInt by omega))
theorem s_fX10_blanks_0 {R : hy_S → Prop} (ra : ∀ j, j ∈ ([] : List Nat) → ∀ (τ : hy_S) (g : Nat → Int32), R τ → R (hy_sc τ j g)) (ri : ∀ j, j ∈ ([5, 7] : List Nat) → ∀ (τ : hy_S) (v : Int32), R τ → R (hy_si τ j v)) (g : Int) (h : Int) {Q : hy_S × Int32 → Prop} (hQ : ∀ (σ9 : hy_S) (v9 : Int32), hm_I R σ9 → (σ9.2 6).toInt = g → (σ9.2 5).toInt ≤ g → (σ9.2 7).toInt = (σ9.2 5).toInt → (σ9.2 4).toInt = h → Q (σ9, v9)) : ∀ (n : Nat) (σ : hy_S), hm_I R σ → (σ.2 6).toInt = g → (σ.2 5).toInt ≤ g → (σ.2 4).toInt = h → (σ.2 6).toInt - (σ.2 5).toInt < (n : Int) → hs_ok (fX10_blanks_0 n σ ) Q := by
  intro n
  induction n with
  | zero =>
    intro σ  I p0 p1 p2  hm
    have : (0 : Int) ≤ (σ.2 4).toInt ∧ (σ.2 4).toInt ≤ 400 := I.2.1 4
    have : (0 : Int) ≤ (σ.2 5).toInt ∧ (σ.2 5).toInt ≤ 400 := I.2.1 5
    have : (0 : Int) ≤ (σ.2 6).toInt ∧ (σ.2 6).toInt ≤ 400 := I.2.1 6
    have : (0 : Int) ≤ (σ.2 7).toInt ∧ (σ.2 7).toInt ≤ 400 := I.2.1 7
    exact absurd hm (by omega)
  | succ n ih =>
    intro σ  I p0 p1 p2  hm
    unfold fX10_blanks_0
    have : (0 : Int) ≤ (σ.2 4).toInt ∧ (σ.2 4).toInt ≤ 400 := I.2.1 4
    have : (0 : Int) ≤ (σ.2 5).toInt ∧ (σ.2 5).toInt ≤ 400 := I.2.1 5
    have : (0 : Int) ≤ (σ.2 6).toInt ∧ (σ.2 6).toInt ≤ 400 := I.2.1 6
    have : (0 : Int) ≤ (σ.2 7).toInt ∧ (σ.2 7).toInt ≤ 400 := I.2.1 7
    refine hs_bd (s_fX10_isAt σ (32 : Int32) (32 : Int32) I  (fun v2_1 (gv2_1_0 : 0 ≤ v2_1.toInt) (gv2_1_1 : v2_1.toInt ≤ 1) (gv2_1_2 : v2_1.toInt = 0 ∨ (σ.2 5).toInt < (σ.2 6).toInt) => ?_))
    refine hs_ite (fun h_2 => ?_) (fun h_2 => ?_)
    · have : (v2_1 : Int32).toInt = (0) := congrArg Int32.toInt h_2
      refine hs_pf (v := (σ.2 5)) I ⟨(by omega : (0 : Int) ≤ ((σ.2 5) : Int32).toInt), (by omega : ((σ.2 5) : Int32).toInt ≤ 400)⟩ (fun r => ⟨hm_Ri (by decide) r.1, ri 7 (by decide) _ _ r.2⟩) (fun σ5_3 eσ5_3 Iσ5_3 => ?_)
      have : (σ5_3.2 4).toInt = (σ.2 4).toInt := by rw [eσ5_3]; rfl
      have : (σ5_3.2 5).toInt = (σ.2 5).toInt := by rw [eσ5_3]; rfl
      have : (σ5_3.2 6).toInt = (σ.2 6).toInt := by rw [eσ5_3]; rfl
      have : (σ5_3.2 7).toInt = ((σ.2 5) : Int32).toInt := by rw [eσ5_3]; rfl
      have : (0 : Int) ≤ (σ5_3.2 4).toInt ∧ (σ5_3.2 4).toInt ≤ 400 := Iσ5_3.2.1 4
      have : (0 : Int) ≤ (σ5_3.2 5).toInt ∧ (σ5_3.2 5).toInt ≤ 400 := Iσ5_3.2.1 5
      have : (0 : Int) ≤ (σ5_3.2 6).toInt ∧ (σ5_3.2 6).toInt ≤ 400 := Iσ5_3.2.1 6
      have : (0 : Int) ≤ (σ5_3.2 7).toInt ∧ (σ5_3.2 7).toInt ≤ 400 := Iσ5_3.2.1 7
      exact hs_some (hQ σ5_3 (0 : Int32) Iσ5_3 (show (σ5_3.2 6).toInt = g by omega) (show (σ5_3.2 5).toInt ≤ g by omega) (show (σ5_3.2 7).toInt = (σ5_3.2 5).toInt by omega) (show (σ5_3.2 4).toInt = h by omega))
    · have : ¬ (v2_1 : Int32).toInt = (0) := fun z => h_2 (Int32.toInt_inj.mp z)
      obtain ⟨e_4, he_4⟩ : ∃ e9 : Int32, e9 = ((σ.2 5) + 1) := ⟨_, rfl⟩
      try have : e_4.toInt = ((σ.2 5) : Int32).toInt + (1) := by rw [he_4]; exact hs_addk (1) rfl (by omega) (by omega)
      try rw [← he_4]
      refine hs_pf (v := e_4) I ⟨(by omega : (0 : Int) ≤ (e_4 : Int32).toInt), (by omega : (e_4 : Int32).toInt ≤ 400)⟩ (fun r => ⟨hm_Ri (by decide) r.1, ri 5 (by decide) _ _ r.2⟩) (fun σ7_5 eσ7_5 Iσ7_5 => ?_)
      have : (σ7_5.2 4).toInt = (σ.2 4).toInt := by rw [eσ7_5]; rfl
      have : (σ7_5.2 5).toInt = (e_4 : Int32).toInt := by rw [eσ7_5]; rfl
      have : (σ7_5.2 6).toInt = (σ.2 6).toInt := by rw [eσ7_5]; rfl
      have : (σ7_5.2 7).toInt = (σ.2 7).toInt := by rw [eσ7_5]; rfl
      have : (0 : Int) ≤ (σ7_5.2 4).toInt ∧ (σ7_5.2 4).toInt ≤ 400 := Iσ7_5.2.1 4
      have : (0 : Int) ≤ (σ7_5.2 5).toInt ∧ (σ7_5.2 5).toInt ≤ 400 := Iσ7_5.2.1 5
      have : (0 : Int) ≤ (σ7_5.2 6).toInt ∧ (σ7_5.2 6).toInt ≤ 400 := Iσ7_5.2.1 6
      have : (0 : Int) ≤ (σ7_5.2 7).toInt ∧ (σ7_5.2 7).toInt ≤ 400 := Iσ7_5.2.1 7
      exact ih σ7_5  Iσ7_5 (show (σ7_5.2 6).toInt = g by omega) (show (σ7_5.2 5).toInt ≤ g by omega) (show (σ7_5.2 4).toInt = h by omega)  (by omega)
theorem s_fX10_blanks {R : hy_S → Prop} (ra : ∀ j, j ∈ ([] : List Nat) → ∀ (τ : hy_S) (g : Nat → Int32), R τ → R (hy_sc τ j g)) (ri : ∀ j, j ∈ ([5, 7] : List Nat) → ∀ (τ : hy_S) (v : Int32), R τ → R (hy_si τ j v)) (σ : hy_S) {P : hy_S → Int32 → Prop} (I : hm_I R σ) (p0 : (σ.2 5).toInt ≤ (σ.2 6).toInt) (hQ : ∀ (σ9 : hy_S) (v9 : Int32), hm_I R σ9 → (σ9.2 6).toInt = (σ.2 6).toInt → (σ9.2 5).toInt ≤ (σ.2 6).toInt → (σ9.2 7).toInt = (σ9.2 5).toInt → (σ9.2 4).toInt = (σ.2 4).toInt → P σ9 v9) : hs_ok2 (fX10_blanks σ ) P := by
  unfold fX10_blanks
  show hs_ok _ _
  have : (0 : Int) ≤ (σ.2 4).toInt ∧ (σ.2 4).toInt ≤ 400 := I.2.1 4
  have : (0 : Int) ≤ (σ.2 5).toInt ∧ (σ.2 5).toInt ≤ 400 := I.2.1 5
  have : (0 : Int) ≤ (σ.2 6).toInt ∧ (σ.2 6).toInt ≤ 400 := I.2.1 6
  have : (0 : Int) ≤ (σ.2 7).toInt ∧ (σ.2 7).toInt ≤ 400 := I.2.1 7
  have hfu : ((hy_fu : Nat) : Int) = 5000 := rfl
  refine s_fX10_blanks_0 (fun j h => ra j (hs_inc (by decide) h)) (fun j h => ri j (hs_inc (by decide) h)) ((σ.2 6).toInt) ((σ.2 4).toInt) (fun τ_1 v_2 Iτ_1 gv_2_0 gv_2_1 gv_2_2 gv_2_3 => ?_)  hy_fu σ  I (show (σ.2 6).toInt = ((σ.2 6).toInt) by omega) (show (σ.2 5).toInt ≤ ((σ.2 6).toInt) by omega) (show (σ.2 4).toInt = ((σ.2 4).toInt) by omega)  (show (σ.2 6).toInt - (σ.2 5).toInt < ((hy_fu : Nat) : Int) by rw [hfu]; omega)
  have : (0 : Int) ≤ (τ_1.2 4).toInt ∧ (τ_1.2 4).toInt ≤ 400 := Iτ_1.2.1 4
  have : (0 : Int) ≤ (τ_1.2 5).toInt ∧ (τ_1.2 5).toInt ≤ 400 := Iτ_1.2.1 5
  have : (0 : Int) ≤ (τ_1.2 6).toInt ∧ (τ_1.2 6).toInt ≤ 400 := Iτ_1.2.1 6
  have : (0 : Int) ≤ (τ_1.2 7).toInt ∧ (τ_1.2 7).toInt ≤ 400 := Iτ_1.2.1 7
  exact (hQ τ_1 (v_2 : Int32) Iτ_1 (show (τ_1.2 6).toInt = (σ.2 6).toInt by omega) (show (τ_1.2 5).toInt ≤ (σ.2 6).toInt by omega) (show (τ_1.2 7).toInt = (τ_1.2 5).toInt by omega) (show (τ_1.2 4).toInt = (σ.2 4).toInt by omega))
theorem s_fX10_isFalse {R : hy_S → Prop} (σ : hy_S) (x1 : Int32) {P : hy_S → Int32 → Prop} (I : hm_I R σ) (p0 : 0 ≤ x1.toInt) (p1 : x1.toInt < 8) (hQ : ∀ v9 : Int32, P σ v9) : hs_ok2 (fX10_isFalse σ x1) P := by
  unfold fX10_isFalse
  show hs_ok _ _
  have : (0 : Int) ≤ (σ.2 2).toInt ∧ (σ.2 2).toInt ≤ 60 := I.2.1 2
  refine hs_ga (j := 19) I (by decide) (by decide) (fun v1_1 ev1_1 (bv1_1 : (-2147483648 : Int) ≤ v1_1.toInt ∧ v1_1.toInt ≤ 2147483647) => ?_)
  refine hs_bd (s_fX10_noJar σ v1_1 I  (fun v5_2 (gv5_2_0 : 0 ≤ v5_2.toInt) (gv5_2_1 : v5_2.toInt ≤ 1) (gv5_2_2 : v5_2.toInt = 1 ∨ (0 ≤ (v1_1 : Int32).toInt ∧ (v1_1 : Int32).toInt < (σ.2 2).toInt)) => ?_))
  refine hs_ite (fun h_3 => ?_) (fun h_3 => ?_)
  · have : (v5_2 : Int32).toInt = (0) := congrArg Int32.toInt h_3
    refine hs_ga (j := 7) I (by omega) (by omega) (fun v8_4 ev8_4 (bv8_4 : (-2147483648 : Int) ≤ v8_4.toInt ∧ v8_4.toInt ≤ 2147483647) => ?_)
    refine hs_ite (fun h_5 => ?_) (fun h_5 => ?_)
    · have : (v8_4 : Int32).toInt = (1) := congrArg Int32.toInt h_5
      refine hs_ga (j := 19) I (by decide) (by decide) (fun v12_6 ev12_6 (bv12_6 : (-2147483648 : Int) ≤ v12_6.toInt ∧ v12_6.toInt ≤ 2147483647) => ?_)
      refine hs_ga (j := 6) I (by omega) (by omega) (fun v15_7 ev15_7 (bv15_7 : (-2147483648 : Int) ≤ v15_7.toInt ∧ v15_7.toInt ≤ 2147483647) => ?_)
      refine hs_ite (fun h_8 => ?_) (fun h_8 => ?_)
      · have : (v12_6 : Int32).toInt = (v15_7 : Int32).toInt := congrArg Int32.toInt h_8
        refine hs_ga (j := 19) I (by decide) (by decide) (fun v19_9 ev19_9 (bv19_9 : (-2147483648 : Int) ≤ v19_9.toInt ∧ v19_9.toInt ≤ 2147483647) => ?_)
        refine hs_ga (j := 4) I (by omega) (by omega) (fun v22_10 ev22_10 (bv22_10 : (-2147483648 : Int) ≤ v22_10.toInt ∧ v22_10.toInt ≤ 2147483647) => ?_)
        refine hs_ite (fun h_11 => ?_) (fun h_11 => ?_)
        · have : (v19_9 : Int32).toInt = (v22_10 : Int32).toInt := congrArg Int32.toInt h_11
          refine hs_ga (j := 19) I (by decide) (by decide) (fun v26_12 ev26_12 (bv26_12 : (-2147483648 : Int) ≤ v26_12.toInt ∧ v26_12.toInt ≤ 2147483647) => ?_)
          refine hs_ga (j := 5) I (by omega) (by omega) (fun v29_13 ev29_13 (bv29_13 : (-2147483648 : Int) ≤ v29_13.toInt ∧ v29_13.toInt ≤ 2147483647) => ?_)
          refine hs_ite (fun h_14 => ?_) (fun h_14 => ?_)
          · have : (v26_12 : Int32).toInt = (v29_13 : Int32).toInt := congrArg Int32.toInt h_14
            refine hs_ga (j := 19) I (by decide) (by decide) (fun v33_15 ev33_15 (bv33_15 : (-2147483648 : Int) ≤ v33_15.toInt ∧ v33_15.toInt ≤ 2147483647) => ?_)
            refine hs_ga (j := 6) I (by omega) (by omega) (fun v36_16 ev36_16 (bv36_16 : (-2147483648 : Int) ≤ v36_16.toInt ∧ v36_16.toInt ≤ 2147483647) => ?_)
            refine hs_ga (j := 14) I (by omega) (by omega) (fun v39_17 ev39_17 (bv39_17 : (-2147483648 : Int) ≤ v39_17.toInt ∧ v39_17.toInt ≤ 2147483647) => ?_)
            obtain ⟨e_18, he_18⟩ : ∃ e9 : Int32, e9 = (v36_16 * v39_17) := ⟨_, rfl⟩
            try rw [← he_18]
            obtain ⟨e_19, he_19⟩ : ∃ e9 : Int32, e9 = (e_18 + 9) := ⟨_, rfl⟩
            try have : e_19.toInt = (e_18 : Int32).toInt + (9) := by rw [he_19]; exact hs_addk (9) rfl (by omega) (by omega)
            try rw [← he_19]
            obtain ⟨e_20, he_20⟩ : ∃ e9 : Int32, e9 = (e_19 / 10) := ⟨_, rfl⟩
            try have : e_20.toInt = (e_19 : Int32).toInt / (10) := by rw [he_20]; exact hs_div (10) rfl (by omega) (by omega)
            try rw [← he_20]
            refine hs_ite (fun h_21 => ?_) (fun h_21 => ?_)
            · have : (v33_15 : Int32).toInt = (e_20 : Int32).toInt := congrArg Int32.toInt h_21
              exact hs_some (hQ (0 : Int32) )
            · have : ¬ (v33_15 : Int32).toInt = (e_20 : Int32).toInt := fun z => h_21 (Int32.toInt_inj.mp z)
              exact hs_some (hQ (5 : Int32) )
          · have : ¬ (v26_12 : Int32).toInt = (v29_13 : Int32).toInt := fun z => h_14 (Int32.toInt_inj.mp z)
            exact hs_some (hQ (4 : Int32) )
        · have : ¬ (v19_9 : Int32).toInt = (v22_10 : Int32).toInt := fun z => h_11 (Int32.toInt_inj.mp z)
          exact hs_some (hQ (3 : Int32) )
      · have : ¬ (v12_6 : Int32).toInt = (v15_7 : Int32).toInt := fun z => h_8 (Int32.toInt_inj.mp z)
        exact hs_some (hQ (2 : Int32) )
    · have : ¬ (v8_4 : Int32).toInt = (1) := fun z => h_5 (Int32.toInt_inj.mp z)
      exact hs_some (hQ (1 : Int32) )
  · have : ¬ (v5_2 : Int32).toInt = (0) := fun z => h_3 (Int32.toInt_inj.mp z)
    exact hs_some (hQ (1 : Int32) )
theorem s_fX10_fault {R : hy_S → Prop} (ra : ∀ j, j ∈ ([] : List Nat) → ∀ (τ : hy_S) (g : Nat → Int32), R τ → R (hy_sc τ j g)) (ri : ∀ j, j ∈ ([0] : List Nat) → ∀ (τ : hy_S) (v : Int32), R τ → R (hy_si τ j v)) (σ : hy_S) {P : hy_S → Int32 → Prop} (I : hm_I R σ) (hQ : ∀ (σ9 : hy_S) (v9 : Int32), hm_I R σ9 → P σ9 v9) : hs_ok2 (fX10_fault σ ) P := by
  unfold fX10_fault
  show hs_ok _ _
  have : (-2147483648 : Int) ≤ (σ.2 0).toInt ∧ (σ.2 0).toInt ≤ 2147483647 := I.2.1 0
  have : (-2147483648 : Int) ≤ (σ.2 8).toInt ∧ (σ.2 8).toInt ≤ 2147483647 := I.2.1 8
  refine hs_pf (v := 0) I (hs_any _) (fun r => ⟨hm_Ri (by decide) r.1, ri 0 (by decide) _ _ r.2⟩) (fun σ1_1 eσ1_1 Iσ1_1 => ?_)
  have : (σ1_1.2 0).toInt = (0) := by rw [eσ1_1]; rfl
  have : (σ1_1.2 8).toInt = (σ.2 8).toInt := by rw [eσ1_1]; rfl
  have : (-2147483648 : Int) ≤ (σ1_1.2 0).toInt ∧ (σ1_1.2 0).toInt ≤ 2147483647 := Iσ1_1.2.1 0
  have : (-2147483648 : Int) ≤ (σ1_1.2 8).toInt ∧ (σ1_1.2 8).toInt ≤ 2147483647 := Iσ1_1.2.1 8
  exact hs_some (hQ σ1_1 ((σ1_1.2 8) : Int32) Iσ1_1 )
theorem s_fX10_notes {R : hy_S → Prop} (ra : ∀ j, j ∈ ([] : List Nat) → ∀ (τ : hy_S) (g : Nat → Int32), R τ → R (hy_sc τ j g)) (ri : ∀ j, j ∈ ([0] : List Nat) → ∀ (τ : hy_S) (v : Int32), R τ → R (hy_si τ j v)) (σ : hy_S) (x1 : Int32) (x2 : Int32) {P : hy_S → Int32 → Prop} (I : hm_I R σ) (hQ : ∀ (σ9 : hy_S) (v9 : Int32), hm_I R σ9 → P σ9 v9) : hs_ok2 (fX10_notes σ x1 x2) P := by
  unfold fX10_notes
  show hs_ok _ _
  have : (-2147483648 : Int) ≤ (σ.2 0).toInt ∧ (σ.2 0).toInt ≤ 2147483647 := I.2.1 0
  refine hs_pf (v := 0) I (hs_any _) (fun r => ⟨hm_Ri (by decide) r.1, ri 0 (by decide) _ _ r.2⟩) (fun σ1_1 eσ1_1 Iσ1_1 => ?_)
  have : (σ1_1.2 0).toInt = (0) := by rw [eσ1_1]; rfl
  have : (-2147483648 : Int) ≤ (σ1_1.2 0).toInt ∧ (σ1_1.2 0).toInt ≤ 2147483647 := Iσ1_1.2.1 0
  refine hs_bd (s_fX10_in σ1_1 x1 (0 : Int32) (7 : Int32) Iσ1_1  (fun v4_2 (gv4_2_0 : (v4_2.toInt = 1 ∧ (0) ≤ (x1 : Int32).toInt ∧ (x1 : Int32).toInt ≤ (7)) ∨ (v4_2.toInt = 0 ∧ ((x1 : Int32).toInt < (0) ∨ (7) < (x1 : Int32).toInt))) => ?_))
  refine hs_ite (fun h_3 => ?_) (fun h_3 => ?_)
  · have : (v4_2 : Int32).toInt = (0) := congrArg Int32.toInt h_3
    unfold fX10_notes_21
    refine hs_bd (s_fX10_throwsIf (fun j h => ra j (hs_inc (by decide) h)) (fun j h => ri j (hs_inc (by decide) h)) σ1_1 (1 : Int32) (1 : Int32) Iσ1_1 (show 0 ≤ (1) by omega) (show (1) ≤ 1 by omega) (fun σ1_5 v2_4 Iσ1_5 (gv2_4_0 : v2_4.toInt = (1)) (gv2_4_1 : (σ1_5.2 1).toInt = (σ1_1.2 1).toInt) (gv2_4_2 : (σ1_5.2 2).toInt = (σ1_1.2 2).toInt) (gv2_4_3 : (σ1_5.2 3).toInt = (σ1_1.2 3).toInt) (gv2_4_4 : (σ1_5.2 4).toInt = (σ1_1.2 4).toInt) (gv2_4_5 : (σ1_5.2 5).toInt = (σ1_1.2 5).toInt) (gv2_4_6 : (σ1_5.2 6).toInt = (σ1_1.2 6).toInt) (gv2_4_7 : (σ1_5.2 7).toInt = (σ1_1.2 7).toInt) (gv2_4_8 : (σ1_5.2 8).toInt = (σ1_1.2 8).toInt) (gv2_4_9 : (σ1_5.2 9).toInt = (σ1_1.2 9).toInt) (gv2_4_10 : (σ1_5.2 10).toInt = (σ1_1.2 10).toInt) (gv2_4_11 : (σ1_5.2 11).toInt = (σ1_1.2 11).toInt) (gv2_4_12 : ((1) = 0 ∧ (σ1_5.2 0).toInt = (σ1_1.2 0).toInt) ∨ ((1) = 1 ∧ (σ1_5.2 0).toInt = (1))) => ?_))
    have : (-2147483648 : Int) ≤ (σ1_5.2 0).toInt ∧ (σ1_5.2 0).toInt ≤ 2147483647 := Iσ1_5.2.1 0
    refine hs_ite (fun h_6 => ?_) (fun h_6 => ?_)
    · have : (v2_4 : Int32).toInt = (0) := congrArg Int32.toInt h_6
      refine hs_ite (fun h_7 => ?_) (fun h_7 => ?_)
      · have : (x2 : Int32).toInt = (0) := congrArg Int32.toInt h_7
        refine hs_ga (j := 15) Iσ1_5 (by omega) (by omega) (fun v6_8 ev6_8 (bv6_8 : (-2147483648 : Int) ≤ v6_8.toInt ∧ v6_8.toInt ≤ 2147483647) => ?_)
        exact hs_some (hQ σ1_5 (v6_8 : Int32) Iσ1_5 )
      · have : ¬ (x2 : Int32).toInt = (0) := fun z => h_7 (Int32.toInt_inj.mp z)
        refine hs_ga (j := 16) Iσ1_5 (by omega) (by omega) (fun v9_9 ev9_9 (bv9_9 : (-2147483648 : Int) ≤ v9_9.toInt ∧ v9_9.toInt ≤ 2147483647) => ?_)
        exact hs_some (hQ σ1_5 (v9_9 : Int32) Iσ1_5 )
    · have : ¬ (v2_4 : Int32).toInt = (0) := fun z => h_6 (Int32.toInt_inj.mp z)
      exact hs_some (hQ σ1_5 (0 : Int32) Iσ1_5 )
  · have : ¬ (v4_2 : Int32).toInt = (0) := fun z => h_3 (Int32.toInt_inj.mp z)
    unfold fX10_notes_21
    refine hs_bd (s_fX10_throwsIf (fun j h => ra j (hs_inc (by decide) h)) (fun j h => ri j (hs_inc (by decide) h)) σ1_1 (0 : Int32) (1 : Int32) Iσ1_1 (show 0 ≤ (0) by omega) (show (0) ≤ 1 by omega) (fun σ1_11 v2_10 Iσ1_11 (gv2_10_0 : v2_10.toInt = (0)) (gv2_10_1 : (σ1_11.2 1).toInt = (σ1_1.2 1).toInt) (gv2_10_2 : (σ1_11.2 2).toInt = (σ1_1.2 2).toInt) (gv2_10_3 : (σ1_11.2 3).toInt = (σ1_1.2 3).toInt) (gv2_10_4 : (σ1_11.2 4).toInt = (σ1_1.2 4).toInt) (gv2_10_5 : (σ1_11.2 5).toInt = (σ1_1.2 5).toInt) (gv2_10_6 : (σ1_11.2 6).toInt = (σ1_1.2 6).toInt) (gv2_10_7 : (σ1_11.2 7).toInt = (σ1_1.2 7).toInt) (gv2_10_8 : (σ1_11.2 8).toInt = (σ1_1.2 8).toInt) (gv2_10_9 : (σ1_11.2 9).toInt = (σ1_1.2 9).toInt) (gv2_10_10 : (σ1_11.2 10).toInt = (σ1_1.2 10).toInt) (gv2_10_11 : (σ1_11.2 11).toInt = (σ1_1.2 11).toInt) (gv2_10_12 : ((0) = 0 ∧ (σ1_11.2 0).toInt = (σ1_1.2 0).toInt) ∨ ((0) = 1 ∧ (σ1_11.2 0).toInt = (1))) => ?_))
    have : (-2147483648 : Int) ≤ (σ1_11.2 0).toInt ∧ (σ1_11.2 0).toInt ≤ 2147483647 := Iσ1_11.2.1 0
    refine hs_ite (fun h_12 => ?_) (fun h_12 => ?_)
    · have : (v2_10 : Int32).toInt = (0) := congrArg Int32.toInt h_12
      refine hs_ite (fun h_13 => ?_) (fun h_13 => ?_)
      · have : (x2 : Int32).toInt = (0) := congrArg Int32.toInt h_13
        refine hs_ga (j := 15) Iσ1_11 (by omega) (by omega) (fun v6_14 ev6_14 (bv6_14 : (-2147483648 : Int) ≤ v6_14.toInt ∧ v6_14.toInt ≤ 2147483647) => ?_)
        exact hs_some (hQ σ1_11 (v6_14 : Int32) Iσ1_11 )
      · have : ¬ (x2 : Int32).toInt = (0) := fun z => h_13 (Int32.toInt_inj.mp z)
        refine hs_ga (j := 16) Iσ1_11 (by omega) (by omega) (fun v9_15 ev9_15 (bv9_15 : (-2147483648 : Int) ≤ v9_15.toInt ∧ v9_15.toInt ≤ 2147483647) => ?_)
        exact hs_some (hQ σ1_11 (v9_15 : Int32) Iσ1_11 )
    · have : ¬ (v2_10 : Int32).toInt = (0) := fun z => h_12 (Int32.toInt_inj.mp z)
      exact hs_some (hQ σ1_11 (0 : Int32) Iσ1_11 )
theorem s_fX10_noStamp {R : hy_S → Prop} (σ : hy_S) (x0 : Int32) {P : hy_S → Int32 → Prop} (I : hm_I R σ) (hQ : ∀ v9 : Int32, 0 ≤ v9.toInt → v9.toInt ≤ 1 → v9.toInt = 1 ∨ (0 ≤ x0.toInt ∧ x0.toInt ≤ 11) → P σ v9) : hs_ok2 (fX10_noStamp σ x0) P := by
  unfold fX10_noStamp
  show hs_ok _ _
  refine hs_bd (s_fX10_in σ x0 (0 : Int32) (11 : Int32) I  (fun v2_1 (gv2_1_0 : (v2_1.toInt = 1 ∧ (0) ≤ (x0 : Int32).toInt ∧ (x0 : Int32).toInt ≤ (11)) ∨ (v2_1.toInt = 0 ∧ ((x0 : Int32).toInt < (0) ∨ (11) < (x0 : Int32).toInt))) => ?_))
  refine hs_ite (fun h_2 => ?_) (fun h_2 => ?_)
  · have : (v2_1 : Int32).toInt = (0) := congrArg Int32.toInt h_2
    exact hs_some (hQ (1 : Int32) (show 0 ≤ (1) by omega) (show (1) ≤ 1 by omega) (show (1) = 1 ∨ (0 ≤ x0.toInt ∧ x0.toInt ≤ 11) by omega))
  · have : ¬ (v2_1 : Int32).toInt = (0) := fun z => h_2 (Int32.toInt_inj.mp z)
    exact hs_some (hQ (0 : Int32) (show 0 ≤ (0) by omega) (show (0) ≤ 1 by omega) (show (0) = 1 ∨ (0 ≤ x0.toInt ∧ x0.toInt ≤ 11) by omega))
theorem s_fX10_noSherd {R : hy_S → Prop} (σ : hy_S) (x1 : Int32) {P : hy_S → Int32 → Prop} (I : hm_I R σ) (hQ : ∀ v9 : Int32, 0 ≤ v9.toInt → v9.toInt ≤ 1 → v9.toInt = 1 ∨ (0 ≤ x1.toInt ∧ x1.toInt < (σ.2 9).toInt) → P σ v9) : hs_ok2 (fX10_noSherd σ x1) P := by
  unfold fX10_noSherd
  show hs_ok _ _
  have : (0 : Int) ≤ (σ.2 9).toInt ∧ (σ.2 9).toInt ≤ 60 := I.2.1 9
  obtain ⟨e_1, he_1⟩ : ∃ e9 : Int32, e9 = ((σ.2 9) - 1) := ⟨_, rfl⟩
  try have : e_1.toInt = ((σ.2 9) : Int32).toInt - (1) := by rw [he_1]; exact hs_subk (1) rfl (by omega) (by omega)
  try rw [← he_1]
  refine hs_bd (s_fX10_in σ x1 (0 : Int32) e_1 I  (fun v2_2 (gv2_2_0 : (v2_2.toInt = 1 ∧ (0) ≤ (x1 : Int32).toInt ∧ (x1 : Int32).toInt ≤ (e_1 : Int32).toInt) ∨ (v2_2.toInt = 0 ∧ ((x1 : Int32).toInt < (0) ∨ (e_1 : Int32).toInt < (x1 : Int32).toInt))) => ?_))
  refine hs_ite (fun h_3 => ?_) (fun h_3 => ?_)
  · have : (v2_2 : Int32).toInt = (0) := congrArg Int32.toInt h_3
    exact hs_some (hQ (1 : Int32) (show 0 ≤ (1) by omega) (show (1) ≤ 1 by omega) (show (1) = 1 ∨ (0 ≤ x1.toInt ∧ x1.toInt < (σ.2 9).toInt) by omega))
  · have : ¬ (v2_2 : Int32).toInt = (0) := fun z => h_3 (Int32.toInt_inj.mp z)
    exact hs_some (hQ (0 : Int32) (show 0 ≤ (0) by omega) (show (0) ≤ 1 by omega) (show (0) = 1 ∨ (0 ≤ x1.toInt ∧ x1.toInt < (σ.2 9).toInt) by omega))
theorem s_fX10_sherd {R : hy_S → Prop} (ra : ∀ j, j ∈ ([20, 21, 22] : List Nat) → ∀ (τ : hy_S) (g : Nat → Int32), R τ → R (hy_sc τ j g)) (ri : ∀ j, j ∈ ([0, 9] : List Nat) → ∀ (τ : hy_S) (v : Int32), R τ → R (hy_si τ j v)) (σ : hy_S) (x1 : Int32) (x2 : Int32) {P : hy_S → Int32 → Prop} (I : hm_I R σ) (hQ : ∀ (σ9 : hy_S) (v9 : Int32), hm_I R σ9 → ((σ9.2 0).toInt = 0 ∧ 0 ≤ x1.toInt ∧ x1.toInt ≤ 15 ∧ (x2.toInt = -1 ∨ (0 ≤ x2.toInt ∧ x2.toInt < 12)) ∧ (σ.2 9).toInt < 60 ∧ (σ9.2 9).toInt = (σ.2 9).toInt + 1) ∨ ((x1.toInt < 0 ∨ 15 < x1.toInt ∨ (¬ x2.toInt = -1 ∧ (x2.toInt < 0 ∨ 12 ≤ x2.toInt)) ∨ 60 ≤ (σ.2 9).toInt) ∧ (σ9.2 9).toInt = (σ.2 9).toInt) → P σ9 v9) : hs_ok2 (fX10_sherd σ x1 x2) P := by
  unfold fX10_sherd
  show hs_ok _ _
  have : (-2147483648 : Int) ≤ (σ.2 0).toInt ∧ (σ.2 0).toInt ≤ 2147483647 := I.2.1 0
  have : (0 : Int) ≤ (σ.2 9).toInt ∧ (σ.2 9).toInt ≤ 60 := I.2.1 9
  refine hs_pf (v := 0) I (hs_any _) (fun r => ⟨hm_Ri (by decide) r.1, ri 0 (by decide) _ _ r.2⟩) (fun σ1_1 eσ1_1 Iσ1_1 => ?_)
  have : (σ1_1.2 0).toInt = (0) := by rw [eσ1_1]; rfl
  have : (σ1_1.2 9).toInt = (σ.2 9).toInt := by rw [eσ1_1]; rfl
  have : (-2147483648 : Int) ≤ (σ1_1.2 0).toInt ∧ (σ1_1.2 0).toInt ≤ 2147483647 := Iσ1_1.2.1 0
  have : (0 : Int) ≤ (σ1_1.2 9).toInt ∧ (σ1_1.2 9).toInt ≤ 60 := Iσ1_1.2.1 9
  refine hs_ite (fun h_2 => ?_) (fun h_2 => ?_)
  · have : (x2 : Int32).toInt = (-1) := congrArg Int32.toInt h_2
    unfold fX10_sherd_22
    unfold fX10_sherd_23
    refine hs_bd (s_fX10_throwsIf (fun j h => ra j (hs_inc (by decide) h)) (fun j h => ri j (hs_inc (by decide) h)) σ1_1 (0 : Int32) (1 : Int32) Iσ1_1 (show 0 ≤ (0) by omega) (show (0) ≤ 1 by omega) (fun σ1_4 v2_3 Iσ1_4 (gv2_3_0 : v2_3.toInt = (0)) (gv2_3_1 : (σ1_4.2 1).toInt = (σ1_1.2 1).toInt) (gv2_3_2 : (σ1_4.2 2).toInt = (σ1_1.2 2).toInt) (gv2_3_3 : (σ1_4.2 3).toInt = (σ1_1.2 3).toInt) (gv2_3_4 : (σ1_4.2 4).toInt = (σ1_1.2 4).toInt) (gv2_3_5 : (σ1_4.2 5).toInt = (σ1_1.2 5).toInt) (gv2_3_6 : (σ1_4.2 6).toInt = (σ1_1.2 6).toInt) (gv2_3_7 : (σ1_4.2 7).toInt = (σ1_1.2 7).toInt) (gv2_3_8 : (σ1_4.2 8).toInt = (σ1_1.2 8).toInt) (gv2_3_9 : (σ1_4.2 9).toInt = (σ1_1.2 9).toInt) (gv2_3_10 : (σ1_4.2 10).toInt = (σ1_1.2 10).toInt) (gv2_3_11 : (σ1_4.2 11).toInt = (σ1_1.2 11).toInt) (gv2_3_12 : ((0) = 0 ∧ (σ1_4.2 0).toInt = (σ1_1.2 0).toInt) ∨ ((0) = 1 ∧ (σ1_4.2 0).toInt = (1))) => ?_))
    have : (-2147483648 : Int) ≤ (σ1_4.2 0).toInt ∧ (σ1_4.2 0).toInt ≤ 2147483647 := Iσ1_4.2.1 0
    have : (0 : Int) ≤ (σ1_4.2 9).toInt ∧ (σ1_4.2 9).toInt ≤ 60 := Iσ1_4.2.1 9
    refine hs_ite (fun h_5 => ?_) (fun h_5 => ?_)
    · have : (v2_3 : Int32).toInt = (0) := congrArg Int32.toInt h_5
      refine hs_bd (s_fX10_in σ1_4 x1 (0 : Int32) (15 : Int32) Iσ1_4  (fun v6_6 (gv6_6_0 : (v6_6.toInt = 1 ∧ (0) ≤ (x1 : Int32).toInt ∧ (x1 : Int32).toInt ≤ (15)) ∨ (v6_6.toInt = 0 ∧ ((x1 : Int32).toInt < (0) ∨ (15) < (x1 : Int32).toInt))) => ?_))
      refine hs_ite (fun h_7 => ?_) (fun h_7 => ?_)
      · have : (v6_6 : Int32).toInt = (0) := congrArg Int32.toInt h_7
        unfold fX10_sherd_46
        refine hs_bd (s_fX10_throwsIf (fun j h => ra j (hs_inc (by decide) h)) (fun j h => ri j (hs_inc (by decide) h)) σ1_4 (1 : Int32) (2 : Int32) Iσ1_4 (show 0 ≤ (1) by omega) (show (1) ≤ 1 by omega) (fun σ1_9 v2_8 Iσ1_9 (gv2_8_0 : v2_8.toInt = (1)) (gv2_8_1 : (σ1_9.2 1).toInt = (σ1_4.2 1).toInt) (gv2_8_2 : (σ1_9.2 2).toInt = (σ1_4.2 2).toInt) (gv2_8_3 : (σ1_9.2 3).toInt = (σ1_4.2 3).toInt) (gv2_8_4 : (σ1_9.2 4).toInt = (σ1_4.2 4).toInt) (gv2_8_5 : (σ1_9.2 5).toInt = (σ1_4.2 5).toInt) (gv2_8_6 : (σ1_9.2 6).toInt = (σ1_4.2 6).toInt) (gv2_8_7 : (σ1_9.2 7).toInt = (σ1_4.2 7).toInt) (gv2_8_8 : (σ1_9.2 8).toInt = (σ1_4.2 8).toInt) (gv2_8_9 : (σ1_9.2 9).toInt = (σ1_4.2 9).toInt) (gv2_8_10 : (σ1_9.2 10).toInt = (σ1_4.2 10).toInt) (gv2_8_11 : (σ1_9.2 11).toInt = (σ1_4.2 11).toInt) (gv2_8_12 : ((1) = 0 ∧ (σ1_9.2 0).toInt = (σ1_4.2 0).toInt) ∨ ((1) = 1 ∧ (σ1_9.2 0).toInt = (2))) => ?_))
        have : (-2147483648 : Int) ≤ (σ1_9.2 0).toInt ∧ (σ1_9.2 0).toInt ≤ 2147483647 := Iσ1_9.2.1 0
        have : (0 : Int) ≤ (σ1_9.2 9).toInt ∧ (σ1_9.2 9).toInt ≤ 60 := Iσ1_9.2.1 9
        refine hs_ite (fun h_10 => ?_) (fun h_10 => ?_)
        · have : (v2_8 : Int32).toInt = (0) := congrArg Int32.toInt h_10
          refine hs_ite (fun h_11 => ?_) (fun h_11 => ?_)
          · have : ((σ1_9.2 9) : Int32).toInt = (60) := congrArg Int32.toInt h_11
            unfold fX10_sherd_68
            refine hs_bd (s_fX10_throwsIf (fun j h => ra j (hs_inc (by decide) h)) (fun j h => ri j (hs_inc (by decide) h)) σ1_9 (1 : Int32) (3 : Int32) Iσ1_9 (show 0 ≤ (1) by omega) (show (1) ≤ 1 by omega) (fun σ1_13 v2_12 Iσ1_13 (gv2_12_0 : v2_12.toInt = (1)) (gv2_12_1 : (σ1_13.2 1).toInt = (σ1_9.2 1).toInt) (gv2_12_2 : (σ1_13.2 2).toInt = (σ1_9.2 2).toInt) (gv2_12_3 : (σ1_13.2 3).toInt = (σ1_9.2 3).toInt) (gv2_12_4 : (σ1_13.2 4).toInt = (σ1_9.2 4).toInt) (gv2_12_5 : (σ1_13.2 5).toInt = (σ1_9.2 5).toInt) (gv2_12_6 : (σ1_13.2 6).toInt = (σ1_9.2 6).toInt) (gv2_12_7 : (σ1_13.2 7).toInt = (σ1_9.2 7).toInt) (gv2_12_8 : (σ1_13.2 8).toInt = (σ1_9.2 8).toInt) (gv2_12_9 : (σ1_13.2 9).toInt = (σ1_9.2 9).toInt) (gv2_12_10 : (σ1_13.2 10).toInt = (σ1_9.2 10).toInt) (gv2_12_11 : (σ1_13.2 11).toInt = (σ1_9.2 11).toInt) (gv2_12_12 : ((1) = 0 ∧ (σ1_13.2 0).toInt = (σ1_9.2 0).toInt) ∨ ((1) = 1 ∧ (σ1_13.2 0).toInt = (3))) => ?_))
            have : (-2147483648 : Int) ≤ (σ1_13.2 0).toInt ∧ (σ1_13.2 0).toInt ≤ 2147483647 := Iσ1_13.2.1 0
            have : (0 : Int) ≤ (σ1_13.2 9).toInt ∧ (σ1_13.2 9).toInt ≤ 60 := Iσ1_13.2.1 9
            refine hs_ite (fun h_14 => ?_) (fun h_14 => ?_)
            · have : (v2_12 : Int32).toInt = (0) := congrArg Int32.toInt h_14
              refine hs_pa (idx := (σ1_13.2 9)) (v := _) Iσ1_13 (by omega) (by omega) (hs_any _) (fun r => ⟨hm_Ra (by decide) r.1, ra 20 (by decide) _ _ r.2⟩) (fun σ5_15 eσ5_15 Iσ5_15 => ?_)
              have : (σ5_15.2 0).toInt = (σ1_13.2 0).toInt := by rw [eσ5_15]; rfl
              have : (σ5_15.2 9).toInt = (σ1_13.2 9).toInt := by rw [eσ5_15]; rfl
              have : (-2147483648 : Int) ≤ (σ5_15.2 0).toInt ∧ (σ5_15.2 0).toInt ≤ 2147483647 := Iσ5_15.2.1 0
              have : (0 : Int) ≤ (σ5_15.2 9).toInt ∧ (σ5_15.2 9).toInt ≤ 60 := Iσ5_15.2.1 9
              refine hs_pa (idx := (σ5_15.2 9)) (v := _) Iσ5_15 (by omega) (by omega) (hs_any _) (fun r => ⟨hm_Ra (by decide) r.1, ra 21 (by decide) _ _ r.2⟩) (fun σ8_16 eσ8_16 Iσ8_16 => ?_)
              have : (σ8_16.2 0).toInt = (σ5_15.2 0).toInt := by rw [eσ8_16]; rfl
              have : (σ8_16.2 9).toInt = (σ5_15.2 9).toInt := by rw [eσ8_16]; rfl
              have : (-2147483648 : Int) ≤ (σ8_16.2 0).toInt ∧ (σ8_16.2 0).toInt ≤ 2147483647 := Iσ8_16.2.1 0
              have : (0 : Int) ≤ (σ8_16.2 9).toInt ∧ (σ8_16.2 9).toInt ≤ 60 := Iσ8_16.2.1 9
              refine hs_pa (idx := (σ8_16.2 9)) (v := (σ8_16.2 9)) Iσ8_16 (by omega) (by omega) ⟨(by omega : (0 : Int) ≤ ((σ8_16.2 9) : Int32).toInt), (by omega : ((σ8_16.2 9) : Int32).toInt ≤ 59)⟩ (fun r => ⟨hm_Ra (by decide) r.1, ra 22 (by decide) _ _ r.2⟩) (fun σ11_17 eσ11_17 Iσ11_17 => ?_)
              have : (σ11_17.2 0).toInt = (σ8_16.2 0).toInt := by rw [eσ11_17]; rfl
              have : (σ11_17.2 9).toInt = (σ8_16.2 9).toInt := by rw [eσ11_17]; rfl
              have : (-2147483648 : Int) ≤ (σ11_17.2 0).toInt ∧ (σ11_17.2 0).toInt ≤ 2147483647 := Iσ11_17.2.1 0
              have : (0 : Int) ≤ (σ11_17.2 9).toInt ∧ (σ11_17.2 9).toInt ≤ 60 := Iσ11_17.2.1 9
              obtain ⟨e_18, he_18⟩ : ∃ e9 : Int32, e9 = ((σ11_17.2 9) + 1) := ⟨_, rfl⟩
              try have : e_18.toInt = ((σ11_17.2 9) : Int32).toInt + (1) := by rw [he_18]; exact hs_addk (1) rfl (by omega) (by omega)
              try rw [← he_18]
              refine hs_pf (v := e_18) Iσ11_17 ⟨(by omega : (0 : Int) ≤ (e_18 : Int32).toInt), (by omega : (e_18 : Int32).toInt ≤ 60)⟩ (fun r => ⟨hm_Ri (by decide) r.1, ri 9 (by decide) _ _ r.2⟩) (fun σ14_19 eσ14_19 Iσ14_19 => ?_)
              have : (σ14_19.2 0).toInt = (σ11_17.2 0).toInt := by rw [eσ14_19]; rfl
              have : (σ14_19.2 9).toInt = (e_18 : Int32).toInt := by rw [eσ14_19]; rfl
              have : (-2147483648 : Int) ≤ (σ14_19.2 0).toInt ∧ (σ14_19.2 0).toInt ≤ 2147483647 := Iσ14_19.2.1 0
              have : (0 : Int) ≤ (σ14_19.2 9).toInt ∧ (σ14_19.2 9).toInt ≤ 60 := Iσ14_19.2.1 9
              obtain ⟨e_20, he_20⟩ : ∃ e9 : Int32, e9 = ((σ14_19.2 9) - 1) := ⟨_, rfl⟩
              try have : e_20.toInt = ((σ14_19.2 9) : Int32).toInt - (1) := by rw [he_20]; exact hs_subk (1) rfl (by omega) (by omega)
              try rw [← he_20]
              exact hs_some (hQ σ14_19 (e_20 : Int32) Iσ14_19 (show ((σ14_19.2 0).toInt = 0 ∧ 0 ≤ x1.toInt ∧ x1.toInt ≤ 15 ∧ (x2.toInt = -1 ∨ (0 ≤ x2.toInt ∧ x2.toInt < 12)) ∧ (σ.2 9).toInt < 60 ∧ (σ14_19.2 9).toInt = (σ.2 9).toInt + 1) ∨ ((x1.toInt < 0 ∨ 15 < x1.toInt ∨ (¬ x2.toInt = -1 ∧ (x2.toInt < 0 ∨ 12 ≤ x2.toInt)) ∨ 60 ≤ (σ.2 9).toInt) ∧ (σ14_19.2 9).toInt = (σ.2 9).toInt) by omega))
            · have : ¬ (v2_12 : Int32).toInt = (0) := fun z => h_14 (Int32.toInt_inj.mp z)
              exact hs_some (hQ σ1_13 (0 : Int32) Iσ1_13 (show ((σ1_13.2 0).toInt = 0 ∧ 0 ≤ x1.toInt ∧ x1.toInt ≤ 15 ∧ (x2.toInt = -1 ∨ (0 ≤ x2.toInt ∧ x2.toInt < 12)) ∧ (σ.2 9).toInt < 60 ∧ (σ1_13.2 9).toInt = (σ.2 9).toInt + 1) ∨ ((x1.toInt < 0 ∨ 15 < x1.toInt ∨ (¬ x2.toInt = -1 ∧ (x2.toInt < 0 ∨ 12 ≤ x2.toInt)) ∨ 60 ≤ (σ.2 9).toInt) ∧ (σ1_13.2 9).toInt = (σ.2 9).toInt) by omega))
          · have : ¬ ((σ1_9.2 9) : Int32).toInt = (60) := fun z => h_11 (Int32.toInt_inj.mp z)
            unfold fX10_sherd_68
            refine hs_bd (s_fX10_throwsIf (fun j h => ra j (hs_inc (by decide) h)) (fun j h => ri j (hs_inc (by decide) h)) σ1_9 (0 : Int32) (3 : Int32) Iσ1_9 (show 0 ≤ (0) by omega) (show (0) ≤ 1 by omega) (fun σ1_22 v2_21 Iσ1_22 (gv2_21_0 : v2_21.toInt = (0)) (gv2_21_1 : (σ1_22.2 1).toInt = (σ1_9.2 1).toInt) (gv2_21_2 : (σ1_22.2 2).toInt = (σ1_9.2 2).toInt) (gv2_21_3 : (σ1_22.2 3).toInt = (σ1_9.2 3).toInt) (gv2_21_4 : (σ1_22.2 4).toInt = (σ1_9.2 4).toInt) (gv2_21_5 : (σ1_22.2 5).toInt = (σ1_9.2 5).toInt) (gv2_21_6 : (σ1_22.2 6).toInt = (σ1_9.2 6).toInt) (gv2_21_7 : (σ1_22.2 7).toInt = (σ1_9.2 7).toInt) (gv2_21_8 : (σ1_22.2 8).toInt = (σ1_9.2 8).toInt) (gv2_21_9 : (σ1_22.2 9).toInt = (σ1_9.2 9).toInt) (gv2_21_10 : (σ1_22.2 10).toInt = (σ1_9.2 10).toInt) (gv2_21_11 : (σ1_22.2 11).toInt = (σ1_9.2 11).toInt) (gv2_21_12 : ((0) = 0 ∧ (σ1_22.2 0).toInt = (σ1_9.2 0).toInt) ∨ ((0) = 1 ∧ (σ1_22.2 0).toInt = (3))) => ?_))
            have : (-2147483648 : Int) ≤ (σ1_22.2 0).toInt ∧ (σ1_22.2 0).toInt ≤ 2147483647 := Iσ1_22.2.1 0
            have : (0 : Int) ≤ (σ1_22.2 9).toInt ∧ (σ1_22.2 9).toInt ≤ 60 := Iσ1_22.2.1 9
            refine hs_ite (fun h_23 => ?_) (fun h_23 => ?_)
            · have : (v2_21 : Int32).toInt = (0) := congrArg Int32.toInt h_23
              refine hs_pa (idx := (σ1_22.2 9)) (v := _) Iσ1_22 (by omega) (by omega) (hs_any _) (fun r => ⟨hm_Ra (by decide) r.1, ra 20 (by decide) _ _ r.2⟩) (fun σ5_24 eσ5_24 Iσ5_24 => ?_)
              have : (σ5_24.2 0).toInt = (σ1_22.2 0).toInt := by rw [eσ5_24]; rfl
              have : (σ5_24.2 9).toInt = (σ1_22.2 9).toInt := by rw [eσ5_24]; rfl
              have : (-2147483648 : Int) ≤ (σ5_24.2 0).toInt ∧ (σ5_24.2 0).toInt ≤ 2147483647 := Iσ5_24.2.1 0
              have : (0 : Int) ≤ (σ5_24.2 9).toInt ∧ (σ5_24.2 9).toInt ≤ 60 := Iσ5_24.2.1 9
              refine hs_pa (idx := (σ5_24.2 9)) (v := _) Iσ5_24 (by omega) (by omega) (hs_any _) (fun r => ⟨hm_Ra (by decide) r.1, ra 21 (by decide) _ _ r.2⟩) (fun σ8_25 eσ8_25 Iσ8_25 => ?_)
              have : (σ8_25.2 0).toInt = (σ5_24.2 0).toInt := by rw [eσ8_25]; rfl
              have : (σ8_25.2 9).toInt = (σ5_24.2 9).toInt := by rw [eσ8_25]; rfl
              have : (-2147483648 : Int) ≤ (σ8_25.2 0).toInt ∧ (σ8_25.2 0).toInt ≤ 2147483647 := Iσ8_25.2.1 0
              have : (0 : Int) ≤ (σ8_25.2 9).toInt ∧ (σ8_25.2 9).toInt ≤ 60 := Iσ8_25.2.1 9
              refine hs_pa (idx := (σ8_25.2 9)) (v := (σ8_25.2 9)) Iσ8_25 (by omega) (by omega) ⟨(by omega : (0 : Int) ≤ ((σ8_25.2 9) : Int32).toInt), (by omega : ((σ8_25.2 9) : Int32).toInt ≤ 59)⟩ (fun r => ⟨hm_Ra (by decide) r.1, ra 22 (by decide) _ _ r.2⟩) (fun σ11_26 eσ11_26 Iσ11_26 => ?_)
              have : (σ11_26.2 0).toInt = (σ8_25.2 0).toInt := by rw [eσ11_26]; rfl
              have : (σ11_26.2 9).toInt = (σ8_25.2 9).toInt := by rw [eσ11_26]; rfl
              have : (-2147483648 : Int) ≤ (σ11_26.2 0).toInt ∧ (σ11_26.2 0).toInt ≤ 2147483647 := Iσ11_26.2.1 0
              have : (0 : Int) ≤ (σ11_26.2 9).toInt ∧ (σ11_26.2 9).toInt ≤ 60 := Iσ11_26.2.1 9
              obtain ⟨e_27, he_27⟩ : ∃ e9 : Int32, e9 = ((σ11_26.2 9) + 1) := ⟨_, rfl⟩
              try have : e_27.toInt = ((σ11_26.2 9) : Int32).toInt + (1) := by rw [he_27]; exact hs_addk (1) rfl (by omega) (by omega)
              try rw [← he_27]
              refine hs_pf (v := e_27) Iσ11_26 ⟨(by omega : (0 : Int) ≤ (e_27 : Int32).toInt), (by omega : (e_27 : Int32).toInt ≤ 60)⟩ (fun r => ⟨hm_Ri (by decide) r.1, ri 9 (by decide) _ _ r.2⟩) (fun σ14_28 eσ14_28 Iσ14_28 => ?_)
              have : (σ14_28.2 0).toInt = (σ11_26.2 0).toInt := by rw [eσ14_28]; rfl
              have : (σ14_28.2 9).toInt = (e_27 : Int32).toInt := by rw [eσ14_28]; rfl
              have : (-2147483648 : Int) ≤ (σ14_28.2 0).toInt ∧ (σ14_28.2 0).toInt ≤ 2147483647 := Iσ14_28.2.1 0
              have : (0 : Int) ≤ (σ14_28.2 9).toInt ∧ (σ14_28.2 9).toInt ≤ 60 := Iσ14_28.2.1 9
              obtain ⟨e_29, he_29⟩ : ∃ e9 : Int32, e9 = ((σ14_28.2 9) - 1) := ⟨_, rfl⟩
              try have : e_29.toInt = ((σ14_28.2 9) : Int32).toInt - (1) := by rw [he_29]; exact hs_subk (1) rfl (by omega) (by omega)
              try rw [← he_29]
              exact hs_some (hQ σ14_28 (e_29 : Int32) Iσ14_28 (show ((σ14_28.2 0).toInt = 0 ∧ 0 ≤ x1.toInt ∧ x1.toInt ≤ 15 ∧ (x2.toInt = -1 ∨ (0 ≤ x2.toInt ∧ x2.toInt < 12)) ∧ (σ.2 9).toInt < 60 ∧ (σ14_28.2 9).toInt = (σ.2 9).toInt + 1) ∨ ((x1.toInt < 0 ∨ 15 < x1.toInt ∨ (¬ x2.toInt = -1 ∧ (x2.toInt < 0 ∨ 12 ≤ x2.toInt)) ∨ 60 ≤ (σ.2 9).toInt) ∧ (σ14_28.2 9).toInt = (σ.2 9).toInt) by omega))
            · have : ¬ (v2_21 : Int32).toInt = (0) := fun z => h_23 (Int32.toInt_inj.mp z)
              exact hs_some (hQ σ1_22 (0 : Int32) Iσ1_22 (show ((σ1_22.2 0).toInt = 0 ∧ 0 ≤ x1.toInt ∧ x1.toInt ≤ 15 ∧ (x2.toInt = -1 ∨ (0 ≤ x2.toInt ∧ x2.toInt < 12)) ∧ (σ.2 9).toInt < 60 ∧ (σ1_22.2 9).toInt = (σ.2 9).toInt + 1) ∨ ((x1.toInt < 0 ∨ 15 < x1.toInt ∨ (¬ x2.toInt = -1 ∧ (x2.toInt < 0 ∨ 12 ≤ x2.toInt)) ∨ 60 ≤ (σ.2 9).toInt) ∧ (σ1_22.2 9).toInt = (σ.2 9).toInt) by omega))
        · have : ¬ (v2_8 : Int32).toInt = (0) := fun z => h_10 (Int32.toInt_inj.mp z)
          exact hs_some (hQ σ1_9 (0 : Int32) Iσ1_9 (show ((σ1_9.2 0).toInt = 0 ∧ 0 ≤ x1.toInt ∧ x1.toInt ≤ 15 ∧ (x2.toInt = -1 ∨ (0 ≤ x2.toInt ∧ x2.toInt < 12)) ∧ (σ.2 9).toInt < 60 ∧ (σ1_9.2 9).toInt = (σ.2 9).toInt + 1) ∨ ((x1.toInt < 0 ∨ 15 < x1.toInt ∨ (¬ x2.toInt = -1 ∧ (x2.toInt < 0 ∨ 12 ≤ x2.toInt)) ∨ 60 ≤ (σ.2 9).toInt) ∧ (σ1_9.2 9).toInt = (σ.2 9).toInt) by omega))
      · have : ¬ (v6_6 : Int32).toInt = (0) := fun z => h_7 (Int32.toInt_inj.mp z)
        unfold fX10_sherd_46
        refine hs_bd (s_fX10_throwsIf (fun j h => ra j (hs_inc (by decide) h)) (fun j h => ri j (hs_inc (by decide) h)) σ1_4 (0 : Int32) (2 : Int32) Iσ1_4 (show 0 ≤ (0) by omega) (show (0) ≤ 1 by omega) (fun σ1_31 v2_30 Iσ1_31 (gv2_30_0 : v2_30.toInt = (0)) (gv2_30_1 : (σ1_31.2 1).toInt = (σ1_4.2 1).toInt) (gv2_30_2 : (σ1_31.2 2).toInt = (σ1_4.2 2).toInt) (gv2_30_3 : (σ1_31.2 3).toInt = (σ1_4.2 3).toInt) (gv2_30_4 : (σ1_31.2 4).toInt = (σ1_4.2 4).toInt) (gv2_30_5 : (σ1_31.2 5).toInt = (σ1_4.2 5).toInt) (gv2_30_6 : (σ1_31.2 6).toInt = (σ1_4.2 6).toInt) (gv2_30_7 : (σ1_31.2 7).toInt = (σ1_4.2 7).toInt) (gv2_30_8 : (σ1_31.2 8).toInt = (σ1_4.2 8).toInt) (gv2_30_9 : (σ1_31.2 9).toInt = (σ1_4.2 9).toInt) (gv2_30_10 : (σ1_31.2 10).toInt = (σ1_4.2 10).toInt) (gv2_30_11 : (σ1_31.2 11).toInt = (σ1_4.2 11).toInt) (gv2_30_12 : ((0) = 0 ∧ (σ1_31.2 0).toInt = (σ1_4.2 0).toInt) ∨ ((0) = 1 ∧ (σ1_31.2 0).toInt = (2))) => ?_))
        have : (-2147483648 : Int) ≤ (σ1_31.2 0).toInt ∧ (σ1_31.2 0).toInt ≤ 2147483647 := Iσ1_31.2.1 0
        have : (0 : Int) ≤ (σ1_31.2 9).toInt ∧ (σ1_31.2 9).toInt ≤ 60 := Iσ1_31.2.1 9
        refine hs_ite (fun h_32 => ?_) (fun h_32 => ?_)
        · have : (v2_30 : Int32).toInt = (0) := congrArg Int32.toInt h_32
          refine hs_ite (fun h_33 => ?_) (fun h_33 => ?_)
          · have : ((σ1_31.2 9) : Int32).toInt = (60) := congrArg Int32.toInt h_33
            unfold fX10_sherd_68
            refine hs_bd (s_fX10_throwsIf (fun j h => ra j (hs_inc (by decide) h)) (fun j h => ri j (hs_inc (by decide) h)) σ1_31 (1 : Int32) (3 : Int32) Iσ1_31 (show 0 ≤ (1) by omega) (show (1) ≤ 1 by omega) (fun σ1_35 v2_34 Iσ1_35 (gv2_34_0 : v2_34.toInt = (1)) (gv2_34_1 : (σ1_35.2 1).toInt = (σ1_31.2 1).toInt) (gv2_34_2 : (σ1_35.2 2).toInt = (σ1_31.2 2).toInt) (gv2_34_3 : (σ1_35.2 3).toInt = (σ1_31.2 3).toInt) (gv2_34_4 : (σ1_35.2 4).toInt = (σ1_31.2 4).toInt) (gv2_34_5 : (σ1_35.2 5).toInt = (σ1_31.2 5).toInt) (gv2_34_6 : (σ1_35.2 6).toInt = (σ1_31.2 6).toInt) (gv2_34_7 : (σ1_35.2 7).toInt = (σ1_31.2 7).toInt) (gv2_34_8 : (σ1_35.2 8).toInt = (σ1_31.2 8).toInt) (gv2_34_9 : (σ1_35.2 9).toInt = (σ1_31.2 9).toInt) (gv2_34_10 : (σ1_35.2 10).toInt = (σ1_31.2 10).toInt) (gv2_34_11 : (σ1_35.2 11).toInt = (σ1_31.2 11).toInt) (gv2_34_12 : ((1) = 0 ∧ (σ1_35.2 0).toInt = (σ1_31.2 0).toInt) ∨ ((1) = 1 ∧ (σ1_35.2 0).toInt = (3))) => ?_))
            have : (-2147483648 : Int) ≤ (σ1_35.2 0).toInt ∧ (σ1_35.2 0).toInt ≤ 2147483647 := Iσ1_35.2.1 0
            have : (0 : Int) ≤ (σ1_35.2 9).toInt ∧ (σ1_35.2 9).toInt ≤ 60 := Iσ1_35.2.1 9
            refine hs_ite (fun h_36 => ?_) (fun h_36 => ?_)
            · have : (v2_34 : Int32).toInt = (0) := congrArg Int32.toInt h_36
              refine hs_pa (idx := (σ1_35.2 9)) (v := _) Iσ1_35 (by omega) (by omega) (hs_any _) (fun r => ⟨hm_Ra (by decide) r.1, ra 20 (by decide) _ _ r.2⟩) (fun σ5_37 eσ5_37 Iσ5_37 => ?_)
              have : (σ5_37.2 0).toInt = (σ1_35.2 0).toInt := by rw [eσ5_37]; rfl
              have : (σ5_37.2 9).toInt = (σ1_35.2 9).toInt := by rw [eσ5_37]; rfl
              have : (-2147483648 : Int) ≤ (σ5_37.2 0).toInt ∧ (σ5_37.2 0).toInt ≤ 2147483647 := Iσ5_37.2.1 0
              have : (0 : Int) ≤ (σ5_37.2 9).toInt ∧ (σ5_37.2 9).toInt ≤ 60 := Iσ5_37.2.1 9
              refine hs_pa (idx := (σ5_37.2 9)) (v := _) Iσ5_37 (by omega) (by omega) (hs_any _) (fun r => ⟨hm_Ra (by decide) r.1, ra 21 (by decide) _ _ r.2⟩) (fun σ8_38 eσ8_38 Iσ8_38 => ?_)
              have : (σ8_38.2 0).toInt = (σ5_37.2 0).toInt := by rw [eσ8_38]; rfl
              have : (σ8_38.2 9).toInt = (σ5_37.2 9).toInt := by rw [eσ8_38]; rfl
              have : (-2147483648 : Int) ≤ (σ8_38.2 0).toInt ∧ (σ8_38.2 0).toInt ≤ 2147483647 := Iσ8_38.2.1 0
              have : (0 : Int) ≤ (σ8_38.2 9).toInt ∧ (σ8_38.2 9).toInt ≤ 60 := Iσ8_38.2.1 9
              refine hs_pa (idx := (σ8_38.2 9)) (v := (σ8_38.2 9)) Iσ8_38 (by omega) (by omega) ⟨(by omega : (0 : Int) ≤ ((σ8_38.2 9) : Int32).toInt), (by omega : ((σ8_38.2 9) : Int32).toInt ≤ 59)⟩ (fun r => ⟨hm_Ra (by decide) r.1, ra 22 (by decide) _ _ r.2⟩) (fun σ11_39 eσ11_39 Iσ11_39 => ?_)
              have : (σ11_39.2 0).toInt = (σ8_38.2 0).toInt := by rw [eσ11_39]; rfl
              have : (σ11_39.2 9).toInt = (σ8_38.2 9).toInt := by rw [eσ11_39]; rfl
              have : (-2147483648 : Int) ≤ (σ11_39.2 0).toInt ∧ (σ11_39.2 0).toInt ≤ 2147483647 := Iσ11_39.2.1 0
              have : (0 : Int) ≤ (σ11_39.2 9).toInt ∧ (σ11_39.2 9).toInt ≤ 60 := Iσ11_39.2.1 9
              obtain ⟨e_40, he_40⟩ : ∃ e9 : Int32, e9 = ((σ11_39.2 9) + 1) := ⟨_, rfl⟩
              try have : e_40.toInt = ((σ11_39.2 9) : Int32).toInt + (1) := by rw [he_40]; exact hs_addk (1) rfl (by omega) (by omega)
              try rw [← he_40]
              refine hs_pf (v := e_40) Iσ11_39 ⟨(by omega : (0 : Int) ≤ (e_40 : Int32).toInt), (by omega : (e_40 : Int32).toInt ≤ 60)⟩ (fun r => ⟨hm_Ri (by decide) r.1, ri 9 (by decide) _ _ r.2⟩) (fun σ14_41 eσ14_41 Iσ14_41 => ?_)
              have : (σ14_41.2 0).toInt = (σ11_39.2 0).toInt := by rw [eσ14_41]; rfl
              have : (σ14_41.2 9).toInt = (e_40 : Int32).toInt := by rw [eσ14_41]; rfl
              have : (-2147483648 : Int) ≤ (σ14_41.2 0).toInt ∧ (σ14_41.2 0).toInt ≤ 2147483647 := Iσ14_41.2.1 0
              have : (0 : Int) ≤ (σ14_41.2 9).toInt ∧ (σ14_41.2 9).toInt ≤ 60 := Iσ14_41.2.1 9
              obtain ⟨e_42, he_42⟩ : ∃ e9 : Int32, e9 = ((σ14_41.2 9) - 1) := ⟨_, rfl⟩
              try have : e_42.toInt = ((σ14_41.2 9) : Int32).toInt - (1) := by rw [he_42]; exact hs_subk (1) rfl (by omega) (by omega)
              try rw [← he_42]
              exact hs_some (hQ σ14_41 (e_42 : Int32) Iσ14_41 (show ((σ14_41.2 0).toInt = 0 ∧ 0 ≤ x1.toInt ∧ x1.toInt ≤ 15 ∧ (x2.toInt = -1 ∨ (0 ≤ x2.toInt ∧ x2.toInt < 12)) ∧ (σ.2 9).toInt < 60 ∧ (σ14_41.2 9).toInt = (σ.2 9).toInt + 1) ∨ ((x1.toInt < 0 ∨ 15 < x1.toInt ∨ (¬ x2.toInt = -1 ∧ (x2.toInt < 0 ∨ 12 ≤ x2.toInt)) ∨ 60 ≤ (σ.2 9).toInt) ∧ (σ14_41.2 9).toInt = (σ.2 9).toInt) by omega))
            · have : ¬ (v2_34 : Int32).toInt = (0) := fun z => h_36 (Int32.toInt_inj.mp z)
              exact hs_some (hQ σ1_35 (0 : Int32) Iσ1_35 (show ((σ1_35.2 0).toInt = 0 ∧ 0 ≤ x1.toInt ∧ x1.toInt ≤ 15 ∧ (x2.toInt = -1 ∨ (0 ≤ x2.toInt ∧ x2.toInt < 12)) ∧ (σ.2 9).toInt < 60 ∧ (σ1_35.2 9).toInt = (σ.2 9).toInt + 1) ∨ ((x1.toInt < 0 ∨ 15 < x1.toInt ∨ (¬ x2.toInt = -1 ∧ (x2.toInt < 0 ∨ 12 ≤ x2.toInt)) ∨ 60 ≤ (σ.2 9).toInt) ∧ (σ1_35.2 9).toInt = (σ.2 9).toInt) by omega))
          · have : ¬ ((σ1_31.2 9) : Int32).toInt = (60) := fun z => h_33 (Int32.toInt_inj.mp z)
            unfold fX10_sherd_68
            refine hs_bd (s_fX10_throwsIf (fun j h => ra j (hs_inc (by decide) h)) (fun j h => ri j (hs_inc (by decide) h)) σ1_31 (0 : Int32) (3 : Int32) Iσ1_31 (show 0 ≤ (0) by omega) (show (0) ≤ 1 by omega) (fun σ1_44 v2_43 Iσ1_44 (gv2_43_0 : v2_43.toInt = (0)) (gv2_43_1 : (σ1_44.2 1).toInt = (σ1_31.2 1).toInt) (gv2_43_2 : (σ1_44.2 2).toInt = (σ1_31.2 2).toInt) (gv2_43_3 : (σ1_44.2 3).toInt = (σ1_31.2 3).toInt) (gv2_43_4 : (σ1_44.2 4).toInt = (σ1_31.2 4).toInt) (gv2_43_5 : (σ1_44.2 5).toInt = (σ1_31.2 5).toInt) (gv2_43_6 : (σ1_44.2 6).toInt = (σ1_31.2 6).toInt) (gv2_43_7 : (σ1_44.2 7).toInt = (σ1_31.2 7).toInt) (gv2_43_8 : (σ1_44.2 8).toInt = (σ1_31.2 8).toInt) (gv2_43_9 : (σ1_44.2 9).toInt = (σ1_31.2 9).toInt) (gv2_43_10 : (σ1_44.2 10).toInt = (σ1_31.2 10).toInt) (gv2_43_11 : (σ1_44.2 11).toInt = (σ1_31.2 11).toInt) (gv2_43_12 : ((0) = 0 ∧ (σ1_44.2 0).toInt = (σ1_31.2 0).toInt) ∨ ((0) = 1 ∧ (σ1_44.2 0).toInt = (3))) => ?_))
            have : (-2147483648 : Int) ≤ (σ1_44.2 0).toInt ∧ (σ1_44.2 0).toInt ≤ 2147483647 := Iσ1_44.2.1 0
            have : (0 : Int) ≤ (σ1_44.2 9).toInt ∧ (σ1_44.2 9).toInt ≤ 60 := Iσ1_44.2.1 9
            refine hs_ite (fun h_45 => ?_) (fun h_45 => ?_)
            · have : (v2_43 : Int32).toInt = (0) := congrArg Int32.toInt h_45
              refine hs_pa (idx := (σ1_44.2 9)) (v := _) Iσ1_44 (by omega) (by omega) (hs_any _) (fun r => ⟨hm_Ra (by decide) r.1, ra 20 (by decide) _ _ r.2⟩) (fun σ5_46 eσ5_46 Iσ5_46 => ?_)
              have : (σ5_46.2 0).toInt = (σ1_44.2 0).toInt := by rw [eσ5_46]; rfl
              have : (σ5_46.2 9).toInt = (σ1_44.2 9).toInt := by rw [eσ5_46]; rfl
              have : (-2147483648 : Int) ≤ (σ5_46.2 0).toInt ∧ (σ5_46.2 0).toInt ≤ 2147483647 := Iσ5_46.2.1 0
              have : (0 : Int) ≤ (σ5_46.2 9).toInt ∧ (σ5_46.2 9).toInt ≤ 60 := Iσ5_46.2.1 9
              refine hs_pa (idx := (σ5_46.2 9)) (v := _) Iσ5_46 (by omega) (by omega) (hs_any _) (fun r => ⟨hm_Ra (by decide) r.1, ra 21 (by decide) _ _ r.2⟩) (fun σ8_47 eσ8_47 Iσ8_47 => ?_)
              have : (σ8_47.2 0).toInt = (σ5_46.2 0).toInt := by rw [eσ8_47]; rfl
              have : (σ8_47.2 9).toInt = (σ5_46.2 9).toInt := by rw [eσ8_47]; rfl
              have : (-2147483648 : Int) ≤ (σ8_47.2 0).toInt ∧ (σ8_47.2 0).toInt ≤ 2147483647 := Iσ8_47.2.1 0
              have : (0 : Int) ≤ (σ8_47.2 9).toInt ∧ (σ8_47.2 9).toInt ≤ 60 := Iσ8_47.2.1 9
              refine hs_pa (idx := (σ8_47.2 9)) (v := (σ8_47.2 9)) Iσ8_47 (by omega) (by omega) ⟨(by omega : (0 : Int) ≤ ((σ8_47.2 9) : Int32).toInt), (by omega : ((σ8_47.2 9) : Int32).toInt ≤ 59)⟩ (fun r => ⟨hm_Ra (by decide) r.1, ra 22 (by decide) _ _ r.2⟩) (fun σ11_48 eσ11_48 Iσ11_48 => ?_)
              have : (σ11_48.2 0).toInt = (σ8_47.2 0).toInt := by rw [eσ11_48]; rfl
              have : (σ11_48.2 9).toInt = (σ8_47.2 9).toInt := by rw [eσ11_48]; rfl
              have : (-2147483648 : Int) ≤ (σ11_48.2 0).toInt ∧ (σ11_48.2 0).toInt ≤ 2147483647 := Iσ11_48.2.1 0
              have : (0 : Int) ≤ (σ11_48.2 9).toInt ∧ (σ11_48.2 9).toInt ≤ 60 := Iσ11_48.2.1 9
              obtain ⟨e_49, he_49⟩ : ∃ e9 : Int32, e9 = ((σ11_48.2 9) + 1) := ⟨_, rfl⟩
              try have : e_49.toInt = ((σ11_48.2 9) : Int32).toInt + (1) := by rw [he_49]; exact hs_addk (1) rfl (by omega) (by omega)
              try rw [← he_49]
              refine hs_pf (v := e_49) Iσ11_48 ⟨(by omega : (0 : Int) ≤ (e_49 : Int32).toInt), (by omega : (e_49 : Int32).toInt ≤ 60)⟩ (fun r => ⟨hm_Ri (by decide) r.1, ri 9 (by decide) _ _ r.2⟩) (fun σ14_50 eσ14_50 Iσ14_50 => ?_)
              have : (σ14_50.2 0).toInt = (σ11_48.2 0).toInt := by rw [eσ14_50]; rfl
              have : (σ14_50.2 9).toInt = (e_49 : Int32).toInt := by rw [eσ14_50]; rfl
              have : (-2147483648 : Int) ≤ (σ14_50.2 0).toInt ∧ (σ14_50.2 0).toInt ≤ 2147483647 := Iσ14_50.2.1 0
              have : (0 : Int) ≤ (σ14_50.2 9).toInt ∧ (σ14_50.2 9).toInt ≤ 60 := Iσ14_50.2.1 9
              obtain ⟨e_51, he_51⟩ : ∃ e9 : Int32, e9 = ((σ14_50.2 9) - 1) := ⟨_, rfl⟩
              try have : e_51.toInt = ((σ14_50.2 9) : Int32).toInt - (1) := by rw [he_51]; exact hs_subk (1) rfl (by omega) (by omega)
              try rw [← he_51]
              exact hs_some (hQ σ14_50 (e_51 : Int32) Iσ14_50 (show ((σ14_50.2 0).toInt = 0 ∧ 0 ≤ x1.toInt ∧ x1.toInt ≤ 15 ∧ (x2.toInt = -1 ∨ (0 ≤ x2.toInt ∧ x2.toInt < 12)) ∧ (σ.2 9).toInt < 60 ∧ (σ14_50.2 9).toInt = (σ.2 9).toInt + 1) ∨ ((x1.toInt < 0 ∨ 15 < x1.toInt ∨ (¬ x2.toInt = -1 ∧ (x2.toInt < 0 ∨ 12 ≤ x2.toInt)) ∨ 60 ≤ (σ.2 9).toInt) ∧ (σ14_50.2 9).toInt = (σ.2 9).toInt) by omega))
            · have : ¬ (v2_43 : Int32).toInt = (0) := fun z => h_45 (Int32.toInt_inj.mp z)
              exact hs_some (hQ σ1_44 (0 : Int32) Iσ1_44 (show ((σ1_44.2 0).toInt = 0 ∧ 0 ≤ x1.toInt ∧ x1.toInt ≤ 15 ∧ (x2.toInt = -1 ∨ (0 ≤ x2.toInt ∧ x2.toInt < 12)) ∧ (σ.2 9).toInt < 60 ∧ (σ1_44.2 9).toInt = (σ.2 9).toInt + 1) ∨ ((x1.toInt < 0 ∨ 15 < x1.toInt ∨ (¬ x2.toInt = -1 ∧ (x2.toInt < 0 ∨ 12 ≤ x2.toInt)) ∨ 60 ≤ (σ.2 9).toInt) ∧ (σ1_44.2 9).toInt = (σ.2 9).toInt) by omega))
        · have : ¬ (v2_30 : Int32).toInt = (0) := fun z => h_32 (Int32.toInt_inj.mp z)
          exact hs_some (hQ σ1_31 (0 : Int32) Iσ1_31 (show ((σ1_31.2 0).toInt = 0 ∧ 0 ≤ x1.toInt ∧ x1.toInt ≤ 15 ∧ (x2.toInt = -1 ∨ (0 ≤ x2.toInt ∧ x2.toInt < 12)) ∧ (σ.2 9).toInt < 60 ∧ (σ1_31.2 9).toInt = (σ.2 9).toInt + 1) ∨ ((x1.toInt < 0 ∨ 15 < x1.toInt ∨ (¬ x2.toInt = -1 ∧ (x2.toInt < 0 ∨ 12 ≤ x2.toInt)) ∨ 60 ≤ (σ.2 9).toInt) ∧ (σ1_31.2 9).toInt = (σ.2 9).toInt) by omega))
    · have : ¬ (v2_3 : Int32).toInt = (0) := fun z => h_5 (Int32.toInt_inj.mp z)
      exact hs_some (hQ σ1_4 (0 : Int32) Iσ1_4 (show ((σ1_4.2 0).toInt = 0 ∧ 0 ≤ x1.toInt ∧ x1.toInt ≤ 15 ∧ (x2.toInt = -1 ∨ (0 ≤ x2.toInt ∧ x2.toInt < 12)) ∧ (σ.2 9).toInt < 60 ∧ (σ1_4.2 9).toInt = (σ.2 9).toInt + 1) ∨ ((x1.toInt < 0 ∨ 15 < x1.toInt ∨ (¬ x2.toInt = -1 ∧ (x2.toInt < 0 ∨ 12 ≤ x2.toInt)) ∨ 60 ≤ (σ.2 9).toInt) ∧ (σ1_4.2 9).toInt = (σ.2 9).toInt) by omega))
  · have : ¬ (x2 : Int32).toInt = (-1) := fun z => h_2 (Int32.toInt_inj.mp z)
    refine hs_bd (s_fX10_noStamp σ1_1 x2 Iσ1_1  (fun v5_52 (gv5_52_0 : 0 ≤ v5_52.toInt) (gv5_52_1 : v5_52.toInt ≤ 1) (gv5_52_2 : v5_52.toInt = 1 ∨ (0 ≤ (x2 : Int32).toInt ∧ (x2 : Int32).toInt ≤ 11)) => ?_))
    refine hs_ite (fun h_53 => ?_) (fun h_53 => ?_)
    · have : (v5_52 : Int32).toInt = (0) := congrArg Int32.toInt h_53
      unfold fX10_sherd_22
      unfold fX10_sherd_23
      refine hs_bd (s_fX10_throwsIf (fun j h => ra j (hs_inc (by decide) h)) (fun j h => ri j (hs_inc (by decide) h)) σ1_1 (0 : Int32) (1 : Int32) Iσ1_1 (show 0 ≤ (0) by omega) (show (0) ≤ 1 by omega) (fun σ1_55 v2_54 Iσ1_55 (gv2_54_0 : v2_54.toInt = (0)) (gv2_54_1 : (σ1_55.2 1).toInt = (σ1_1.2 1).toInt) (gv2_54_2 : (σ1_55.2 2).toInt = (σ1_1.2 2).toInt) (gv2_54_3 : (σ1_55.2 3).toInt = (σ1_1.2 3).toInt) (gv2_54_4 : (σ1_55.2 4).toInt = (σ1_1.2 4).toInt) (gv2_54_5 : (σ1_55.2 5).toInt = (σ1_1.2 5).toInt) (gv2_54_6 : (σ1_55.2 6).toInt = (σ1_1.2 6).toInt) (gv2_54_7 : (σ1_55.2 7).toInt = (σ1_1.2 7).toInt) (gv2_54_8 : (σ1_55.2 8).toInt = (σ1_1.2 8).toInt) (gv2_54_9 : (σ1_55.2 9).toInt = (σ1_1.2 9).toInt) (gv2_54_10 : (σ1_55.2 10).toInt = (σ1_1.2 10).toInt) (gv2_54_11 : (σ1_55.2 11).toInt = (σ1_1.2 11).toInt) (gv2_54_12 : ((0) = 0 ∧ (σ1_55.2 0).toInt = (σ1_1.2 0).toInt) ∨ ((0) = 1 ∧ (σ1_55.2 0).toInt = (1))) => ?_))
      have : (-2147483648 : Int) ≤ (σ1_55.2 0).toInt ∧ (σ1_55.2 0).toInt ≤ 2147483647 := Iσ1_55.2.1 0
      have : (0 : Int) ≤ (σ1_55.2 9).toInt ∧ (σ1_55.2 9).toInt ≤ 60 := Iσ1_55.2.1 9
      refine hs_ite (fun h_56 => ?_) (fun h_56 => ?_)
      · have : (v2_54 : Int32).toInt = (0) := congrArg Int32.toInt h_56
        refine hs_bd (s_fX10_in σ1_55 x1 (0 : Int32) (15 : Int32) Iσ1_55  (fun v6_57 (gv6_57_0 : (v6_57.toInt = 1 ∧ (0) ≤ (x1 : Int32).toInt ∧ (x1 : Int32).toInt ≤ (15)) ∨ (v6_57.toInt = 0 ∧ ((x1 : Int32).toInt < (0) ∨ (15) < (x1 : Int32).toInt))) => ?_))
        refine hs_ite (fun h_58 => ?_) (fun h_58 => ?_)
        · have : (v6_57 : Int32).toInt = (0) := congrArg Int32.toInt h_58
          unfold fX10_sherd_46
          refine hs_bd (s_fX10_throwsIf (fun j h => ra j (hs_inc (by decide) h)) (fun j h => ri j (hs_inc (by decide) h)) σ1_55 (1 : Int32) (2 : Int32) Iσ1_55 (show 0 ≤ (1) by omega) (show (1) ≤ 1 by omega) (fun σ1_60 v2_59 Iσ1_60 (gv2_59_0 : v2_59.toInt = (1)) (gv2_59_1 : (σ1_60.2 1).toInt = (σ1_55.2 1).toInt) (gv2_59_2 : (σ1_60.2 2).toInt = (σ1_55.2 2).toInt) (gv2_59_3 : (σ1_60.2 3).toInt = (σ1_55.2 3).toInt) (gv2_59_4 : (σ1_60.2 4).toInt = (σ1_55.2 4).toInt) (gv2_59_5 : (σ1_60.2 5).toInt = (σ1_55.2 5).toInt) (gv2_59_6 : (σ1_60.2 6).toInt = (σ1_55.2 6).toInt) (gv2_59_7 : (σ1_60.2 7).toInt = (σ1_55.2 7).toInt) (gv2_59_8 : (σ1_60.2 8).toInt = (σ1_55.2 8).toInt) (gv2_59_9 : (σ1_60.2 9).toInt = (σ1_55.2 9).toInt) (gv2_59_10 : (σ1_60.2 10).toInt = (σ1_55.2 10).toInt) (gv2_59_11 : (σ1_60.2 11).toInt = (σ1_55.2 11).toInt) (gv2_59_12 : ((1) = 0 ∧ (σ1_60.2 0).toInt = (σ1_55.2 0).toInt) ∨ ((1) = 1 ∧ (σ1_60.2 0).toInt = (2))) => ?_))
          have : (-2147483648 : Int) ≤ (σ1_60.2 0).toInt ∧ (σ1_60.2 0).toInt ≤ 2147483647 := Iσ1_60.2.1 0
          have : (0 : Int) ≤ (σ1_60.2 9).toInt ∧ (σ1_60.2 9).toInt ≤ 60 := Iσ1_60.2.1 9
          refine hs_ite (fun h_61 => ?_) (fun h_61 => ?_)
          · have : (v2_59 : Int32).toInt = (0) := congrArg Int32.toInt h_61
            refine hs_ite (fun h_62 => ?_) (fun h_62 => ?_)
            · have : ((σ1_60.2 9) : Int32).toInt = (60) := congrArg Int32.toInt h_62
              unfold fX10_sherd_68
              refine hs_bd (s_fX10_throwsIf (fun j h => ra j (hs_inc (by decide) h)) (fun j h => ri j (hs_inc (by decide) h)) σ1_60 (1 : Int32) (3 : Int32) Iσ1_60 (show 0 ≤ (1) by omega) (show (1) ≤ 1 by omega) (fun σ1_64 v2_63 Iσ1_64 (gv2_63_0 : v2_63.toInt = (1)) (gv2_63_1 : (σ1_64.2 1).toInt = (σ1_60.2 1).toInt) (gv2_63_2 : (σ1_64.2 2).toInt = (σ1_60.2 2).toInt) (gv2_63_3 : (σ1_64.2 3).toInt = (σ1_60.2 3).toInt) (gv2_63_4 : (σ1_64.2 4).toInt = (σ1_60.2 4).toInt) (gv2_63_5 : (σ1_64.2 5).toInt = (σ1_60.2 5).toInt) (gv2_63_6 : (σ1_64.2 6).toInt = (σ1_60.2 6).toInt) (gv2_63_7 : (σ1_64.2 7).toInt = (σ1_60.2 7).toInt) (gv2_63_8 : (σ1_64.2 8).toInt = (σ1_60.2 8).toInt) (gv2_63_9 : (σ1_64.2 9).toInt = (σ1_60.2 9).toInt) (gv2_63_10 : (σ1_64.2 10).toInt = (σ1_60.2 10).toInt) (gv2_63_11 : (σ1_64.2 11).toInt = (σ1_60.2 11).toInt) (gv2_63_12 : ((1) = 0 ∧ (σ1_64.2 0).toInt = (σ1_60.2 0).toInt) ∨ ((1) = 1 ∧ (σ1_64.2 0).toInt = (3))) => ?_))
              have : (-2147483648 : Int) ≤ (σ1_64.2 0).toInt ∧ (σ1_64.2 0).toInt ≤ 2147483647 := Iσ1_64.2.1 0
              have : (0 : Int) ≤ (σ1_64.2 9).toInt ∧ (σ1_64.2 9).toInt ≤ 60 := Iσ1_64.2.1 9
              refine hs_ite (fun h_65 => ?_) (fun h_65 => ?_)
              · have : (v2_63 : Int32).toInt = (0) := congrArg Int32.toInt h_65
                refine hs_pa (idx := (σ1_64.2 9)) (v := _) Iσ1_64 (by omega) (by omega) (hs_any _) (fun r => ⟨hm_Ra (by decide) r.1, ra 20 (by decide) _ _ r.2⟩) (fun σ5_66 eσ5_66 Iσ5_66 => ?_)
                have : (σ5_66.2 0).toInt = (σ1_64.2 0).toInt := by rw [eσ5_66]; rfl
                have : (σ5_66.2 9).toInt = (σ1_64.2 9).toInt := by rw [eσ5_66]; rfl
                have : (-2147483648 : Int) ≤ (σ5_66.2 0).toInt ∧ (σ5_66.2 0).toInt ≤ 2147483647 := Iσ5_66.2.1 0
                have : (0 : Int) ≤ (σ5_66.2 9).toInt ∧ (σ5_66.2 9).toInt ≤ 60 := Iσ5_66.2.1 9
                refine hs_pa (idx := (σ5_66.2 9)) (v := _) Iσ5_66 (by omega) (by omega) (hs_any _) (fun r => ⟨hm_Ra (by decide) r.1, ra 21 (by decide) _ _ r.2⟩) (fun σ8_67 eσ8_67 Iσ8_67 => ?_)
                have : (σ8_67.2 0).toInt = (σ5_66.2 0).toInt := by rw [eσ8_67]; rfl
                have : (σ8_67.2 9).toInt = (σ5_66.2 9).toInt := by rw [eσ8_67]; rfl
                have : (-2147483648 : Int) ≤ (σ8_67.2 0).toInt ∧ (σ8_67.2 0).toInt ≤ 2147483647 := Iσ8_67.2.1 0
                have : (0 : Int) ≤ (σ8_67.2 9).toInt ∧ (σ8_67.2 9).toInt ≤ 60 := Iσ8_67.2.1 9
                refine hs_pa (idx := (σ8_67.2 9)) (v := (σ8_67.2 9)) Iσ8_67 (by omega) (by omega) ⟨(by omega : (0 : Int) ≤ ((σ8_67.2 9) : Int32).toInt), (by omega : ((σ8_67.2 9) : Int32).toInt ≤ 59)⟩ (fun r => ⟨hm_Ra (by decide) r.1, ra 22 (by decide) _ _ r.2⟩) (fun σ11_68 eσ11_68 Iσ11_68 => ?_)
                have : (σ11_68.2 0).toInt = (σ8_67.2 0).toInt := by rw [eσ11_68]; rfl
                have : (σ11_68.2 9).toInt = (σ8_67.2 9).toInt := by rw [eσ11_68]; rfl
                have : (-2147483648 : Int) ≤ (σ11_68.2 0).toInt ∧ (σ11_68.2 0).toInt ≤ 2147483647 := Iσ11_68.2.1 0
                have : (0 : Int) ≤ (σ11_68.2 9).toInt ∧ (σ11_68.2 9).toInt ≤ 60 := Iσ11_68.2.1 9
                obtain ⟨e_69, he_69⟩ : ∃ e9 : Int32, e9 = ((σ11_68.2 9) + 1) := ⟨_, rfl⟩
                try have : e_69.toInt = ((σ11_68.2 9) : Int32).toInt + (1) := by rw [he_69]; exact hs_addk (1) rfl (by omega) (by omega)
                try rw [← he_69]
                refine hs_pf (v := e_69) Iσ11_68 ⟨(by omega : (0 : Int) ≤ (e_69 : Int32).toInt), (by omega : (e_69 : Int32).toInt ≤ 60)⟩ (fun r => ⟨hm_Ri (by decide) r.1, ri 9 (by decide) _ _ r.2⟩) (fun σ14_70 eσ14_70 Iσ14_70 => ?_)
                have : (σ14_70.2 0).toInt = (σ11_68.2 0).toInt := by rw [eσ14_70]; rfl
                have : (σ14_70.2 9).toInt = (e_69 : Int32).toInt := by rw [eσ14_70]; rfl
                have : (-2147483648 : Int) ≤ (σ14_70.2 0).toInt ∧ (σ14_70.2 0).toInt ≤ 2147483647 := Iσ14_70.2.1 0
                have : (0 : Int) ≤ (σ14_70.2 9).toInt ∧ (σ14_70.2 9).toInt ≤ 60 := Iσ14_70.2.1 9
                obtain ⟨e_71, he_71⟩ : ∃ e9 : Int32, e9 = ((σ14_70.2 9) - 1) := ⟨_, rfl⟩
                try have : e_71.toInt = ((σ14_70.2 9) : Int32).toInt - (1) := by rw [he_71]; exact hs_subk (1) rfl (by omega) (by omega)
                try rw [← he_71]
                exact hs_some (hQ σ14_70 (e_71 : Int32) Iσ14_70 (show ((σ14_70.2 0).toInt = 0 ∧ 0 ≤ x1.toInt ∧ x1.toInt ≤ 15 ∧ (x2.toInt = -1 ∨ (0 ≤ x2.toInt ∧ x2.toInt < 12)) ∧ (σ.2 9).toInt < 60 ∧ (σ14_70.2 9).toInt = (σ.2 9).toInt + 1) ∨ ((x1.toInt < 0 ∨ 15 < x1.toInt ∨ (¬ x2.toInt = -1 ∧ (x2.toInt < 0 ∨ 12 ≤ x2.toInt)) ∨ 60 ≤ (σ.2 9).toInt) ∧ (σ14_70.2 9).toInt = (σ.2 9).toInt) by omega))
              · have : ¬ (v2_63 : Int32).toInt = (0) := fun z => h_65 (Int32.toInt_inj.mp z)
                exact hs_some (hQ σ1_64 (0 : Int32) Iσ1_64 (show ((σ1_64.2 0).toInt = 0 ∧ 0 ≤ x1.toInt ∧ x1.toInt ≤ 15 ∧ (x2.toInt = -1 ∨ (0 ≤ x2.toInt ∧ x2.toInt < 12)) ∧ (σ.2 9).toInt < 60 ∧ (σ1_64.2 9).toInt = (σ.2 9).toInt + 1) ∨ ((x1.toInt < 0 ∨ 15 < x1.toInt ∨ (¬ x2.toInt = -1 ∧ (x2.toInt < 0 ∨ 12 ≤ x2.toInt)) ∨ 60 ≤ (σ.2 9).toInt) ∧ (σ1_64.2 9).toInt = (σ.2 9).toInt) by omega))
            · have : ¬ ((σ1_60.2 9) : Int32).toInt = (60) := fun z => h_62 (Int32.toInt_inj.mp z)
              unfold fX10_sherd_68
              refine hs_bd (s_fX10_throwsIf (fun j h => ra j (hs_inc (by decide) h)) (fun j h => ri j (hs_inc (by decide) h)) σ1_60 (0 : Int32) (3 : Int32) Iσ1_60 (show 0 ≤ (0) by omega) (show (0) ≤ 1 by omega) (fun σ1_73 v2_72 Iσ1_73 (gv2_72_0 : v2_72.toInt = (0)) (gv2_72_1 : (σ1_73.2 1).toInt = (σ1_60.2 1).toInt) (gv2_72_2 : (σ1_73.2 2).toInt = (σ1_60.2 2).toInt) (gv2_72_3 : (σ1_73.2 3).toInt = (σ1_60.2 3).toInt) (gv2_72_4 : (σ1_73.2 4).toInt = (σ1_60.2 4).toInt) (gv2_72_5 : (σ1_73.2 5).toInt = (σ1_60.2 5).toInt) (gv2_72_6 : (σ1_73.2 6).toInt = (σ1_60.2 6).toInt) (gv2_72_7 : (σ1_73.2 7).toInt = (σ1_60.2 7).toInt) (gv2_72_8 : (σ1_73.2 8).toInt = (σ1_60.2 8).toInt) (gv2_72_9 : (σ1_73.2 9).toInt = (σ1_60.2 9).toInt) (gv2_72_10 : (σ1_73.2 10).toInt = (σ1_60.2 10).toInt) (gv2_72_11 : (σ1_73.2 11).toInt = (σ1_60.2 11).toInt) (gv2_72_12 : ((0) = 0 ∧ (σ1_73.2 0).toInt = (σ1_60.2 0).toInt) ∨ ((0) = 1 ∧ (σ1_73.2 0).toInt = (3))) => ?_))
              have : (-2147483648 : Int) ≤ (σ1_73.2 0).toInt ∧ (σ1_73.2 0).toInt ≤ 2147483647 := Iσ1_73.2.1 0
              have : (0 : Int) ≤ (σ1_73.2 9).toInt ∧ (σ1_73.2 9).toInt ≤ 60 := Iσ1_73.2.1 9
              refine hs_ite (fun h_74 => ?_) (fun h_74 => ?_)
              · have : (v2_72 : Int32).toInt = (0) := congrArg Int32.toInt h_74
                refine hs_pa (idx := (σ1_73.2 9)) (v := _) Iσ1_73 (by omega) (by omega) (hs_any _) (fun r => ⟨hm_Ra (by decide) r.1, ra 20 (by decide) _ _ r.2⟩) (fun σ5_75 eσ5_75 Iσ5_75 => ?_)
                have : (σ5_75.2 0).toInt = (σ1_73.2 0).toInt := by rw [eσ5_75]; rfl
                have : (σ5_75.2 9).toInt = (σ1_73.2 9).toInt := by rw [eσ5_75]; rfl
                have : (-2147483648 : Int) ≤ (σ5_75.2 0).toInt ∧ (σ5_75.2 0).toInt ≤ 2147483647 := Iσ5_75.2.1 0
                have : (0 : Int) ≤ (σ5_75.2 9).toInt ∧ (σ5_75.2 9).toInt ≤ 60 := Iσ5_75.2.1 9
                refine hs_pa (idx := (σ5_75.2 9)) (v := _) Iσ5_75 (by omega) (by omega) (hs_any _) (fun r => ⟨hm_Ra (by decide) r.1, ra 21 (by decide) _ _ r.2⟩) (fun σ8_76 eσ8_76 Iσ8_76 => ?_)
                have : (σ8_76.2 0).toInt = (σ5_75.2 0).toInt := by rw [eσ8_76]; rfl
                have : (σ8_76.2 9).toInt = (σ5_75.2 9).toInt := by rw [eσ8_76]; rfl
                have : (-2147483648 : Int) ≤ (σ8_76.2 0).toInt ∧ (σ8_76.2 0).toInt ≤ 2147483647 := Iσ8_76.2.1 0
                have : (0 : Int) ≤ (σ8_76.2 9).toInt ∧ (σ8_76.2 9).toInt ≤ 60 := Iσ8_76.2.1 9
                refine hs_pa (idx := (σ8_76.2 9)) (v := (σ8_76.2 9)) Iσ8_76 (by omega) (by omega) ⟨(by omega : (0 : Int) ≤ ((σ8_76.2 9) : Int32).toInt), (by omega : ((σ8_76.2 9) : Int32).toInt ≤ 59)⟩ (fun r => ⟨hm_Ra (by decide) r.1, ra 22 (by decide) _ _ r.2⟩) (fun σ11_77 eσ11_77 Iσ11_77 => ?_)
                have : (σ11_77.2 0).toInt = (σ8_76.2 0).toInt := by rw [eσ11_77]; rfl
                have : (σ11_77.2 9).toInt = (σ8_76.2 9).toInt := by rw [eσ11_77]; rfl
                have : (-2147483648 : Int) ≤ (σ11_77.2 0).toInt ∧ (σ11_77.2 0).toInt ≤ 2147483647 := Iσ11_77.2.1 0
                have : (0 : Int) ≤ (σ11_77.2 9).toInt ∧ (σ11_77.2 9).toInt ≤ 60 := Iσ11_77.2.1 9
                obtain ⟨e_78, he_78⟩ : ∃ e9 : Int32, e9 = ((σ11_77.2 9) + 1) := ⟨_, rfl⟩
                try have : e_78.toInt = ((σ11_77.2 9) : Int32).toInt + (1) := by rw [he_78]; exact hs_addk (1) rfl (by omega) (by omega)
                try rw [← he_78]
                refine hs_pf (v := e_78) Iσ11_77 ⟨(by omega : (0 : Int) ≤ (e_78 : Int32).toInt), (by omega : (e_78 : Int32).toInt ≤ 60)⟩ (fun r => ⟨hm_Ri (by decide) r.1, ri 9 (by decide) _ _ r.2⟩) (fun σ14_79 eσ14_79 Iσ14_79 => ?_)
                have : (σ14_79.2 0).toInt = (σ11_77.2 0).toInt := by rw [eσ14_79]; rfl
                have : (σ14_79.2 9).toInt = (e_78 : Int32).toInt := by rw [eσ14_79]; rfl
                have : (-2147483648 : Int) ≤ (σ14_79.2 0).toInt ∧ (σ14_79.2 0).toInt ≤ 2147483647 := Iσ14_79.2.1 0
                have : (0 : Int) ≤ (σ14_79.2 9).toInt ∧ (σ14_79.2 9).toInt ≤ 60 := Iσ14_79.2.1 9
                obtain ⟨e_80, he_80⟩ : ∃ e9 : Int32, e9 = ((σ14_79.2 9) - 1) := ⟨_, rfl⟩
                try have : e_80.toInt = ((σ14_79.2 9) : Int32).toInt - (1) := by rw [he_80]; exact hs_subk (1) rfl (by omega) (by omega)
                try rw [← he_80]
                exact hs_some (hQ σ14_79 (e_80 : Int32) Iσ14_79 (show ((σ14_79.2 0).toInt = 0 ∧ 0 ≤ x1.toInt ∧ x1.toInt ≤ 15 ∧ (x2.toInt = -1 ∨ (0 ≤ x2.toInt ∧ x2.toInt < 12)) ∧ (σ.2 9).toInt < 60 ∧ (σ14_79.2 9).toInt = (σ.2 9).toInt + 1) ∨ ((x1.toInt < 0 ∨ 15 < x1.toInt ∨ (¬ x2.toInt = -1 ∧ (x2.toInt < 0 ∨ 12 ≤ x2.toInt)) ∨ 60 ≤ (σ.2 9).toInt) ∧ (σ14_79.2 9).toInt = (σ.2 9).toInt) by omega))
              · have : ¬ (v2_72 : Int32).toInt = (0) := fun z => h_74 (Int32.toInt_inj.mp z)
                exact hs_some (hQ σ1_73 (0 : Int32) Iσ1_73 (show ((σ1_73.2 0).toInt = 0 ∧ 0 ≤ x1.toInt ∧ x1.toInt ≤ 15 ∧ (x2.toInt = -1 ∨ (0 ≤ x2.toInt ∧ x2.toInt < 12)) ∧ (σ.2 9).toInt < 60 ∧ (σ1_73.2 9).toInt = (σ.2 9).toInt + 1) ∨ ((x1.toInt < 0 ∨ 15 < x1.toInt ∨ (¬ x2.toInt = -1 ∧ (x2.toInt < 0 ∨ 12 ≤ x2.toInt)) ∨ 60 ≤ (σ.2 9).toInt) ∧ (σ1_73.2 9).toInt = (σ.2 9).toInt) by omega))
          · have : ¬ (v2_59 : Int32).toInt = (0) := fun z => h_61 (Int32.toInt_inj.mp z)
            exact hs_some (hQ σ1_60 (0 : Int32) Iσ1_60 (show ((σ1_60.2 0).toInt = 0 ∧ 0 ≤ x1.toInt ∧ x1.toInt ≤ 15 ∧ (x2.toInt = -1 ∨ (0 ≤ x2.toInt ∧ x2.toInt < 12)) ∧ (σ.2 9).toInt < 60 ∧ (σ1_60.2 9).toInt = (σ.2 9).toInt + 1) ∨ ((x1.toInt < 0 ∨ 15 < x1.toInt ∨ (¬ x2.toInt = -1 ∧ (x2.toInt < 0 ∨ 12 ≤ x2.toInt)) ∨ 60 ≤ (σ.2 9).toInt) ∧ (σ1_60.2 9).toInt = (σ.2 9).toInt) by omega))
        · have : ¬ (v6_57 : Int32).toInt = (0) := fun z => h_58 (Int32.toInt_inj.mp z)
          unfold fX10_sherd_46
          refine hs_bd (s_fX10_throwsIf (fun j h => ra j (hs_inc (by decide) h)) (fun j h => ri j (hs_inc (by decide) h)) σ1_55 (0 : Int32) (2 : Int32) Iσ1_55 (show 0 ≤ (0) by omega) (show (0) ≤ 1 by omega) (fun σ1_82 v2_81 Iσ1_82 (gv2_81_0 : v2_81.toInt = (0)) (gv2_81_1 : (σ1_82.2 1).toInt = (σ1_55.2 1).toInt) (gv2_81_2 : (σ1_82.2 2).toInt = (σ1_55.2 2).toInt) (gv2_81_3 : (σ1_82.2 3).toInt = (σ1_55.2 3).toInt) (gv2_81_4 : (σ1_82.2 4).toInt = (σ1_55.2 4).toInt) (gv2_81_5 : (σ1_82.2 5).toInt = (σ1_55.2 5).toInt) (gv2_81_6 : (σ1_82.2 6).toInt = (σ1_55.2 6).toInt) (gv2_81_7 : (σ1_82.2 7).toInt = (σ1_55.2 7).toInt) (gv2_81_8 : (σ1_82.2 8).toInt = (σ1_55.2 8).toInt) (gv2_81_9 : (σ1_82.2 9).toInt = (σ1_55.2 9).toInt) (gv2_81_10 : (σ1_82.2 10).toInt = (σ1_55.2 10).toInt) (gv2_81_11 : (σ1_82.2 11).toInt = (σ1_55.2 11).toInt) (gv2_81_12 : ((0) = 0 ∧ (σ1_82.2 0).toInt = (σ1_55.2 0).toInt) ∨ ((0) = 1 ∧ (σ1_82.2 0).toInt = (2))) => ?_))
          have : (-2147483648 : Int) ≤ (σ1_82.2 0).toInt ∧ (σ1_82.2 0).toInt ≤ 2147483647 := Iσ1_82.2.1 0
          have : (0 : Int) ≤ (σ1_82.2 9).toInt ∧ (σ1_82.2 9).toInt ≤ 60 := Iσ1_82.2.1 9
          refine hs_ite (fun h_83 => ?_) (fun h_83 => ?_)
          · have : (v2_81 : Int32).toInt = (0) := congrArg Int32.toInt h_83
            refine hs_ite (fun h_84 => ?_) (fun h_84 => ?_)
            · have : ((σ1_82.2 9) : Int32).toInt = (60) := congrArg Int32.toInt h_84
              unfold fX10_sherd_68
              refine hs_bd (s_fX10_throwsIf (fun j h => ra j (hs_inc (by decide) h)) (fun j h => ri j (hs_inc (by decide) h)) σ1_82 (1 : Int32) (3 : Int32) Iσ1_82 (show 0 ≤ (1) by omega) (show (1) ≤ 1 by omega) (fun σ1_86 v2_85 Iσ1_86 (gv2_85_0 : v2_85.toInt = (1)) (gv2_85_1 : (σ1_86.2 1).toInt = (σ1_82.2 1).toInt) (gv2_85_2 : (σ1_86.2 2).toInt = (σ1_82.2 2).toInt) (gv2_85_3 : (σ1_86.2 3).toInt = (σ1_82.2 3).toInt) (gv2_85_4 : (σ1_86.2 4).toInt = (σ1_82.2 4).toInt) (gv2_85_5 : (σ1_86.2 5).toInt = (σ1_82.2 5).toInt) (gv2_85_6 : (σ1_86.2 6).toInt = (σ1_82.2 6).toInt) (gv2_85_7 : (σ1_86.2 7).toInt = (σ1_82.2 7).toInt) (gv2_85_8 : (σ1_86.2 8).toInt = (σ1_82.2 8).toInt) (gv2_85_9 : (σ1_86.2 9).toInt = (σ1_82.2 9).toInt) (gv2_85_10 : (σ1_86.2 10).toInt = (σ1_82.2 10).toInt) (gv2_85_11 : (σ1_86.2 11).toInt = (σ1_82.2 11).toInt) (gv2_85_12 : ((1) = 0 ∧ (σ1_86.2 0).toInt = (σ1_82.2 0).toInt) ∨ ((1) = 1 ∧ (σ1_86.2 0).toInt = (3))) => ?_))
              have : (-2147483648 : Int) ≤ (σ1_86.2 0).toInt ∧ (σ1_86.2 0).toInt ≤ 2147483647 := Iσ1_86.2.1 0
              have : (0 : Int) ≤ (σ1_86.2 9).toInt ∧ (σ1_86.2 9).toInt ≤ 60 := Iσ1_86.2.1 9
              refine hs_ite (fun h_87 => ?_) (fun h_87 => ?_)
              · have : (v2_85 : Int32).toInt = (0) := congrArg Int32.toInt h_87
                refine hs_pa (idx := (σ1_86.2 9)) (v := _) Iσ1_86 (by omega) (by omega) (hs_any _) (fun r => ⟨hm_Ra (by decide) r.1, ra 20 (by decide) _ _ r.2⟩) (fun σ5_88 eσ5_88 Iσ5_88 => ?_)
                have : (σ5_88.2 0).toInt = (σ1_86.2 0).toInt := by rw [eσ5_88]; rfl
                have : (σ5_88.2 9).toInt = (σ1_86.2 9).toInt := by rw [eσ5_88]; rfl
                have : (-2147483648 : Int) ≤ (σ5_88.2 0).toInt ∧ (σ5_88.2 0).toInt ≤ 2147483647 := Iσ5_88.2.1 0
                have : (0 : Int) ≤ (σ5_88.2 9).toInt ∧ (σ5_88.2 9).toInt ≤ 60 := Iσ5_88.2.1 9
                refine hs_pa (idx := (σ5_88.2 9)) (v := _) Iσ5_88 (by omega) (by omega) (hs_any _) (fun r => ⟨hm_Ra (by decide) r.1, ra 21 (by decide) _ _ r.2⟩) (fun σ8_89 eσ8_89 Iσ8_89 => ?_)
                have : (σ8_89.2 0).toInt = (σ5_88.2 0).toInt := by rw [eσ8_89]; rfl
                have : (σ8_89.2 9).toInt = (σ5_88.2 9).toInt := by rw [eσ8_89]; rfl
                have : (-2147483648 : Int) ≤ (σ8_89.2 0).toInt ∧ (σ8_89.2 0).toInt ≤ 2147483647 := Iσ8_89.2.1 0
                have : (0 : Int) ≤ (σ8_89.2 9).toInt ∧ (σ8_89.2 9).toInt ≤ 60 := Iσ8_89.2.1 9
                refine hs_pa (idx := (σ8_89.2 9)) (v := (σ8_89.2 9)) Iσ8_89 (by omega) (by omega) ⟨(by omega : (0 : Int) ≤ ((σ8_89.2 9) : Int32).toInt), (by omega : ((σ8_89.2 9) : Int32).toInt ≤ 59)⟩ (fun r => ⟨hm_Ra (by decide) r.1, ra 22 (by decide) _ _ r.2⟩) (fun σ11_90 eσ11_90 Iσ11_90 => ?_)
                have : (σ11_90.2 0).toInt = (σ8_89.2 0).toInt := by rw [eσ11_90]; rfl
                have : (σ11_90.2 9).toInt = (σ8_89.2 9).toInt := by rw [eσ11_90]; rfl
                have : (-2147483648 : Int) ≤ (σ11_90.2 0).toInt ∧ (σ11_90.2 0).toInt ≤ 2147483647 := Iσ11_90.2.1 0
                have : (0 : Int) ≤ (σ11_90.2 9).toInt ∧ (σ11_90.2 9).toInt ≤ 60 := Iσ11_90.2.1 9
                obtain ⟨e_91, he_91⟩ : ∃ e9 : Int32, e9 = ((σ11_90.2 9) + 1) := ⟨_, rfl⟩
                try have : e_91.toInt = ((σ11_90.2 9) : Int32).toInt + (1) := by rw [he_91]; exact hs_addk (1) rfl (by omega) (by omega)
                try rw [← he_91]
                refine hs_pf (v := e_91) Iσ11_90 ⟨(by omega : (0 : Int) ≤ (e_91 : Int32).toInt), (by omega : (e_91 : Int32).toInt ≤ 60)⟩ (fun r => ⟨hm_Ri (by decide) r.1, ri 9 (by decide) _ _ r.2⟩) (fun σ14_92 eσ14_92 Iσ14_92 => ?_)
                have : (σ14_92.2 0).toInt = (σ11_90.2 0).toInt := by rw [eσ14_92]; rfl
                have : (σ14_92.2 9).toInt = (e_91 : Int32).toInt := by rw [eσ14_92]; rfl
                have : (-2147483648 : Int) ≤ (σ14_92.2 0).toInt ∧ (σ14_92.2 0).toInt ≤ 2147483647 := Iσ14_92.2.1 0
                have : (0 : Int) ≤ (σ14_92.2 9).toInt ∧ (σ14_92.2 9).toInt ≤ 60 := Iσ14_92.2.1 9
                obtain ⟨e_93, he_93⟩ : ∃ e9 : Int32, e9 = ((σ14_92.2 9) - 1) := ⟨_, rfl⟩
                try have : e_93.toInt = ((σ14_92.2 9) : Int32).toInt - (1) := by rw [he_93]; exact hs_subk (1) rfl (by omega) (by omega)
                try rw [← he_93]
                exact hs_some (hQ σ14_92 (e_93 : Int32) Iσ14_92 (show ((σ14_92.2 0).toInt = 0 ∧ 0 ≤ x1.toInt ∧ x1.toInt ≤ 15 ∧ (x2.toInt = -1 ∨ (0 ≤ x2.toInt ∧ x2.toInt < 12)) ∧ (σ.2 9).toInt < 60 ∧ (σ14_92.2 9).toInt = (σ.2 9).toInt + 1) ∨ ((x1.toInt < 0 ∨ 15 < x1.toInt ∨ (¬ x2.toInt = -1 ∧ (x2.toInt < 0 ∨ 12 ≤ x2.toInt)) ∨ 60 ≤ (σ.2 9).toInt) ∧ (σ14_92.2 9).toInt = (σ.2 9).toInt) by omega))
              · have : ¬ (v2_85 : Int32).toInt = (0) := fun z => h_87 (Int32.toInt_inj.mp z)
                exact hs_some (hQ σ1_86 (0 : Int32) Iσ1_86 (show ((σ1_86.2 0).toInt = 0 ∧ 0 ≤ x1.toInt ∧ x1.toInt ≤ 15 ∧ (x2.toInt = -1 ∨ (0 ≤ x2.toInt ∧ x2.toInt < 12)) ∧ (σ.2 9).toInt < 60 ∧ (σ1_86.2 9).toInt = (σ.2 9).toInt + 1) ∨ ((x1.toInt < 0 ∨ 15 < x1.toInt ∨ (¬ x2.toInt = -1 ∧ (x2.toInt < 0 ∨ 12 ≤ x2.toInt)) ∨ 60 ≤ (σ.2 9).toInt) ∧ (σ1_86.2 9).toInt = (σ.2 9).toInt) by omega))
            · have : ¬ ((σ1_82.2 9) : Int32).toInt = (60) := fun z => h_84 (Int32.toInt_inj.mp z)
              unfold fX10_sherd_68
              refine hs_bd (s_fX10_throwsIf (fun j h => ra j (hs_inc (by decide) h)) (fun j h => ri j (hs_inc (by decide) h)) σ1_82 (0 : Int32) (3 : Int32) Iσ1_82 (show 0 ≤ (0) by omega) (show (0) ≤ 1 by omega) (fun σ1_95 v2_94 Iσ1_95 (gv2_94_0 : v2_94.toInt = (0)) (gv2_94_1 : (σ1_95.2 1).toInt = (σ1_82.2 1).toInt) (gv2_94_2 : (σ1_95.2 2).toInt = (σ1_82.2 2).toInt) (gv2_94_3 : (σ1_95.2 3).toInt = (σ1_82.2 3).toInt) (gv2_94_4 : (σ1_95.2 4).toInt = (σ1_82.2 4).toInt) (gv2_94_5 : (σ1_95.2 5).toInt = (σ1_82.2 5).toInt) (gv2_94_6 : (σ1_95.2 6).toInt = (σ1_82.2 6).toInt) (gv2_94_7 : (σ1_95.2 7).toInt = (σ1_82.2 7).toInt) (gv2_94_8 : (σ1_95.2 8).toInt = (σ1_82.2 8).toInt) (gv2_94_9 : (σ1_95.2 9).toInt = (σ1_82.2 9).toInt) (gv2_94_10 : (σ1_95.2 10).toInt = (σ1_82.2 10).toInt) (gv2_94_11 : (σ1_95.2 11).toInt = (σ1_82.2 11).toInt) (gv2_94_12 : ((0) = 0 ∧ (σ1_95.2 0).toInt = (σ1_82.2 0).toInt) ∨ ((0) = 1 ∧ (σ1_95.2 0).toInt = (3))) => ?_))
              have : (-2147483648 : Int) ≤ (σ1_95.2 0).toInt ∧ (σ1_95.2 0).toInt ≤ 2147483647 := Iσ1_95.2.1 0
              have : (0 : Int) ≤ (σ1_95.2 9).toInt ∧ (σ1_95.2 9).toInt ≤ 60 := Iσ1_95.2.1 9
              refine hs_ite (fun h_96 => ?_) (fun h_96 => ?_)
              · have : (v2_94 : Int32).toInt = (0) := congrArg Int32.toInt h_96
                refine hs_pa (idx := (σ1_95.2 9)) (v := _) Iσ1_95 (by omega) (by omega) (hs_any _) (fun r => ⟨hm_Ra (by decide) r.1, ra 20 (by decide) _ _ r.2⟩) (fun σ5_97 eσ5_97 Iσ5_97 => ?_)
                have : (σ5_97.2 0).toInt = (σ1_95.2 0).toInt := by rw [eσ5_97]; rfl
                have : (σ5_97.2 9).toInt = (σ1_95.2 9).toInt := by rw [eσ5_97]; rfl
                have : (-2147483648 : Int) ≤ (σ5_97.2 0).toInt ∧ (σ5_97.2 0).toInt ≤ 2147483647 := Iσ5_97.2.1 0
                have : (0 : Int) ≤ (σ5_97.2 9).toInt ∧ (σ5_97.2 9).toInt ≤ 60 := Iσ5_97.2.1 9
                refine hs_pa (idx := (σ5_97.2 9)) (v := _) Iσ5_97 (by omega) (by omega) (hs_any _) (fun r => ⟨hm_Ra (by decide) r.1, ra 21 (by decide) _ _ r.2⟩) (fun σ8_98 eσ8_98 Iσ8_98 => ?_)
                have : (σ8_98.2 0).toInt = (σ5_97.2 0).toInt := by rw [eσ8_98]; rfl
                have : (σ8_98.2 9).toInt = (σ5_97.2 9).toInt := by rw [eσ8_98]; rfl
                have : (-2147483648 : Int) ≤ (σ8_98.2 0).toInt ∧ (σ8_98.2 0).toInt ≤ 2147483647 := Iσ8_98.2.1 0
                have : (0 : Int) ≤ (σ8_98.2 9).toInt ∧ (σ8_98.2 9).toInt ≤ 60 := Iσ8_98.2.1 9
                refine hs_pa (idx := (σ8_98.2 9)) (v := (σ8_98.2 9)) Iσ8_98 (by omega) (by omega) ⟨(by omega : (0 : Int) ≤ ((σ8_98.2 9) : Int32).toInt), (by omega : ((σ8_98.2 9) : Int32).toInt ≤ 59)⟩ (fun r => ⟨hm_Ra (by decide) r.1, ra 22 (by decide) _ _ r.2⟩) (fun σ11_99 eσ11_99 Iσ11_99 => ?_)
                have : (σ11_99.2 0).toInt = (σ8_98.2 0).toInt := by rw [eσ11_99]; rfl
                have : (σ11_99.2 9).toInt = (σ8_98.2 9).toInt := by rw [eσ11_99]; rfl
                have : (-2147483648 : Int) ≤ (σ11_99.2 0).toInt ∧ (σ11_99.2 0).toInt ≤ 2147483647 := Iσ11_99.2.1 0
                have : (0 : Int) ≤ (σ11_99.2 9).toInt ∧ (σ11_99.2 9).toInt ≤ 60 := Iσ11_99.2.1 9
                obtain ⟨e_100, he_100⟩ : ∃ e9 : Int32, e9 = ((σ11_99.2 9) + 1) := ⟨_, rfl⟩
                try have : e_100.toInt = ((σ11_99.2 9) : Int32).toInt + (1) := by rw [he_100]; exact hs_addk (1) rfl (by omega) (by omega)
                try rw [← he_100]
                refine hs_pf (v := e_100) Iσ11_99 ⟨(by omega : (0 : Int) ≤ (e_100 : Int32).toInt), (by omega : (e_100 : Int32).toInt ≤ 60)⟩ (fun r => ⟨hm_Ri (by decide) r.1, ri 9 (by decide) _ _ r.2⟩) (fun σ14_101 eσ14_101 Iσ14_101 => ?_)
                have : (σ14_101.2 0).toInt = (σ11_99.2 0).toInt := by rw [eσ14_101]; rfl
                have : (σ14_101.2 9).toInt = (e_100 : Int32).toInt := by rw [eσ14_101]; rfl
                have : (-2147483648 : Int) ≤ (σ14_101.2 0).toInt ∧ (σ14_101.2 0).toInt ≤ 2147483647 := Iσ14_101.2.1 0
                have : (0 : Int) ≤ (σ14_101.2 9).toInt ∧ (σ14_101.2 9).toInt ≤ 60 := Iσ14_101.2.1 9
                obtain ⟨e_102, he_102⟩ : ∃ e9 : Int32, e9 = ((σ14_101.2 9) - 1) := ⟨_, rfl⟩
                try have : e_102.toInt = ((σ14_101.2 9) : Int32).toInt - (1) := by rw [he_102]; exact hs_subk (1) rfl (by omega) (by omega)
                try rw [← he_102]
                exact hs_some (hQ σ14_101 (e_102 : Int32) Iσ14_101 (show ((σ14_101.2 0).toInt = 0 ∧ 0 ≤ x1.toInt ∧ x1.toInt ≤ 15 ∧ (x2.toInt = -1 ∨ (0 ≤ x2.toInt ∧ x2.toInt < 12)) ∧ (σ.2 9).toInt < 60 ∧ (σ14_101.2 9).toInt = (σ.2 9).toInt + 1) ∨ ((x1.toInt < 0 ∨ 15 < x1.toInt ∨ (¬ x2.toInt = -1 ∧ (x2.toInt < 0 ∨ 12 ≤ x2.toInt)) ∨ 60 ≤ (σ.2 9).toInt) ∧ (σ14_101.2 9).toInt = (σ.2 9).toInt) by omega))
              · have : ¬ (v2_94 : Int32).toInt = (0) := fun z => h_96 (Int32.toInt_inj.mp z)
                exact hs_some (hQ σ1_95 (0 : Int32) Iσ1_95 (show ((σ1_95.2 0).toInt = 0 ∧ 0 ≤ x1.toInt ∧ x1.toInt ≤ 15 ∧ (x2.toInt = -1 ∨ (0 ≤ x2.toInt ∧ x2.toInt < 12)) ∧ (σ.2 9).toInt < 60 ∧ (σ1_95.2 9).toInt = (σ.2 9).toInt + 1) ∨ ((x1.toInt < 0 ∨ 15 < x1.toInt ∨ (¬ x2.toInt = -1 ∧ (x2.toInt < 0 ∨ 12 ≤ x2.toInt)) ∨ 60 ≤ (σ.2 9).toInt) ∧ (σ1_95.2 9).toInt = (σ.2 9).toInt) by omega))
          · have : ¬ (v2_81 : Int32).toInt = (0) := fun z => h_83 (Int32.toInt_inj.mp z)
            exact hs_some (hQ σ1_82 (0 : Int32) Iσ1_82 (show ((σ1_82.2 0).toInt = 0 ∧ 0 ≤ x1.toInt ∧ x1.toInt ≤ 15 ∧ (x2.toInt = -1 ∨ (0 ≤ x2.toInt ∧ x2.toInt < 12)) ∧ (σ.2 9).toInt < 60 ∧ (σ1_82.2 9).toInt = (σ.2 9).toInt + 1) ∨ ((x1.toInt < 0 ∨ 15 < x1.toInt ∨ (¬ x2.toInt = -1 ∧ (x2.toInt < 0 ∨ 12 ≤ x2.toInt)) ∨ 60 ≤ (σ.2 9).toInt) ∧ (σ1_82.2 9).toInt = (σ.2 9).toInt) by omega))
      · have : ¬ (v2_54 : Int32).toInt = (0) := fun z => h_56 (Int32.toInt_inj.mp z)
        exact hs_some (hQ σ1_55 (0 : Int32) Iσ1_55 (show ((σ1_55.2 0).toInt = 0 ∧ 0 ≤ x1.toInt ∧ x1.toInt ≤ 15 ∧ (x2.toInt = -1 ∨ (0 ≤ x2.toInt ∧ x2.toInt < 12)) ∧ (σ.2 9).toInt < 60 ∧ (σ1_55.2 9).toInt = (σ.2 9).toInt + 1) ∨ ((x1.toInt < 0 ∨ 15 < x1.toInt ∨ (¬ x2.toInt = -1 ∧ (x2.toInt < 0 ∨ 12 ≤ x2.toInt)) ∨ 60 ≤ (σ.2 9).toInt) ∧ (σ1_55.2 9).toInt = (σ.2 9).toInt) by omega))
    · have : ¬ (v5_52 : Int32).toInt = (0) := fun z => h_53 (Int32.toInt_inj.mp z)
      unfold fX10_sherd_23
      refine hs_bd (s_fX10_throwsIf (fun j h => ra j (hs_inc (by decide) h)) (fun j h => ri j (hs_inc (by decide) h)) σ1_1 (1 : Int32) (1 : Int32) Iσ1_1 (show 0 ≤ (1) by omega) (show (1) ≤ 1 by omega) (fun σ1_104 v2_103 Iσ1_104 (gv2_103_0 : v2_103.toInt = (1)) (gv2_103_1 : (σ1_104.2 1).toInt = (σ1_1.2 1).toInt) (gv2_103_2 : (σ1_104.2 2).toInt = (σ1_1.2 2).toInt) (gv2_103_3 : (σ1_104.2 3).toInt = (σ1_1.2 3).toInt) (gv2_103_4 : (σ1_104.2 4).toInt = (σ1_1.2 4).toInt) (gv2_103_5 : (σ1_104.2 5).toInt = (σ1_1.2 5).toInt) (gv2_103_6 : (σ1_104.2 6).toInt = (σ1_1.2 6).toInt) (gv2_103_7 : (σ1_104.2 7).toInt = (σ1_1.2 7).toInt) (gv2_103_8 : (σ1_104.2 8).toInt = (σ1_1.2 8).toInt) (gv2_103_9 : (σ1_104.2 9).toInt = (σ1_1.2 9).toInt) (gv2_103_10 : (σ1_104.2 10).toInt = (σ1_1.2 10).toInt) (gv2_103_11 : (σ1_104.2 11).toInt = (σ1_1.2 11).toInt) (gv2_103_12 : ((1) = 0 ∧ (σ1_104.2 0).toInt = (σ1_1.2 0).toInt) ∨ ((1) = 1 ∧ (σ1_104.2 0).toInt = (1))) => ?_))
      have : (-2147483648 : Int) ≤ (σ1_104.2 0).toInt ∧ (σ1_104.2 0).toInt ≤ 2147483647 := Iσ1_104.2.1 0
      have : (0 : Int) ≤ (σ1_104.2 9).toInt ∧ (σ1_104.2 9).toInt ≤ 60 := Iσ1_104.2.1 9
      refine hs_ite (fun h_105 => ?_) (fun h_105 => ?_)
      · have : (v2_103 : Int32).toInt = (0) := congrArg Int32.toInt h_105
        refine hs_bd (s_fX10_in σ1_104 x1 (0 : Int32) (15 : Int32) Iσ1_104  (fun v6_106 (gv6_106_0 : (v6_106.toInt = 1 ∧ (0) ≤ (x1 : Int32).toInt ∧ (x1 : Int32).toInt ≤ (15)) ∨ (v6_106.toInt = 0 ∧ ((x1 : Int32).toInt < (0) ∨ (15) < (x1 : Int32).toInt))) => ?_))
        refine hs_ite (fun h_107 => ?_) (fun h_107 => ?_)
        · have : (v6_106 : Int32).toInt = (0) := congrArg Int32.toInt h_107
          unfold fX10_sherd_46
          refine hs_bd (s_fX10_throwsIf (fun j h => ra j (hs_inc (by decide) h)) (fun j h => ri j (hs_inc (by decide) h)) σ1_104 (1 : Int32) (2 : Int32) Iσ1_104 (show 0 ≤ (1) by omega) (show (1) ≤ 1 by omega) (fun σ1_109 v2_108 Iσ1_109 (gv2_108_0 : v2_108.toInt = (1)) (gv2_108_1 : (σ1_109.2 1).toInt = (σ1_104.2 1).toInt) (gv2_108_2 : (σ1_109.2 2).toInt = (σ1_104.2 2).toInt) (gv2_108_3 : (σ1_109.2 3).toInt = (σ1_104.2 3).toInt) (gv2_108_4 : (σ1_109.2 4).toInt = (σ1_104.2 4).toInt) (gv2_108_5 : (σ1_109.2 5).toInt = (σ1_104.2 5).toInt) (gv2_108_6 : (σ1_109.2 6).toInt = (σ1_104.2 6).toInt) (gv2_108_7 : (σ1_109.2 7).toInt = (σ1_104.2 7).toInt) (gv2_108_8 : (σ1_109.2 8).toInt = (σ1_104.2 8).toInt) (gv2_108_9 : (σ1_109.2 9).toInt = (σ1_104.2 9).toInt) (gv2_108_10 : (σ1_109.2 10).toInt = (σ1_104.2 10).toInt) (gv2_108_11 : (σ1_109.2 11).toInt = (σ1_104.2 11).toInt) (gv2_108_12 : ((1) = 0 ∧ (σ1_109.2 0).toInt = (σ1_104.2 0).toInt) ∨ ((1) = 1 ∧ (σ1_109.2 0).toInt = (2))) => ?_))
          have : (-2147483648 : Int) ≤ (σ1_109.2 0).toInt ∧ (σ1_109.2 0).toInt ≤ 2147483647 := Iσ1_109.2.1 0
          have : (0 : Int) ≤ (σ1_109.2 9).toInt ∧ (σ1_109.2 9).toInt ≤ 60 := Iσ1_109.2.1 9
          refine hs_ite (fun h_110 => ?_) (fun h_110 => ?_)
          · have : (v2_108 : Int32).toInt = (0) := congrArg Int32.toInt h_110
            refine hs_ite (fun h_111 => ?_) (fun h_111 => ?_)
            · have : ((σ1_109.2 9) : Int32).toInt = (60) := congrArg Int32.toInt h_111
              unfold fX10_sherd_68
              refine hs_bd (s_fX10_throwsIf (fun j h => ra j (hs_inc (by decide) h)) (fun j h => ri j (hs_inc (by decide) h)) σ1_109 (1 : Int32) (3 : Int32) Iσ1_109 (show 0 ≤ (1) by omega) (show (1) ≤ 1 by omega) (fun σ1_113 v2_112 Iσ1_113 (gv2_112_0 : v2_112.toInt = (1)) (gv2_112_1 : (σ1_113.2 1).toInt = (σ1_109.2 1).toInt) (gv2_112_2 : (σ1_113.2 2).toInt = (σ1_109.2 2).toInt) (gv2_112_3 : (σ1_113.2 3).toInt = (σ1_109.2 3).toInt) (gv2_112_4 : (σ1_113.2 4).toInt = (σ1_109.2 4).toInt) (gv2_112_5 : (σ1_113.2 5).toInt = (σ1_109.2 5).toInt) (gv2_112_6 : (σ1_113.2 6).toInt = (σ1_109.2 6).toInt) (gv2_112_7 : (σ1_113.2 7).toInt = (σ1_109.2 7).toInt) (gv2_112_8 : (σ1_113.2 8).toInt = (σ1_109.2 8).toInt) (gv2_112_9 : (σ1_113.2 9).toInt = (σ1_109.2 9).toInt) (gv2_112_10 : (σ1_113.2 10).toInt = (σ1_109.2 10).toInt) (gv2_112_11 : (σ1_113.2 11).toInt = (σ1_109.2 11).toInt) (gv2_112_12 : ((1) = 0 ∧ (σ1_113.2 0).toInt = (σ1_109.2 0).toInt) ∨ ((1) = 1 ∧ (σ1_113.2 0).toInt = (3))) => ?_))
              have : (-2147483648 : Int) ≤ (σ1_113.2 0).toInt ∧ (σ1_113.2 0).toInt ≤ 2147483647 := Iσ1_113.2.1 0
              have : (0 : Int) ≤ (σ1_113.2 9).toInt ∧ (σ1_113.2 9).toInt ≤ 60 := Iσ1_113.2.1 9
              refine hs_ite (fun h_114 => ?_) (fun h_114 => ?_)
              · have : (v2_112 : Int32).toInt = (0) := congrArg Int32.toInt h_114
                refine hs_pa (idx := (σ1_113.2 9)) (v := _) Iσ1_113 (by omega) (by omega) (hs_any _) (fun r => ⟨hm_Ra (by decide) r.1, ra 20 (by decide) _ _ r.2⟩) (fun σ5_115 eσ5_115 Iσ5_115 => ?_)
                have : (σ5_115.2 0).toInt = (σ1_113.2 0).toInt := by rw [eσ5_115]; rfl
                have : (σ5_115.2 9).toInt = (σ1_113.2 9).toInt := by rw [eσ5_115]; rfl
                have : (-2147483648 : Int) ≤ (σ5_115.2 0).toInt ∧ (σ5_115.2 0).toInt ≤ 2147483647 := Iσ5_115.2.1 0
                have : (0 : Int) ≤ (σ5_115.2 9).toInt ∧ (σ5_115.2 9).toInt ≤ 60 := Iσ5_115.2.1 9
                refine hs_pa (idx := (σ5_115.2 9)) (v := _) Iσ5_115 (by omega) (by omega) (hs_any _) (fun r => ⟨hm_Ra (by decide) r.1, ra 21 (by decide) _ _ r.2⟩) (fun σ8_116 eσ8_116 Iσ8_116 => ?_)
                have : (σ8_116.2 0).toInt = (σ5_115.2 0).toInt := by rw [eσ8_116]; rfl
                have : (σ8_116.2 9).toInt = (σ5_115.2 9).toInt := by rw [eσ8_116]; rfl
                have : (-2147483648 : Int) ≤ (σ8_116.2 0).toInt ∧ (σ8_116.2 0).toInt ≤ 2147483647 := Iσ8_116.2.1 0
                have : (0 : Int) ≤ (σ8_116.2 9).toInt ∧ (σ8_116.2 9).toInt ≤ 60 := Iσ8_116.2.1 9
                refine hs_pa (idx := (σ8_116.2 9)) (v := (σ8_116.2 9)) Iσ8_116 (by omega) (by omega) ⟨(by omega : (0 : Int) ≤ ((σ8_116.2 9) : Int32).toInt), (by omega : ((σ8_116.2 9) : Int32).toInt ≤ 59)⟩ (fun r => ⟨hm_Ra (by decide) r.1, ra 22 (by decide) _ _ r.2⟩) (fun σ11_117 eσ11_117 Iσ11_117 => ?_)
                have : (σ11_117.2 0).toInt = (σ8_116.2 0).toInt := by rw [eσ11_117]; rfl
                have : (σ11_117.2 9).toInt = (σ8_116.2 9).toInt := by rw [eσ11_117]; rfl
                have : (-2147483648 : Int) ≤ (σ11_117.2 0).toInt ∧ (σ11_117.2 0).toInt ≤ 2147483647 := Iσ11_117.2.1 0
                have : (0 : Int) ≤ (σ11_117.2 9).toInt ∧ (σ11_117.2 9).toInt ≤ 60 := Iσ11_117.2.1 9
                obtain ⟨e_118, he_118⟩ : ∃ e9 : Int32, e9 = ((σ11_117.2 9) + 1) := ⟨_, rfl⟩
                try have : e_118.toInt = ((σ11_117.2 9) : Int32).toInt + (1) := by rw [he_118]; exact hs_addk (1) rfl (by omega) (by omega)
                try rw [← he_118]
                refine hs_pf (v := e_118) Iσ11_117 ⟨(by omega : (0 : Int) ≤ (e_118 : Int32).toInt), (by omega : (e_118 : Int32).toInt ≤ 60)⟩ (fun r => ⟨hm_Ri (by decide) r.1, ri 9 (by decide) _ _ r.2⟩) (fun σ14_119 eσ14_119 Iσ14_119 => ?_)
                have : (σ14_119.2 0).toInt = (σ11_117.2 0).toInt := by rw [eσ14_119]; rfl
                have : (σ14_119.2 9).toInt = (e_118 : Int32).toInt := by rw [eσ14_119]; rfl
                have : (-2147483648 : Int) ≤ (σ14_119.2 0).toInt ∧ (σ14_119.2 0).toInt ≤ 2147483647 := Iσ14_119.2.1 0
                have : (0 : Int) ≤ (σ14_119.2 9).toInt ∧ (σ14_119.2 9).toInt ≤ 60 := Iσ14_119.2.1 9
                obtain ⟨e_120, he_120⟩ : ∃ e9 : Int32, e9 = ((σ14_119.2 9) - 1) := ⟨_, rfl⟩
                try have : e_120.toInt = ((σ14_119.2 9) : Int32).toInt - (1) := by rw [he_120]; exact hs_subk (1) rfl (by omega) (by omega)
                try rw [← he_120]
                exact hs_some (hQ σ14_119 (e_120 : Int32) Iσ14_119 (show ((σ14_119.2 0).toInt = 0 ∧ 0 ≤ x1.toInt ∧ x1.toInt ≤ 15 ∧ (x2.toInt = -1 ∨ (0 ≤ x2.toInt ∧ x2.toInt < 12)) ∧ (σ.2 9).toInt < 60 ∧ (σ14_119.2 9).toInt = (σ.2 9).toInt + 1) ∨ ((x1.toInt < 0 ∨ 15 < x1.toInt ∨ (¬ x2.toInt = -1 ∧ (x2.toInt < 0 ∨ 12 ≤ x2.toInt)) ∨ 60 ≤ (σ.2 9).toInt) ∧ (σ14_119.2 9).toInt = (σ.2 9).toInt) by omega))
              · have : ¬ (v2_112 : Int32).toInt = (0) := fun z => h_114 (Int32.toInt_inj.mp z)
                exact hs_some (hQ σ1_113 (0 : Int32) Iσ1_113 (show ((σ1_113.2 0).toInt = 0 ∧ 0 ≤ x1.toInt ∧ x1.toInt ≤ 15 ∧ (x2.toInt = -1 ∨ (0 ≤ x2.toInt ∧ x2.toInt < 12)) ∧ (σ.2 9).toInt < 60 ∧ (σ1_113.2 9).toInt = (σ.2 9).toInt + 1) ∨ ((x1.toInt < 0 ∨ 15 < x1.toInt ∨ (¬ x2.toInt = -1 ∧ (x2.toInt < 0 ∨ 12 ≤ x2.toInt)) ∨ 60 ≤ (σ.2 9).toInt) ∧ (σ1_113.2 9).toInt = (σ.2 9).toInt) by omega))
            · have : ¬ ((σ1_109.2 9) : Int32).toInt = (60) := fun z => h_111 (Int32.toInt_inj.mp z)
              unfold fX10_sherd_68
              refine hs_bd (s_fX10_throwsIf (fun j h => ra j (hs_inc (by decide) h)) (fun j h => ri j (hs_inc (by decide) h)) σ1_109 (0 : Int32) (3 : Int32) Iσ1_109 (show 0 ≤ (0) by omega) (show (0) ≤ 1 by omega) (fun σ1_122 v2_121 Iσ1_122 (gv2_121_0 : v2_121.toInt = (0)) (gv2_121_1 : (σ1_122.2 1).toInt = (σ1_109.2 1).toInt) (gv2_121_2 : (σ1_122.2 2).toInt = (σ1_109.2 2).toInt) (gv2_121_3 : (σ1_122.2 3).toInt = (σ1_109.2 3).toInt) (gv2_121_4 : (σ1_122.2 4).toInt = (σ1_109.2 4).toInt) (gv2_121_5 : (σ1_122.2 5).toInt = (σ1_109.2 5).toInt) (gv2_121_6 : (σ1_122.2 6).toInt = (σ1_109.2 6).toInt) (gv2_121_7 : (σ1_122.2 7).toInt = (σ1_109.2 7).toInt) (gv2_121_8 : (σ1_122.2 8).toInt = (σ1_109.2 8).toInt) (gv2_121_9 : (σ1_122.2 9).toInt = (σ1_109.2 9).toInt) (gv2_121_10 : (σ1_122.2 10).toInt = (σ1_109.2 10).toInt) (gv2_121_11 : (σ1_122.2 11).toInt = (σ1_109.2 11).toInt) (gv2_121_12 : ((0) = 0 ∧ (σ1_122.2 0).toInt = (σ1_109.2 0).toInt) ∨ ((0) = 1 ∧ (σ1_122.2 0).toInt = (3))) => ?_))
              have : (-2147483648 : Int) ≤ (σ1_122.2 0).toInt ∧ (σ1_122.2 0).toInt ≤ 2147483647 := Iσ1_122.2.1 0
              have : (0 : Int) ≤ (σ1_122.2 9).toInt ∧ (σ1_122.2 9).toInt ≤ 60 := Iσ1_122.2.1 9
              refine hs_ite (fun h_123 => ?_) (fun h_123 => ?_)
              · have : (v2_121 : Int32).toInt = (0) := congrArg Int32.toInt h_123
                refine hs_pa (idx := (σ1_122.2 9)) (v := _) Iσ1_122 (by omega) (by omega) (hs_any _) (fun r => ⟨hm_Ra (by decide) r.1, ra 20 (by decide) _ _ r.2⟩) (fun σ5_124 eσ5_124 Iσ5_124 => ?_)
                have : (σ5_124.2 0).toInt = (σ1_122.2 0).toInt := by rw [eσ5_124]; rfl
                have : (σ5_124.2 9).toInt = (σ1_122.2 9).toInt := by rw [eσ5_124]; rfl
                have : (-2147483648 : Int) ≤ (σ5_124.2 0).toInt ∧ (σ5_124.2 0).toInt ≤ 2147483647 := Iσ5_124.2.1 0
                have : (0 : Int) ≤ (σ5_124.2 9).toInt ∧ (σ5_124.2 9).toInt ≤ 60 := Iσ5_124.2.1 9
                refine hs_pa (idx := (σ5_124.2 9)) (v := _) Iσ5_124 (by omega) (by omega) (hs_any _) (fun r => ⟨hm_Ra (by decide) r.1, ra 21 (by decide) _ _ r.2⟩) (fun σ8_125 eσ8_125 Iσ8_125 => ?_)
                have : (σ8_125.2 0).toInt = (σ5_124.2 0).toInt := by rw [eσ8_125]; rfl
                have : (σ8_125.2 9).toInt = (σ5_124.2 9).toInt := by rw [eσ8_125]; rfl
                have : (-2147483648 : Int) ≤ (σ8_125.2 0).toInt ∧ (σ8_125.2 0).toInt ≤ 2147483647 := Iσ8_125.2.1 0
                have : (0 : Int) ≤ (σ8_125.2 9).toInt ∧ (σ8_125.2 9).toInt ≤ 60 := Iσ8_125.2.1 9
                refine hs_pa (idx := (σ8_125.2 9)) (v := (σ8_125.2 9)) Iσ8_125 (by omega) (by omega) ⟨(by omega : (0 : Int) ≤ ((σ8_125.2 9) : Int32).toInt), (by omega : ((σ8_125.2 9) : Int32).toInt ≤ 59)⟩ (fun r => ⟨hm_Ra (by decide) r.1, ra 22 (by decide) _ _ r.2⟩) (fun σ11_126 eσ11_126 Iσ11_126 => ?_)
                have : (σ11_126.2 0).toInt = (σ8_125.2 0).toInt := by rw [eσ11_126]; rfl
                have : (σ11_126.2 9).toInt = (σ8_125.2 9).toInt := by rw [eσ11_126]; rfl
                have : (-2147483648 : Int) ≤ (σ11_126.2 0).toInt ∧ (σ11_126.2 0).toInt ≤ 2147483647 := Iσ11_126.2.1 0
                have : (0 : Int) ≤ (σ11_126.2 9).toInt ∧ (σ11_126.2 9).toInt ≤ 60 := Iσ11_126.2.1 9
                obtain ⟨e_127, he_127⟩ : ∃ e9 : Int32, e9 = ((σ11_126.2 9) + 1) := ⟨_, rfl⟩
                try have : e_127.toInt = ((σ11_126.2 9) : Int32).toInt + (1) := by rw [he_127]; exact hs_addk (1) rfl (by omega) (by omega)
                try rw [← he_127]
                refine hs_pf (v := e_127) Iσ11_126 ⟨(by omega : (0 : Int) ≤ (e_127 : Int32).toInt), (by omega : (e_127 : Int32).toInt ≤ 60)⟩ (fun r => ⟨hm_Ri (by decide) r.1, ri 9 (by decide) _ _ r.2⟩) (fun σ14_128 eσ14_128 Iσ14_128 => ?_)
                have : (σ14_128.2 0).toInt = (σ11_126.2 0).toInt := by rw [eσ14_128]; rfl
                have : (σ14_128.2 9).toInt = (e_127 : Int32).toInt := by rw [eσ14_128]; rfl
                have : (-2147483648 : Int) ≤ (σ14_128.2 0).toInt ∧ (σ14_128.2 0).toInt ≤ 2147483647 := Iσ14_128.2.1 0
                have : (0 : Int) ≤ (σ14_128.2 9).toInt ∧ (σ14_128.2 9).toInt ≤ 60 := Iσ14_128.2.1 9
                obtain ⟨e_129, he_129⟩ : ∃ e9 : Int32, e9 = ((σ14_128.2 9) - 1) := ⟨_, rfl⟩
                try have : e_129.toInt = ((σ14_128.2 9) : Int32).toInt - (1) := by rw [he_129]; exact hs_subk (1) rfl (by omega) (by omega)
                try rw [← he_129]
                exact hs_some (hQ σ14_128 (e_129 : Int32) Iσ14_128 (show ((σ14_128.2 0).toInt = 0 ∧ 0 ≤ x1.toInt ∧ x1.toInt ≤ 15 ∧ (x2.toInt = -1 ∨ (0 ≤ x2.toInt ∧ x2.toInt < 12)) ∧ (σ.2 9).toInt < 60 ∧ (σ14_128.2 9).toInt = (σ.2 9).toInt + 1) ∨ ((x1.toInt < 0 ∨ 15 < x1.toInt ∨ (¬ x2.toInt = -1 ∧ (x2.toInt < 0 ∨ 12 ≤ x2.toInt)) ∨ 60 ≤ (σ.2 9).toInt) ∧ (σ14_128.2 9).toInt = (σ.2 9).toInt) by omega))
              · have : ¬ (v2_121 : Int32).toInt = (0) := fun z => h_123 (Int32.toInt_inj.mp z)
                exact hs_some (hQ σ1_122 (0 : Int32) Iσ1_122 (show ((σ1_122.2 0).toInt = 0 ∧ 0 ≤ x1.toInt ∧ x1.toInt ≤ 15 ∧ (x2.toInt = -1 ∨ (0 ≤ x2.toInt ∧ x2.toInt < 12)) ∧ (σ.2 9).toInt < 60 ∧ (σ1_122.2 9).toInt = (σ.2 9).toInt + 1) ∨ ((x1.toInt < 0 ∨ 15 < x1.toInt ∨ (¬ x2.toInt = -1 ∧ (x2.toInt < 0 ∨ 12 ≤ x2.toInt)) ∨ 60 ≤ (σ.2 9).toInt) ∧ (σ1_122.2 9).toInt = (σ.2 9).toInt) by omega))
          · have : ¬ (v2_108 : Int32).toInt = (0) := fun z => h_110 (Int32.toInt_inj.mp z)
            exact hs_some (hQ σ1_109 (0 : Int32) Iσ1_109 (show ((σ1_109.2 0).toInt = 0 ∧ 0 ≤ x1.toInt ∧ x1.toInt ≤ 15 ∧ (x2.toInt = -1 ∨ (0 ≤ x2.toInt ∧ x2.toInt < 12)) ∧ (σ.2 9).toInt < 60 ∧ (σ1_109.2 9).toInt = (σ.2 9).toInt + 1) ∨ ((x1.toInt < 0 ∨ 15 < x1.toInt ∨ (¬ x2.toInt = -1 ∧ (x2.toInt < 0 ∨ 12 ≤ x2.toInt)) ∨ 60 ≤ (σ.2 9).toInt) ∧ (σ1_109.2 9).toInt = (σ.2 9).toInt) by omega))
        · have : ¬ (v6_106 : Int32).toInt = (0) := fun z => h_107 (Int32.toInt_inj.mp z)
          unfold fX10_sherd_46
          refine hs_bd (s_fX10_throwsIf (fun j h => ra j (hs_inc (by decide) h)) (fun j h => ri j (hs_inc (by decide) h)) σ1_104 (0 : Int32) (2 : Int32) Iσ1_104 (show 0 ≤ (0) by omega) (show (0) ≤ 1 by omega) (fun σ1_131 v2_130 Iσ1_131 (gv2_130_0 : v2_130.toInt = (0)) (gv2_130_1 : (σ1_131.2 1).toInt = (σ1_104.2 1).toInt) (gv2_130_2 : (σ1_131.2 2).toInt = (σ1_104.2 2).toInt) (gv2_130_3 : (σ1_131.2 3).toInt = (σ1_104.2 3).toInt) (gv2_130_4 : (σ1_131.2 4).toInt = (σ1_104.2 4).toInt) (gv2_130_5 : (σ1_131.2 5).toInt = (σ1_104.2 5).toInt) (gv2_130_6 : (σ1_131.2 6).toInt = (σ1_104.2 6).toInt) (gv2_130_7 : (σ1_131.2 7).toInt = (σ1_104.2 7).toInt) (gv2_130_8 : (σ1_131.2 8).toInt = (σ1_104.2 8).toInt) (gv2_130_9 : (σ1_131.2 9).toInt = (σ1_104.2 9).toInt) (gv2_130_10 : (σ1_131.2 10).toInt = (σ1_104.2 10).toInt) (gv2_130_11 : (σ1_131.2 11).toInt = (σ1_104.2 11).toInt) (gv2_130_12 : ((0) = 0 ∧ (σ1_131.2 0).toInt = (σ1_104.2 0).toInt) ∨ ((0) = 1 ∧ (σ1_131.2 0).toInt = (2))) => ?_))
          have : (-2147483648 : Int) ≤ (σ1_131.2 0).toInt ∧ (σ1_131.2 0).toInt ≤ 2147483647 := Iσ1_131.2.1 0
          have : (0 : Int) ≤ (σ1_131.2 9).toInt ∧ (σ1_131.2 9).toInt ≤ 60 := Iσ1_131.2.1 9
          refine hs_ite (fun h_132 => ?_) (fun h_132 => ?_)
          · have : (v2_130 : Int32).toInt = (0) := congrArg Int32.toInt h_132
            refine hs_ite (fun h_133 => ?_) (fun h_133 => ?_)
            · have : ((σ1_131.2 9) : Int32).toInt = (60) := congrArg Int32.toInt h_133
              unfold fX10_sherd_68
              refine hs_bd (s_fX10_throwsIf (fun j h => ra j (hs_inc (by decide) h)) (fun j h => ri j (hs_inc (by decide) h)) σ1_131 (1 : Int32) (3 : Int32) Iσ1_131 (show 0 ≤ (1) by omega) (show (1) ≤ 1 by omega) (fun σ1_135 v2_134 Iσ1_135 (gv2_134_0 : v2_134.toInt = (1)) (gv2_134_1 : (σ1_135.2 1).toInt = (σ1_131.2 1).toInt) (gv2_134_2 : (σ1_135.2 2).toInt = (σ1_131.2 2).toInt) (gv2_134_3 : (σ1_135.2 3).toInt = (σ1_131.2 3).toInt) (gv2_134_4 : (σ1_135.2 4).toInt = (σ1_131.2 4).toInt) (gv2_134_5 : (σ1_135.2 5).toInt = (σ1_131.2 5).toInt) (gv2_134_6 : (σ1_135.2 6).toInt = (σ1_131.2 6).toInt) (gv2_134_7 : (σ1_135.2 7).toInt = (σ1_131.2 7).toInt) (gv2_134_8 : (σ1_135.2 8).toInt = (σ1_131.2 8).toInt) (gv2_134_9 : (σ1_135.2 9).toInt = (σ1_131.2 9).toInt) (gv2_134_10 : (σ1_135.2 10).toInt = (σ1_131.2 10).toInt) (gv2_134_11 : (σ1_135.2 11).toInt = (σ1_131.2 11).toInt) (gv2_134_12 : ((1) = 0 ∧ (σ1_135.2 0).toInt = (σ1_131.2 0).toInt) ∨ ((1) = 1 ∧ (σ1_135.2 0).toInt = (3))) => ?_))
              have : (-2147483648 : Int) ≤ (σ1_135.2 0).toInt ∧ (σ1_135.2 0).toInt ≤ 2147483647 := Iσ1_135.2.1 0
              have : (0 : Int) ≤ (σ1_135.2 9).toInt ∧ (σ1_135.2 9).toInt ≤ 60 := Iσ1_135.2.1 9
              refine hs_ite (fun h_136 => ?_) (fun h_136 => ?_)
              · have : (v2_134 : Int32).toInt = (0) := congrArg Int32.toInt h_136
                refine hs_pa (idx := (σ1_135.2 9)) (v := _) Iσ1_135 (by omega) (by omega) (hs_any _) (fun r => ⟨hm_Ra (by decide) r.1, ra 20 (by decide) _ _ r.2⟩) (fun σ5_137 eσ5_137 Iσ5_137 => ?_)
                have : (σ5_137.2 0).toInt = (σ1_135.2 0).toInt := by rw [eσ5_137]; rfl
                have : (σ5_137.2 9).toInt = (σ1_135.2 9).toInt := by rw [eσ5_137]; rfl
                have : (-2147483648 : Int) ≤ (σ5_137.2 0).toInt ∧ (σ5_137.2 0).toInt ≤ 2147483647 := Iσ5_137.2.1 0
                have : (0 : Int) ≤ (σ5_137.2 9).toInt ∧ (σ5_137.2 9).toInt ≤ 60 := Iσ5_137.2.1 9
                refine hs_pa (idx := (σ5_137.2 9)) (v := _) Iσ5_137 (by omega) (by omega) (hs_any _) (fun r => ⟨hm_Ra (by decide) r.1, ra 21 (by decide) _ _ r.2⟩) (fun σ8_138 eσ8_138 Iσ8_138 => ?_)
                have : (σ8_138.2 0).toInt = (σ5_137.2 0).toInt := by rw [eσ8_138]; rfl
                have : (σ8_138.2 9).toInt = (σ5_137.2 9).toInt := by rw [eσ8_138]; rfl
                have : (-2147483648 : Int) ≤ (σ8_138.2 0).toInt ∧ (σ8_138.2 0).toInt ≤ 2147483647 := Iσ8_138.2.1 0
                have : (0 : Int) ≤ (σ8_138.2 9).toInt ∧ (σ8_138.2 9).toInt ≤ 60 := Iσ8_138.2.1 9
                refine hs_pa (idx := (σ8_138.2 9)) (v := (σ8_138.2 9)) Iσ8_138 (by omega) (by omega) ⟨(by omega : (0 : Int) ≤ ((σ8_138.2 9) : Int32).toInt), (by omega : ((σ8_138.2 9) : Int32).toInt ≤ 59)⟩ (fun r => ⟨hm_Ra (by decide) r.1, ra 22 (by decide) _ _ r.2⟩) (fun σ11_139 eσ11_139 Iσ11_139 => ?_)
                have : (σ11_139.2 0).toInt = (σ8_138.2 0).toInt := by rw [eσ11_139]; rfl
                have : (σ11_139.2 9).toInt = (σ8_138.2 9).toInt := by rw [eσ11_139]; rfl
                have : (-2147483648 : Int) ≤ (σ11_139.2 0).toInt ∧ (σ11_139.2 0).toInt ≤ 2147483647 := Iσ11_139.2.1 0
                have : (0 : Int) ≤ (σ11_139.2 9).toInt ∧ (σ11_139.2 9).toInt ≤ 60 := Iσ11_139.2.1 9
                obtain ⟨e_140, he_140⟩ : ∃ e9 : Int32, e9 = ((σ11_139.2 9) + 1) := ⟨_, rfl⟩
                try have : e_140.toInt = ((σ11_139.2 9) : Int32).toInt + (1) := by rw [he_140]; exact hs_addk (1) rfl (by omega) (by omega)
                try rw [← he_140]
                refine hs_pf (v := e_140) Iσ11_139 ⟨(by omega : (0 : Int) ≤ (e_140 : Int32).toInt), (by omega : (e_140 : Int32).toInt ≤ 60)⟩ (fun r => ⟨hm_Ri (by decide) r.1, ri 9 (by decide) _ _ r.2⟩) (fun σ14_141 eσ14_141 Iσ14_141 => ?_)
                have : (σ14_141.2 0).toInt = (σ11_139.2 0).toInt := by rw [eσ14_141]; rfl
                have : (σ14_141.2 9).toInt = (e_140 : Int32).toInt := by rw [eσ14_141]; rfl
                have : (-2147483648 : Int) ≤ (σ14_141.2 0).toInt ∧ (σ14_141.2 0).toInt ≤ 2147483647 := Iσ14_141.2.1 0
                have : (0 : Int) ≤ (σ14_141.2 9).toInt ∧ (σ14_141.2 9).toInt ≤ 60 := Iσ14_141.2.1 9
                obtain ⟨e_142, he_142⟩ : ∃ e9 : Int32, e9 = ((σ14_141.2 9) - 1) := ⟨_, rfl⟩
                try have : e_142.toInt = ((σ14_141.2 9) : Int32).toInt - (1) := by rw [he_142]; exact hs_subk (1) rfl (by omega) (by omega)
                try rw [← he_142]
                exact hs_some (hQ σ14_141 (e_142 : Int32) Iσ14_141 (show ((σ14_141.2 0).toInt = 0 ∧ 0 ≤ x1.toInt ∧ x1.toInt ≤ 15 ∧ (x2.toInt = -1 ∨ (0 ≤ x2.toInt ∧ x2.toInt < 12)) ∧ (σ.2 9).toInt < 60 ∧ (σ14_141.2 9).toInt = (σ.2 9).toInt + 1) ∨ ((x1.toInt < 0 ∨ 15 < x1.toInt ∨ (¬ x2.toInt = -1 ∧ (x2.toInt < 0 ∨ 12 ≤ x2.toInt)) ∨ 60 ≤ (σ.2 9).toInt) ∧ (σ14_141.2 9).toInt = (σ.2 9).toInt) by omega))
              · have : ¬ (v2_134 : Int32).toInt = (0) := fun z => h_136 (Int32.toInt_inj.mp z)
                exact hs_some (hQ σ1_135 (0 : Int32) Iσ1_135 (show ((σ1_135.2 0).toInt = 0 ∧ 0 ≤ x1.toInt ∧ x1.toInt ≤ 15 ∧ (x2.toInt = -1 ∨ (0 ≤ x2.toInt ∧ x2.toInt < 12)) ∧ (σ.2 9).toInt < 60 ∧ (σ1_135.2 9).toInt = (σ.2 9).toInt + 1) ∨ ((x1.toInt < 0 ∨ 15 < x1.toInt ∨ (¬ x2.toInt = -1 ∧ (x2.toInt < 0 ∨ 12 ≤ x2.toInt)) ∨ 60 ≤ (σ.2 9).toInt) ∧ (σ1_135.2 9).toInt = (σ.2 9).toInt) by omega))
            · have : ¬ ((σ1_131.2 9) : Int32).toInt = (60) := fun z => h_133 (Int32.toInt_inj.mp z)
              unfold fX10_sherd_68
              refine hs_bd (s_fX10_throwsIf (fun j h => ra j (hs_inc (by decide) h)) (fun j h => ri j (hs_inc (by decide) h)) σ1_131 (0 : Int32) (3 : Int32) Iσ1_131 (show 0 ≤ (0) by omega) (show (0) ≤ 1 by omega) (fun σ1_144 v2_143 Iσ1_144 (gv2_143_0 : v2_143.toInt = (0)) (gv2_143_1 : (σ1_144.2 1).toInt = (σ1_131.2 1).toInt) (gv2_143_2 : (σ1_144.2 2).toInt = (σ1_131.2 2).toInt) (gv2_143_3 : (σ1_144.2 3).toInt = (σ1_131.2 3).toInt) (gv2_143_4 : (σ1_144.2 4).toInt = (σ1_131.2 4).toInt) (gv2_143_5 : (σ1_144.2 5).toInt = (σ1_131.2 5).toInt) (gv2_143_6 : (σ1_144.2 6).toInt = (σ1_131.2 6).toInt) (gv2_143_7 : (σ1_144.2 7).toInt = (σ1_131.2 7).toInt) (gv2_143_8 : (σ1_144.2 8).toInt = (σ1_131.2 8).toInt) (gv2_143_9 : (σ1_144.2 9).toInt = (σ1_131.2 9).toInt) (gv2_143_10 : (σ1_144.2 10).toInt = (σ1_131.2 10).toInt) (gv2_143_11 : (σ1_144.2 11).toInt = (σ1_131.2 11).toInt) (gv2_143_12 : ((0) = 0 ∧ (σ1_144.2 0).toInt = (σ1_131.2 0).toInt) ∨ ((0) = 1 ∧ (σ1_144.2 0).toInt = (3))) => ?_))
              have : (-2147483648 : Int) ≤ (σ1_144.2 0).toInt ∧ (σ1_144.2 0).toInt ≤ 2147483647 := Iσ1_144.2.1 0
              have : (0 : Int) ≤ (σ1_144.2 9).toInt ∧ (σ1_144.2 9).toInt ≤ 60 := Iσ1_144.2.1 9
              refine hs_ite (fun h_145 => ?_) (fun h_145 => ?_)
              · have : (v2_143 : Int32).toInt = (0) := congrArg Int32.toInt h_145
                refine hs_pa (idx := (σ1_144.2 9)) (v := _) Iσ1_144 (by omega) (by omega) (hs_any _) (fun r => ⟨hm_Ra (by decide) r.1, ra 20 (by decide) _ _ r.2⟩) (fun σ5_146 eσ5_146 Iσ5_146 => ?_)
                have : (σ5_146.2 0).toInt = (σ1_144.2 0).toInt := by rw [eσ5_146]; rfl
                have : (σ5_146.2 9).toInt = (σ1_144.2 9).toInt := by rw [eσ5_146]; rfl
                have : (-2147483648 : Int) ≤ (σ5_146.2 0).toInt ∧ (σ5_146.2 0).toInt ≤ 2147483647 := Iσ5_146.2.1 0
                have : (0 : Int) ≤ (σ5_146.2 9).toInt ∧ (σ5_146.2 9).toInt ≤ 60 := Iσ5_146.2.1 9
                refine hs_pa (idx := (σ5_146.2 9)) (v := _) Iσ5_146 (by omega) (by omega) (hs_any _) (fun r => ⟨hm_Ra (by decide) r.1, ra 21 (by decide) _ _ r.2⟩) (fun σ8_147 eσ8_147 Iσ8_147 => ?_)
                have : (σ8_147.2 0).toInt = (σ5_146.2 0).toInt := by rw [eσ8_147]; rfl
                have : (σ8_147.2 9).toInt = (σ5_146.2 9).toInt := by rw [eσ8_147]; rfl
                have : (-2147483648 : Int) ≤ (σ8_147.2 0).toInt ∧ (σ8_147.2 0).toInt ≤ 2147483647 := Iσ8_147.2.1 0
                have : (0 : Int) ≤ (σ8_147.2 9).toInt ∧ (σ8_147.2 9).toInt ≤ 60 := Iσ8_147.2.1 9
                refine hs_pa (idx := (σ8_147.2 9)) (v := (σ8_147.2 9)) Iσ8_147 (by omega) (by omega) ⟨(by omega : (0 : Int) ≤ ((σ8_147.2 9) : Int32).toInt), (by omega : ((σ8_147.2 9) : Int32).toInt ≤ 59)⟩ (fun r => ⟨hm_Ra (by decide) r.1, ra 22 (by decide) _ _ r.2⟩) (fun σ11_148 eσ11_148 Iσ11_148 => ?_)
                have : (σ11_148.2 0).toInt = (σ8_147.2 0).toInt := by rw [eσ11_148]; rfl
                have : (σ11_148.2 9).toInt = (σ8_147.2 9).toInt := by rw [eσ11_148]; rfl
                have : (-2147483648 : Int) ≤ (σ11_148.2 0).toInt ∧ (σ11_148.2 0).toInt ≤ 2147483647 := Iσ11_148.2.1 0
                have : (0 : Int) ≤ (σ11_148.2 9).toInt ∧ (σ11_148.2 9).toInt ≤ 60 := Iσ11_148.2.1 9
                obtain ⟨e_149, he_149⟩ : ∃ e9 : Int32, e9 = ((σ11_148.2 9) + 1) := ⟨_, rfl⟩
                try have : e_149.toInt = ((σ11_148.2 9) : Int32).toInt + (1) := by rw [he_149]; exact hs_addk (1) rfl (by omega) (by omega)
                try rw [← he_149]
                refine hs_pf (v := e_149) Iσ11_148 ⟨(by omega : (0 : Int) ≤ (e_149 : Int32).toInt), (by omega : (e_149 : Int32).toInt ≤ 60)⟩ (fun r => ⟨hm_Ri (by decide) r.1, ri 9 (by decide) _ _ r.2⟩) (fun σ14_150 eσ14_150 Iσ14_150 => ?_)
                have : (σ14_150.2 0).toInt = (σ11_148.2 0).toInt := by rw [eσ14_150]; rfl
                have : (σ14_150.2 9).toInt = (e_149 : Int32).toInt := by rw [eσ14_150]; rfl
                have : (-2147483648 : Int) ≤ (σ14_150.2 0).toInt ∧ (σ14_150.2 0).toInt ≤ 2147483647 := Iσ14_150.2.1 0
                have : (0 : Int) ≤ (σ14_150.2 9).toInt ∧ (σ14_150.2 9).toInt ≤ 60 := Iσ14_150.2.1 9
                obtain ⟨e_151, he_151⟩ : ∃ e9 : Int32, e9 = ((σ14_150.2 9) - 1) := ⟨_, rfl⟩
                try have : e_151.toInt = ((σ14_150.2 9) : Int32).toInt - (1) := by rw [he_151]; exact hs_subk (1) rfl (by omega) (by omega)
                try rw [← he_151]
                exact hs_some (hQ σ14_150 (e_151 : Int32) Iσ14_150 (show ((σ14_150.2 0).toInt = 0 ∧ 0 ≤ x1.toInt ∧ x1.toInt ≤ 15 ∧ (x2.toInt = -1 ∨ (0 ≤ x2.toInt ∧ x2.toInt < 12)) ∧ (σ.2 9).toInt < 60 ∧ (σ14_150.2 9).toInt = (σ.2 9).toInt + 1) ∨ ((x1.toInt < 0 ∨ 15 < x1.toInt ∨ (¬ x2.toInt = -1 ∧ (x2.toInt < 0 ∨ 12 ≤ x2.toInt)) ∨ 60 ≤ (σ.2 9).toInt) ∧ (σ14_150.2 9).toInt = (σ.2 9).toInt) by omega))
              · have : ¬ (v2_143 : Int32).toInt = (0) := fun z => h_145 (Int32.toInt_inj.mp z)
                exact hs_some (hQ σ1_144 (0 : Int32) Iσ1_144 (show ((σ1_144.2 0).toInt = 0 ∧ 0 ≤ x1.toInt ∧ x1.toInt ≤ 15 ∧ (x2.toInt = -1 ∨ (0 ≤ x2.toInt ∧ x2.toInt < 12)) ∧ (σ.2 9).toInt < 60 ∧ (σ1_144.2 9).toInt = (σ.2 9).toInt + 1) ∨ ((x1.toInt < 0 ∨ 15 < x1.toInt ∨ (¬ x2.toInt = -1 ∧ (x2.toInt < 0 ∨ 12 ≤ x2.toInt)) ∨ 60 ≤ (σ.2 9).toInt) ∧ (σ1_144.2 9).toInt = (σ.2 9).toInt) by omega))
          · have : ¬ (v2_130 : Int32).toInt = (0) := fun z => h_132 (Int32.toInt_inj.mp z)
            exact hs_some (hQ σ1_131 (0 : Int32) Iσ1_131 (show ((σ1_131.2 0).toInt = 0 ∧ 0 ≤ x1.toInt ∧ x1.toInt ≤ 15 ∧ (x2.toInt = -1 ∨ (0 ≤ x2.toInt ∧ x2.toInt < 12)) ∧ (σ.2 9).toInt < 60 ∧ (σ1_131.2 9).toInt = (σ.2 9).toInt + 1) ∨ ((x1.toInt < 0 ∨ 15 < x1.toInt ∨ (¬ x2.toInt = -1 ∧ (x2.toInt < 0 ∨ 12 ≤ x2.toInt)) ∨ 60 ≤ (σ.2 9).toInt) ∧ (σ1_131.2 9).toInt = (σ.2 9).toInt) by omega))
      · have : ¬ (v2_103 : Int32).toInt = (0) := fun z => h_105 (Int32.toInt_inj.mp z)
        exact hs_some (hQ σ1_104 (0 : Int32) Iσ1_104 (show ((σ1_104.2 0).toInt = 0 ∧ 0 ≤ x1.toInt ∧ x1.toInt ≤ 15 ∧ (x2.toInt = -1 ∨ (0 ≤ x2.toInt ∧ x2.toInt < 12)) ∧ (σ.2 9).toInt < 60 ∧ (σ1_104.2 9).toInt = (σ.2 9).toInt + 1) ∨ ((x1.toInt < 0 ∨ 15 < x1.toInt ∨ (¬ x2.toInt = -1 ∧ (x2.toInt < 0 ∨ 12 ≤ x2.toInt)) ∨ 60 ≤ (σ.2 9).toInt) ∧ (σ1_104.2 9).toInt = (σ.2 9).toInt) by omega))
theorem s_fX10_stampOf_4 {R : hy_S → Prop} {Q : hy_S × Int32 → Prop} : ∀ (n : Nat) (σ : hy_S) (x1 : Int32) (x2 : Int32) (x3 : Int32), hm_I R σ → 0 ≤ x3.toInt → x3.toInt ≤ 60 → 60 - x3.toInt < (n : Int) → (∀ v9 : Int32, Q (σ, v9)) → hs_ok (fX10_stampOf_4 n σ x1 x2 x3) Q := by
  intro n
  induction n with
  | zero =>
    intro σ x1 x2 x3 I p0 p1  hm hQ
    have : (0 : Int) ≤ (σ.2 9).toInt ∧ (σ.2 9).toInt ≤ 60 := I.2.1 9
    exact absurd hm (by omega)
  | succ n ih =>
    intro σ x1 x2 x3 I p0 p1  hm hQ
    unfold fX10_stampOf_4
    have : (0 : Int) ≤ (σ.2 9).toInt ∧ (σ.2 9).toInt ≤ 60 := I.2.1 9
    refine hs_ite (fun h_1 => ?_) (fun h_1 => ?_)
    · have : ((σ.2 9) : Int32).toInt ≤ (x3 : Int32).toInt := Int32.le_iff_toInt_le.mp h_1
      exact hs_some (hQ (x2 : Int32) )
    · have : ¬ ((σ.2 9) : Int32).toInt ≤ (x3 : Int32).toInt := fun z => h_1 (Int32.le_iff_toInt_le.mpr z)
      refine hs_ga (j := 22) I (by omega) (by omega) (fun v2_2 ev2_2 (bv2_2 : (0 : Int) ≤ v2_2.toInt ∧ v2_2.toInt ≤ 59) => ?_)
      refine hs_ite (fun h_3 => ?_) (fun h_3 => ?_)
      · have : (v2_2 : Int32).toInt = (x1 : Int32).toInt := congrArg Int32.toInt h_3
        refine hs_ga (j := 21) I (by omega) (by omega) (fun v6_4 ev6_4 (bv6_4 : (-2147483648 : Int) ≤ v6_4.toInt ∧ v6_4.toInt ≤ 2147483647) => ?_)
        refine hs_ite (fun h_5 => ?_) (fun h_5 => ?_)
        · have : (v6_4 : Int32).toInt < (0) := Int32.lt_iff_toInt_lt.mp h_5
          unfold fX10_stampOf_38
          obtain ⟨e_6, he_6⟩ : ∃ e9 : Int32, e9 = (x3 + 1) := ⟨_, rfl⟩
          try have : e_6.toInt = (x3 : Int32).toInt + (1) := by rw [he_6]; exact hs_addk (1) rfl (by omega) (by omega)
          try rw [← he_6]
          exact ih σ (x1 : Int32) (x2 : Int32) (e_6 : Int32) I (show 0 ≤ (e_6 : Int32).toInt by omega) (show (e_6 : Int32).toInt ≤ 60 by omega)  (by omega) hQ
        · have : ¬ (v6_4 : Int32).toInt < (0) := fun z => h_5 (Int32.lt_iff_toInt_lt.mpr z)
          refine hs_ga (j := 21) I (by omega) (by omega) (fun v10_7 ev10_7 (bv10_7 : (-2147483648 : Int) ≤ v10_7.toInt ∧ v10_7.toInt ≤ 2147483647) => ?_)
          unfold fX10_stampOf_38
          obtain ⟨e_8, he_8⟩ : ∃ e9 : Int32, e9 = (x3 + 1) := ⟨_, rfl⟩
          try have : e_8.toInt = (x3 : Int32).toInt + (1) := by rw [he_8]; exact hs_addk (1) rfl (by omega) (by omega)
          try rw [← he_8]
          exact ih σ (x1 : Int32) (v10_7 : Int32) (e_8 : Int32) I (show 0 ≤ (e_8 : Int32).toInt by omega) (show (e_8 : Int32).toInt ≤ 60 by omega)  (by omega) hQ
      · have : ¬ (v2_2 : Int32).toInt = (x1 : Int32).toInt := fun z => h_3 (Int32.toInt_inj.mp z)
        unfold fX10_stampOf_38
        obtain ⟨e_9, he_9⟩ : ∃ e9 : Int32, e9 = (x3 + 1) := ⟨_, rfl⟩
        try have : e_9.toInt = (x3 : Int32).toInt + (1) := by rw [he_9]; exact hs_addk (1) rfl (by omega) (by omega)
        try rw [← he_9]
        exact ih σ (x1 : Int32) (x2 : Int32) (e_9 : Int32) I (show 0 ≤ (e_9 : Int32).toInt by omega) (show (e_9 : Int32).toInt ≤ 60 by omega)  (by omega) hQ
theorem s_fX10_stampOf {R : hy_S → Prop} (σ : hy_S) (x1 : Int32) {P : hy_S → Int32 → Prop} (I : hm_I R σ) (hQ : ∀ v9 : Int32, P σ v9) : hs_ok2 (fX10_stampOf σ x1) P := by
  unfold fX10_stampOf
  show hs_ok _ _
  have hfu : ((hy_fu : Nat) : Int) = 5000 := rfl
  refine s_fX10_stampOf_4   hy_fu σ (x1 : Int32) ((-1) : Int32) (0 : Int32) I (show 0 ≤ (0) by omega) (show (0) ≤ 60 by omega)  (show 60 - (0) < ((hy_fu : Nat) : Int) by rw [hfu]; omega) (fun v_1  => ?_)
  exact (hQ (v_1 : Int32) )
theorem s_fX10_join_127 {R : hy_S → Prop} (ra : ∀ j, j ∈ ([22] : List Nat) → ∀ (τ : hy_S) (g : Nat → Int32), R τ → R (hy_sc τ j g)) (ri : ∀ j, j ∈ ([] : List Nat) → ∀ (τ : hy_S) (v : Int32), R τ → R (hy_si τ j v)) {Q : hy_S × Int32 → Prop} (hQ : ∀ (σ9 : hy_S) (v9 : Int32), hm_I R σ9 → Q (σ9, v9)) : ∀ (n : Nat) (σ : hy_S) (x3 : Int32) (x4 : Int32) (x7 : Int32), hm_I R σ → 0 ≤ x3.toInt → x3.toInt < 60 → 0 ≤ x7.toInt → x7.toInt ≤ 60 → 60 - x7.toInt < (n : Int) → hs_ok (fX10_join_127 n σ x3 x4 x7) Q := by
  intro n
  induction n with
  | zero =>
    intro σ x3 x4 x7 I p0 p1 p2 p3  hm
    have : (0 : Int) ≤ (σ.2 9).toInt ∧ (σ.2 9).toInt ≤ 60 := I.2.1 9
    exact absurd hm (by omega)
  | succ n ih =>
    intro σ x3 x4 x7 I p0 p1 p2 p3  hm
    unfold fX10_join_127
    have : (0 : Int) ≤ (σ.2 9).toInt ∧ (σ.2 9).toInt ≤ 60 := I.2.1 9
    refine hs_ite (fun h_1 => ?_) (fun h_1 => ?_)
    · have : ((σ.2 9) : Int32).toInt ≤ (x7 : Int32).toInt := Int32.le_iff_toInt_le.mp h_1
      exact hs_some (hQ σ (1 : Int32) I )
    · have : ¬ ((σ.2 9) : Int32).toInt ≤ (x7 : Int32).toInt := fun z => h_1 (Int32.le_iff_toInt_le.mpr z)
      refine hs_ga (j := 22) I (by omega) (by omega) (fun v2_2 ev2_2 (bv2_2 : (0 : Int) ≤ v2_2.toInt ∧ v2_2.toInt ≤ 59) => ?_)
      refine hs_ite (fun h_3 => ?_) (fun h_3 => ?_)
      · have : (v2_2 : Int32).toInt = (x4 : Int32).toInt := congrArg Int32.toInt h_3
        refine hs_pa (idx := x7) (v := x3) I (by omega) (by omega) ⟨(by omega : (0 : Int) ≤ (x3 : Int32).toInt), (by omega : (x3 : Int32).toInt ≤ 59)⟩ (fun r => ⟨hm_Ra (by decide) r.1, ra 22 (by decide) _ _ r.2⟩) (fun σ6_4 eσ6_4 Iσ6_4 => ?_)
        have : (σ6_4.2 9).toInt = (σ.2 9).toInt := by rw [eσ6_4]; rfl
        have : (0 : Int) ≤ (σ6_4.2 9).toInt ∧ (σ6_4.2 9).toInt ≤ 60 := Iσ6_4.2.1 9
        unfold fX10_join_156
        obtain ⟨e_5, he_5⟩ : ∃ e9 : Int32, e9 = (x7 + 1) := ⟨_, rfl⟩
        try have : e_5.toInt = (x7 : Int32).toInt + (1) := by rw [he_5]; exact hs_addk (1) rfl (by omega) (by omega)
        try rw [← he_5]
        exact ih σ6_4 (x3 : Int32) (x4 : Int32) (e_5 : Int32) Iσ6_4 (show 0 ≤ (x3 : Int32).toInt by omega) (show (x3 : Int32).toInt < 60 by omega) (show 0 ≤ (e_5 : Int32).toInt by omega) (show (e_5 : Int32).toInt ≤ 60 by omega)  (by omega)
      · have : ¬ (v2_2 : Int32).toInt = (x4 : Int32).toInt := fun z => h_3 (Int32.toInt_inj.mp z)
        unfold fX10_join_156
        obtain ⟨e_6, he_6⟩ : ∃ e9 : Int32, e9 = (x7 + 1) := ⟨_, rfl⟩
        try have : e_6.toInt = (x7 : Int32).toInt + (1) := by rw [he_6]; exact hs_addk (1) rfl (by omega) (by omega)
        try rw [← he_6]
        exact ih σ (x3 : Int32) (x4 : Int32) (e_6 : Int32) I (show 0 ≤ (x3 : Int32).toInt by omega) (show (x3 : Int32).toInt < 60 by omega) (show 0 ≤ (e_6 : Int32).toInt by omega) (show (e_6 : Int32).toInt ≤ 60 by omega)  (by omega)
theorem s_fX10_join {R : hy_S → Prop} (ra : ∀ j, j ∈ ([22] : List Nat) → ∀ (τ : hy_S) (g : Nat → Int32), R τ → R (hy_sc τ j g)) (ri : ∀ j, j ∈ ([0] : List Nat) → ∀ (τ : hy_S) (v : Int32), R τ → R (hy_si τ j v)) (σ : hy_S) (x1 : Int32) (x2 : Int32) {P : hy_S → Int32 → Prop} (I : hm_I R σ) (hQ : ∀ (σ9 : hy_S) (v9 : Int32), hm_I R σ9 → P σ9 v9) : hs_ok2 (fX10_join σ x1 x2) P := by
  unfold fX10_join
  show hs_ok _ _
  have : (-2147483648 : Int) ≤ (σ.2 0).toInt ∧ (σ.2 0).toInt ≤ 2147483647 := I.2.1 0
  have : (0 : Int) ≤ (σ.2 9).toInt ∧ (σ.2 9).toInt ≤ 60 := I.2.1 9
  refine hs_pf (v := 0) I (hs_any _) (fun r => ⟨hm_Ri (by decide) r.1, ri 0 (by decide) _ _ r.2⟩) (fun σ1_1 eσ1_1 Iσ1_1 => ?_)
  have : (σ1_1.2 0).toInt = (0) := by rw [eσ1_1]; rfl
  have : (σ1_1.2 9).toInt = (σ.2 9).toInt := by rw [eσ1_1]; rfl
  have : (-2147483648 : Int) ≤ (σ1_1.2 0).toInt ∧ (σ1_1.2 0).toInt ≤ 2147483647 := Iσ1_1.2.1 0
  have : (0 : Int) ≤ (σ1_1.2 9).toInt ∧ (σ1_1.2 9).toInt ≤ 60 := Iσ1_1.2.1 9
  refine hs_bd (s_fX10_noSherd σ1_1 x1 Iσ1_1  (fun v4_2 (gv4_2_0 : 0 ≤ v4_2.toInt) (gv4_2_1 : v4_2.toInt ≤ 1) (gv4_2_2 : v4_2.toInt = 1 ∨ (0 ≤ (x1 : Int32).toInt ∧ (x1 : Int32).toInt < (σ1_1.2 9).toInt)) => ?_))
  refine hs_ite (fun h_3 => ?_) (fun h_3 => ?_)
  · have : (v4_2 : Int32).toInt = (0) := congrArg Int32.toInt h_3
    refine hs_bd (s_fX10_noSherd σ1_1 x2 Iσ1_1  (fun v8_4 (gv8_4_0 : 0 ≤ v8_4.toInt) (gv8_4_1 : v8_4.toInt ≤ 1) (gv8_4_2 : v8_4.toInt = 1 ∨ (0 ≤ (x2 : Int32).toInt ∧ (x2 : Int32).toInt < (σ1_1.2 9).toInt)) => ?_))
    refine hs_ite (fun h_5 => ?_) (fun h_5 => ?_)
    · have : (v8_4 : Int32).toInt = (0) := congrArg Int32.toInt h_5
      unfold fX10_join_27
      refine hs_bd (s_fX10_throwsIf (fun j h => ra j (hs_inc (by decide) h)) (fun j h => ri j (hs_inc (by decide) h)) σ1_1 (0 : Int32) (1 : Int32) Iσ1_1 (show 0 ≤ (0) by omega) (show (0) ≤ 1 by omega) (fun σ1_7 v2_6 Iσ1_7 (gv2_6_0 : v2_6.toInt = (0)) (gv2_6_1 : (σ1_7.2 1).toInt = (σ1_1.2 1).toInt) (gv2_6_2 : (σ1_7.2 2).toInt = (σ1_1.2 2).toInt) (gv2_6_3 : (σ1_7.2 3).toInt = (σ1_1.2 3).toInt) (gv2_6_4 : (σ1_7.2 4).toInt = (σ1_1.2 4).toInt) (gv2_6_5 : (σ1_7.2 5).toInt = (σ1_1.2 5).toInt) (gv2_6_6 : (σ1_7.2 6).toInt = (σ1_1.2 6).toInt) (gv2_6_7 : (σ1_7.2 7).toInt = (σ1_1.2 7).toInt) (gv2_6_8 : (σ1_7.2 8).toInt = (σ1_1.2 8).toInt) (gv2_6_9 : (σ1_7.2 9).toInt = (σ1_1.2 9).toInt) (gv2_6_10 : (σ1_7.2 10).toInt = (σ1_1.2 10).toInt) (gv2_6_11 : (σ1_7.2 11).toInt = (σ1_1.2 11).toInt) (gv2_6_12 : ((0) = 0 ∧ (σ1_7.2 0).toInt = (σ1_1.2 0).toInt) ∨ ((0) = 1 ∧ (σ1_7.2 0).toInt = (1))) => ?_))
      have : (-2147483648 : Int) ≤ (σ1_7.2 0).toInt ∧ (σ1_7.2 0).toInt ≤ 2147483647 := Iσ1_7.2.1 0
      have : (0 : Int) ≤ (σ1_7.2 9).toInt ∧ (σ1_7.2 9).toInt ≤ 60 := Iσ1_7.2.1 9
      refine hs_ite (fun h_8 => ?_) (fun h_8 => ?_)
      · have : (v2_6 : Int32).toInt = (0) := congrArg Int32.toInt h_8
        refine hs_ga (j := 22) Iσ1_7 (by omega) (by omega) (fun v5_9 ev5_9 (bv5_9 : (0 : Int) ≤ v5_9.toInt ∧ v5_9.toInt ≤ 59) => ?_)
        refine hs_ga (j := 22) Iσ1_7 (by omega) (by omega) (fun v8_10 ev8_10 (bv8_10 : (0 : Int) ≤ v8_10.toInt ∧ v8_10.toInt ≤ 59) => ?_)
        refine hs_ga (j := 22) Iσ1_7 (by omega) (by omega) (fun v13_11 ev13_11 (bv13_11 : (0 : Int) ≤ v13_11.toInt ∧ v13_11.toInt ≤ 59) => ?_)
        refine hs_ga (j := 22) Iσ1_7 (by omega) (by omega) (fun v16_12 ev16_12 (bv16_12 : (0 : Int) ≤ v16_12.toInt ∧ v16_12.toInt ≤ 59) => ?_)
        obtain ⟨e_13, he_13⟩ : ∃ e9 : Int32, e9 = (if (v8_10 < v5_9) then v8_10 else v5_9) := ⟨_, rfl⟩
        have : e_13.toInt = (v8_10 : Int32).toInt ∨ e_13.toInt = (v5_9 : Int32).toInt := by rw [he_13]; split <;> first | exact Or.inl rfl | exact Or.inr rfl
        try rw [← he_13]
        refine hs_bd (s_fX10_stampOf σ1_7 e_13 Iσ1_7  (fun v22_14  => ?_))
        obtain ⟨e_15, he_15⟩ : ∃ e9 : Int32, e9 = (if (v13_11 < v16_12) then v16_12 else v13_11) := ⟨_, rfl⟩
        have : e_15.toInt = (v16_12 : Int32).toInt ∨ e_15.toInt = (v13_11 : Int32).toInt := by rw [he_15]; split <;> first | exact Or.inl rfl | exact Or.inr rfl
        try rw [← he_15]
        refine hs_bd (s_fX10_stampOf σ1_7 e_15 Iσ1_7  (fun v25_16  => ?_))
        try rw [← he_13]
        try rw [← he_15]
        refine hs_ite (fun h_17 => ?_) (fun h_17 => ?_)
        · have : (e_13 : Int32).toInt = (e_15 : Int32).toInt := congrArg Int32.toInt h_17
          exact hs_some (hQ σ1_7 (0 : Int32) Iσ1_7 )
        · have : ¬ (e_13 : Int32).toInt = (e_15 : Int32).toInt := fun z => h_17 (Int32.toInt_inj.mp z)
          refine hs_ga (j := 20) Iσ1_7 (by omega) (by omega) (fun v28_18 ev28_18 (bv28_18 : (-2147483648 : Int) ≤ v28_18.toInt ∧ v28_18.toInt ≤ 2147483647) => ?_)
          refine hs_ga (j := 20) Iσ1_7 (by omega) (by omega) (fun v31_19 ev31_19 (bv31_19 : (-2147483648 : Int) ≤ v31_19.toInt ∧ v31_19.toInt ≤ 2147483647) => ?_)
          refine hs_ite (fun h_20 => ?_) (fun h_20 => ?_)
          · have : (v28_18 : Int32).toInt = (v31_19 : Int32).toInt := congrArg Int32.toInt h_20
            refine hs_ite (fun h_21 => ?_) (fun h_21 => ?_)
            · have : (v22_14 : Int32).toInt < (0) := Int32.lt_iff_toInt_lt.mp h_21
              unfold fX10_join_124
              try rw [← he_13]
              try rw [← he_15]
              have hfu : ((hy_fu : Nat) : Int) = 5000 := rfl
              refine s_fX10_join_127 (fun j h => ra j (hs_inc (by decide) h)) (fun j h => ri j (hs_inc (by decide) h))  (fun τ_22 v_23 Iτ_22  => ?_)  hy_fu σ1_7 (e_13 : Int32) (e_15 : Int32) (0 : Int32) Iσ1_7 (show 0 ≤ (e_13 : Int32).toInt by omega) (show (e_13 : Int32).toInt < 60 by omega) (show 0 ≤ (0) by omega) (show (0) ≤ 60 by omega)  (show 60 - (0) < ((hy_fu : Nat) : Int) by rw [hfu]; omega)
              have : (-2147483648 : Int) ≤ (τ_22.2 0).toInt ∧ (τ_22.2 0).toInt ≤ 2147483647 := Iτ_22.2.1 0
              have : (0 : Int) ≤ (τ_22.2 9).toInt ∧ (τ_22.2 9).toInt ≤ 60 := Iτ_22.2.1 9
              exact (hQ τ_22 (v_23 : Int32) Iτ_22 )
            · have : ¬ (v22_14 : Int32).toInt < (0) := fun z => h_21 (Int32.lt_iff_toInt_lt.mpr z)
              refine hs_ite (fun h_24 => ?_) (fun h_24 => ?_)
              · have : (v25_16 : Int32).toInt < (0) := Int32.lt_iff_toInt_lt.mp h_24
                unfold fX10_join_124
                try rw [← he_13]
                try rw [← he_15]
                have hfu : ((hy_fu : Nat) : Int) = 5000 := rfl
                refine s_fX10_join_127 (fun j h => ra j (hs_inc (by decide) h)) (fun j h => ri j (hs_inc (by decide) h))  (fun τ_25 v_26 Iτ_25  => ?_)  hy_fu σ1_7 (e_13 : Int32) (e_15 : Int32) (0 : Int32) Iσ1_7 (show 0 ≤ (e_13 : Int32).toInt by omega) (show (e_13 : Int32).toInt < 60 by omega) (show 0 ≤ (0) by omega) (show (0) ≤ 60 by omega)  (show 60 - (0) < ((hy_fu : Nat) : Int) by rw [hfu]; omega)
                have : (-2147483648 : Int) ≤ (τ_25.2 0).toInt ∧ (τ_25.2 0).toInt ≤ 2147483647 := Iτ_25.2.1 0
                have : (0 : Int) ≤ (τ_25.2 9).toInt ∧ (τ_25.2 9).toInt ≤ 60 := Iτ_25.2.1 9
                exact (hQ τ_25 (v_26 : Int32) Iτ_25 )
              · have : ¬ (v25_16 : Int32).toInt < (0) := fun z => h_24 (Int32.lt_iff_toInt_lt.mpr z)
                refine hs_ite (fun h_27 => ?_) (fun h_27 => ?_)
                · have : (v22_14 : Int32).toInt = (v25_16 : Int32).toInt := congrArg Int32.toInt h_27
                  unfold fX10_join_124
                  try rw [← he_13]
                  try rw [← he_15]
                  have hfu : ((hy_fu : Nat) : Int) = 5000 := rfl
                  refine s_fX10_join_127 (fun j h => ra j (hs_inc (by decide) h)) (fun j h => ri j (hs_inc (by decide) h))  (fun τ_28 v_29 Iτ_28  => ?_)  hy_fu σ1_7 (e_13 : Int32) (e_15 : Int32) (0 : Int32) Iσ1_7 (show 0 ≤ (e_13 : Int32).toInt by omega) (show (e_13 : Int32).toInt < 60 by omega) (show 0 ≤ (0) by omega) (show (0) ≤ 60 by omega)  (show 60 - (0) < ((hy_fu : Nat) : Int) by rw [hfu]; omega)
                  have : (-2147483648 : Int) ≤ (τ_28.2 0).toInt ∧ (τ_28.2 0).toInt ≤ 2147483647 := Iτ_28.2.1 0
                  have : (0 : Int) ≤ (τ_28.2 9).toInt ∧ (τ_28.2 9).toInt ≤ 60 := Iτ_28.2.1 9
                  exact (hQ τ_28 (v_29 : Int32) Iτ_28 )
                · have : ¬ (v22_14 : Int32).toInt = (v25_16 : Int32).toInt := fun z => h_27 (Int32.toInt_inj.mp z)
                  exact hs_some (hQ σ1_7 (0 : Int32) Iσ1_7 )
          · have : ¬ (v28_18 : Int32).toInt = (v31_19 : Int32).toInt := fun z => h_20 (Int32.toInt_inj.mp z)
            exact hs_some (hQ σ1_7 (0 : Int32) Iσ1_7 )
      · have : ¬ (v2_6 : Int32).toInt = (0) := fun z => h_8 (Int32.toInt_inj.mp z)
        exact hs_some (hQ σ1_7 (0 : Int32) Iσ1_7 )
    · have : ¬ (v8_4 : Int32).toInt = (0) := fun z => h_5 (Int32.toInt_inj.mp z)
      unfold fX10_join_22
      unfold fX10_join_27
      refine hs_bd (s_fX10_throwsIf (fun j h => ra j (hs_inc (by decide) h)) (fun j h => ri j (hs_inc (by decide) h)) σ1_1 (1 : Int32) (1 : Int32) Iσ1_1 (show 0 ≤ (1) by omega) (show (1) ≤ 1 by omega) (fun σ1_31 v2_30 Iσ1_31 (gv2_30_0 : v2_30.toInt = (1)) (gv2_30_1 : (σ1_31.2 1).toInt = (σ1_1.2 1).toInt) (gv2_30_2 : (σ1_31.2 2).toInt = (σ1_1.2 2).toInt) (gv2_30_3 : (σ1_31.2 3).toInt = (σ1_1.2 3).toInt) (gv2_30_4 : (σ1_31.2 4).toInt = (σ1_1.2 4).toInt) (gv2_30_5 : (σ1_31.2 5).toInt = (σ1_1.2 5).toInt) (gv2_30_6 : (σ1_31.2 6).toInt = (σ1_1.2 6).toInt) (gv2_30_7 : (σ1_31.2 7).toInt = (σ1_1.2 7).toInt) (gv2_30_8 : (σ1_31.2 8).toInt = (σ1_1.2 8).toInt) (gv2_30_9 : (σ1_31.2 9).toInt = (σ1_1.2 9).toInt) (gv2_30_10 : (σ1_31.2 10).toInt = (σ1_1.2 10).toInt) (gv2_30_11 : (σ1_31.2 11).toInt = (σ1_1.2 11).toInt) (gv2_30_12 : ((1) = 0 ∧ (σ1_31.2 0).toInt = (σ1_1.2 0).toInt) ∨ ((1) = 1 ∧ (σ1_31.2 0).toInt = (1))) => ?_))
      have : (-2147483648 : Int) ≤ (σ1_31.2 0).toInt ∧ (σ1_31.2 0).toInt ≤ 2147483647 := Iσ1_31.2.1 0
      have : (0 : Int) ≤ (σ1_31.2 9).toInt ∧ (σ1_31.2 9).toInt ≤ 60 := Iσ1_31.2.1 9
      refine hs_ite (fun h_32 => ?_) (fun h_32 => ?_)
      · have : (v2_30 : Int32).toInt = (0) := congrArg Int32.toInt h_32
        refine hs_ga (j := 22) Iσ1_31 (by omega) (by omega) (fun v5_33 ev5_33 (bv5_33 : (0 : Int) ≤ v5_33.toInt ∧ v5_33.toInt ≤ 59) => ?_)
        refine hs_ga (j := 22) Iσ1_31 (by omega) (by omega) (fun v8_34 ev8_34 (bv8_34 : (0 : Int) ≤ v8_34.toInt ∧ v8_34.toInt ≤ 59) => ?_)
        refine hs_ga (j := 22) Iσ1_31 (by omega) (by omega) (fun v13_35 ev13_35 (bv13_35 : (0 : Int) ≤ v13_35.toInt ∧ v13_35.toInt ≤ 59) => ?_)
        refine hs_ga (j := 22) Iσ1_31 (by omega) (by omega) (fun v16_36 ev16_36 (bv16_36 : (0 : Int) ≤ v16_36.toInt ∧ v16_36.toInt ≤ 59) => ?_)
        obtain ⟨e_37, he_37⟩ : ∃ e9 : Int32, e9 = (if (v8_34 < v5_33) then v8_34 else v5_33) := ⟨_, rfl⟩
        have : e_37.toInt = (v8_34 : Int32).toInt ∨ e_37.toInt = (v5_33 : Int32).toInt := by rw [he_37]; split <;> first | exact Or.inl rfl | exact Or.inr rfl
        try rw [← he_37]
        refine hs_bd (s_fX10_stampOf σ1_31 e_37 Iσ1_31  (fun v22_38  => ?_))
        obtain ⟨e_39, he_39⟩ : ∃ e9 : Int32, e9 = (if (v13_35 < v16_36) then v16_36 else v13_35) := ⟨_, rfl⟩
        have : e_39.toInt = (v16_36 : Int32).toInt ∨ e_39.toInt = (v13_35 : Int32).toInt := by rw [he_39]; split <;> first | exact Or.inl rfl | exact Or.inr rfl
        try rw [← he_39]
        refine hs_bd (s_fX10_stampOf σ1_31 e_39 Iσ1_31  (fun v25_40  => ?_))
        try rw [← he_37]
        try rw [← he_39]
        refine hs_ite (fun h_41 => ?_) (fun h_41 => ?_)
        · have : (e_37 : Int32).toInt = (e_39 : Int32).toInt := congrArg Int32.toInt h_41
          exact hs_some (hQ σ1_31 (0 : Int32) Iσ1_31 )
        · have : ¬ (e_37 : Int32).toInt = (e_39 : Int32).toInt := fun z => h_41 (Int32.toInt_inj.mp z)
          refine hs_ga (j := 20) Iσ1_31 (by omega) (by omega) (fun v28_42 ev28_42 (bv28_42 : (-2147483648 : Int) ≤ v28_42.toInt ∧ v28_42.toInt ≤ 2147483647) => ?_)
          refine hs_ga (j := 20) Iσ1_31 (by omega) (by omega) (fun v31_43 ev31_43 (bv31_43 : (-2147483648 : Int) ≤ v31_43.toInt ∧ v31_43.toInt ≤ 2147483647) => ?_)
          refine hs_ite (fun h_44 => ?_) (fun h_44 => ?_)
          · have : (v28_42 : Int32).toInt = (v31_43 : Int32).toInt := congrArg Int32.toInt h_44
            refine hs_ite (fun h_45 => ?_) (fun h_45 => ?_)
            · have : (v22_38 : Int32).toInt < (0) := Int32.lt_iff_toInt_lt.mp h_45
              unfold fX10_join_124
              try rw [← he_37]
              try rw [← he_39]
              have hfu : ((hy_fu : Nat) : Int) = 5000 := rfl
              refine s_fX10_join_127 (fun j h => ra j (hs_inc (by decide) h)) (fun j h => ri j (hs_inc (by decide) h))  (fun τ_46 v_47 Iτ_46  => ?_)  hy_fu σ1_31 (e_37 : Int32) (e_39 : Int32) (0 : Int32) Iσ1_31 (show 0 ≤ (e_37 : Int32).toInt by omega) (show (e_37 : Int32).toInt < 60 by omega) (show 0 ≤ (0) by omega) (show (0) ≤ 60 by omega)  (show 60 - (0) < ((hy_fu : Nat) : Int) by rw [hfu]; omega)
              have : (-2147483648 : Int) ≤ (τ_46.2 0).toInt ∧ (τ_46.2 0).toInt ≤ 2147483647 := Iτ_46.2.1 0
              have : (0 : Int) ≤ (τ_46.2 9).toInt ∧ (τ_46.2 9).toInt ≤ 60 := Iτ_46.2.1 9
              exact (hQ τ_46 (v_47 : Int32) Iτ_46 )
            · have : ¬ (v22_38 : Int32).toInt < (0) := fun z => h_45 (Int32.lt_iff_toInt_lt.mpr z)
              refine hs_ite (fun h_48 => ?_) (fun h_48 => ?_)
              · have : (v25_40 : Int32).toInt < (0) := Int32.lt_iff_toInt_lt.mp h_48
                unfold fX10_join_124
                try rw [← he_37]
                try rw [← he_39]
                have hfu : ((hy_fu : Nat) : Int) = 5000 := rfl
                refine s_fX10_join_127 (fun j h => ra j (hs_inc (by decide) h)) (fun j h => ri j (hs_inc (by decide) h))  (fun τ_49 v_50 Iτ_49  => ?_)  hy_fu σ1_31 (e_37 : Int32) (e_39 : Int32) (0 : Int32) Iσ1_31 (show 0 ≤ (e_37 : Int32).toInt by omega) (show (e_37 : Int32).toInt < 60 by omega) (show 0 ≤ (0) by omega) (show (0) ≤ 60 by omega)  (show 60 - (0) < ((hy_fu : Nat) : Int) by rw [hfu]; omega)
                have : (-2147483648 : Int) ≤ (τ_49.2 0).toInt ∧ (τ_49.2 0).toInt ≤ 2147483647 := Iτ_49.2.1 0
                have : (0 : Int) ≤ (τ_49.2 9).toInt ∧ (τ_49.2 9).toInt ≤ 60 := Iτ_49.2.1 9
                exact (hQ τ_49 (v_50 : Int32) Iτ_49 )
              · have : ¬ (v25_40 : Int32).toInt < (0) := fun z => h_48 (Int32.lt_iff_toInt_lt.mpr z)
                refine hs_ite (fun h_51 => ?_) (fun h_51 => ?_)
                · have : (v22_38 : Int32).toInt = (v25_40 : Int32).toInt := congrArg Int32.toInt h_51
                  unfold fX10_join_124
                  try rw [← he_37]
                  try rw [← he_39]
                  have hfu : ((hy_fu : Nat) : Int) = 5000 := rfl
                  refine s_fX10_join_127 (fun j h => ra j (hs_inc (by decide) h)) (fun j h => ri j (hs_inc (by decide) h))  (fun τ_52 v_53 Iτ_52  => ?_)  hy_fu σ1_31 (e_37 : Int32) (e_39 : Int32) (0 : Int32) Iσ1_31 (show 0 ≤ (e_37 : Int32).toInt by omega) (show (e_37 : Int32).toInt < 60 by omega) (show 0 ≤ (0) by omega) (show (0) ≤ 60 by omega)  (show 60 - (0) < ((hy_fu : Nat) : Int) by rw [hfu]; omega)
                  have : (-2147483648 : Int) ≤ (τ_52.2 0).toInt ∧ (τ_52.2 0).toInt ≤ 2147483647 := Iτ_52.2.1 0
                  have : (0 : Int) ≤ (τ_52.2 9).toInt ∧ (τ_52.2 9).toInt ≤ 60 := Iτ_52.2.1 9
                  exact (hQ τ_52 (v_53 : Int32) Iτ_52 )
                · have : ¬ (v22_38 : Int32).toInt = (v25_40 : Int32).toInt := fun z => h_51 (Int32.toInt_inj.mp z)
                  exact hs_some (hQ σ1_31 (0 : Int32) Iσ1_31 )
          · have : ¬ (v28_42 : Int32).toInt = (v31_43 : Int32).toInt := fun z => h_44 (Int32.toInt_inj.mp z)
            exact hs_some (hQ σ1_31 (0 : Int32) Iσ1_31 )
      · have : ¬ (v2_30 : Int32).toInt = (0) := fun z => h_32 (Int32.toInt_inj.mp z)
        exact hs_some (hQ σ1_31 (0 : Int32) Iσ1_31 )
  · have : ¬ (v4_2 : Int32).toInt = (0) := fun z => h_3 (Int32.toInt_inj.mp z)
    unfold fX10_join_22
    unfold fX10_join_27
    refine hs_bd (s_fX10_throwsIf (fun j h => ra j (hs_inc (by decide) h)) (fun j h => ri j (hs_inc (by decide) h)) σ1_1 (1 : Int32) (1 : Int32) Iσ1_1 (show 0 ≤ (1) by omega) (show (1) ≤ 1 by omega) (fun σ1_55 v2_54 Iσ1_55 (gv2_54_0 : v2_54.toInt = (1)) (gv2_54_1 : (σ1_55.2 1).toInt = (σ1_1.2 1).toInt) (gv2_54_2 : (σ1_55.2 2).toInt = (σ1_1.2 2).toInt) (gv2_54_3 : (σ1_55.2 3).toInt = (σ1_1.2 3).toInt) (gv2_54_4 : (σ1_55.2 4).toInt = (σ1_1.2 4).toInt) (gv2_54_5 : (σ1_55.2 5).toInt = (σ1_1.2 5).toInt) (gv2_54_6 : (σ1_55.2 6).toInt = (σ1_1.2 6).toInt) (gv2_54_7 : (σ1_55.2 7).toInt = (σ1_1.2 7).toInt) (gv2_54_8 : (σ1_55.2 8).toInt = (σ1_1.2 8).toInt) (gv2_54_9 : (σ1_55.2 9).toInt = (σ1_1.2 9).toInt) (gv2_54_10 : (σ1_55.2 10).toInt = (σ1_1.2 10).toInt) (gv2_54_11 : (σ1_55.2 11).toInt = (σ1_1.2 11).toInt) (gv2_54_12 : ((1) = 0 ∧ (σ1_55.2 0).toInt = (σ1_1.2 0).toInt) ∨ ((1) = 1 ∧ (σ1_55.2 0).toInt = (1))) => ?_))
    have : (-2147483648 : Int) ≤ (σ1_55.2 0).toInt ∧ (σ1_55.2 0).toInt ≤ 2147483647 := Iσ1_55.2.1 0
    have : (0 : Int) ≤ (σ1_55.2 9).toInt ∧ (σ1_55.2 9).toInt ≤ 60 := Iσ1_55.2.1 9
    refine hs_ite (fun h_56 => ?_) (fun h_56 => ?_)
    · have : (v2_54 : Int32).toInt = (0) := congrArg Int32.toInt h_56
      refine hs_ga (j := 22) Iσ1_55 (by omega) (by omega) (fun v5_57 ev5_57 (bv5_57 : (0 : Int) ≤ v5_57.toInt ∧ v5_57.toInt ≤ 59) => ?_)
      refine hs_ga (j := 22) Iσ1_55 (by omega) (by omega) (fun v8_58 ev8_58 (bv8_58 : (0 : Int) ≤ v8_58.toInt ∧ v8_58.toInt ≤ 59) => ?_)
      refine hs_ga (j := 22) Iσ1_55 (by omega) (by omega) (fun v13_59 ev13_59 (bv13_59 : (0 : Int) ≤ v13_59.toInt ∧ v13_59.toInt ≤ 59) => ?_)
      refine hs_ga (j := 22) Iσ1_55 (by omega) (by omega) (fun v16_60 ev16_60 (bv16_60 : (0 : Int) ≤ v16_60.toInt ∧ v16_60.toInt ≤ 59) => ?_)
      obtain ⟨e_61, he_61⟩ : ∃ e9 : Int32, e9 = (if (v8_58 < v5_57) then v8_58 else v5_57) := ⟨_, rfl⟩
      have : e_61.toInt = (v8_58 : Int32).toInt ∨ e_61.toInt = (v5_57 : Int32).toInt := by rw [he_61]; split <;> first | exact Or.inl rfl | exact Or.inr rfl
      try rw [← he_61]
      refine hs_bd (s_fX10_stampOf σ1_55 e_61 Iσ1_55  (fun v22_62  => ?_))
      obtain ⟨e_63, he_63⟩ : ∃ e9 : Int32, e9 = (if (v13_59 < v16_60) then v16_60 else v13_59) := ⟨_, rfl⟩
      have : e_63.toInt = (v16_60 : Int32).toInt ∨ e_63.toInt = (v13_59 : Int32).toInt := by rw [he_63]; split <;> first | exact Or.inl rfl | exact Or.inr rfl
      try rw [← he_63]
      refine hs_bd (s_fX10_stampOf σ1_55 e_63 Iσ1_55  (fun v25_64  => ?_))
      try rw [← he_61]
      try rw [← he_63]
      refine hs_ite (fun h_65 => ?_) (fun h_65 => ?_)
      · have : (e_61 : Int32).toInt = (e_63 : Int32).toInt := congrArg Int32.toInt h_65
        exact hs_some (hQ σ1_55 (0 : Int32) Iσ1_55 )
      · have : ¬ (e_61 : Int32).toInt = (e_63 : Int32).toInt := fun z => h_65 (Int32.toInt_inj.mp z)
        refine hs_ga (j := 20) Iσ1_55 (by omega) (by omega) (fun v28_66 ev28_66 (bv28_66 : (-2147483648 : Int) ≤ v28_66.toInt ∧ v28_66.toInt ≤ 2147483647) => ?_)
        refine hs_ga (j := 20) Iσ1_55 (by omega) (by omega) (fun v31_67 ev31_67 (bv31_67 : (-2147483648 : Int) ≤ v31_67.toInt ∧ v31_67.toInt ≤ 2147483647) => ?_)
        refine hs_ite (fun h_68 => ?_) (fun h_68 => ?_)
        · have : (v28_66 : Int32).toInt = (v31_67 : Int32).toInt := congrArg Int32.toInt h_68
          refine hs_ite (fun h_69 => ?_) (fun h_69 => ?_)
          · have : (v22_62 : Int32).toInt < (0) := Int32.lt_iff_toInt_lt.mp h_69
            unfold fX10_join_124
            try rw [← he_61]
            try rw [← he_63]
            have hfu : ((hy_fu : Nat) : Int) = 5000 := rfl
            refine s_fX10_join_127 (fun j h => ra j (hs_inc (by decide) h)) (fun j h => ri j (hs_inc (by decide) h))  (fun τ_70 v_71 Iτ_70  => ?_)  hy_fu σ1_55 (e_61 : Int32) (e_63 : Int32) (0 : Int32) Iσ1_55 (show 0 ≤ (e_61 : Int32).toInt by omega) (show (e_61 : Int32).toInt < 60 by omega) (show 0 ≤ (0) by omega) (show (0) ≤ 60 by omega)  (show 60 - (0) < ((hy_fu : Nat) : Int) by rw [hfu]; omega)
            have : (-2147483648 : Int) ≤ (τ_70.2 0).toInt ∧ (τ_70.2 0).toInt ≤ 2147483647 := Iτ_70.2.1 0
            have : (0 : Int) ≤ (τ_70.2 9).toInt ∧ (τ_70.2 9).toInt ≤ 60 := Iτ_70.2.1 9
            exact (hQ τ_70 (v_71 : Int32) Iτ_70 )
          · have : ¬ (v22_62 : Int32).toInt < (0) := fun z => h_69 (Int32.lt_iff_toInt_lt.mpr z)
            refine hs_ite (fun h_72 => ?_) (fun h_72 => ?_)
            · have : (v25_64 : Int32).toInt < (0) := Int32.lt_iff_toInt_lt.mp h_72
              unfold fX10_join_124
              try rw [← he_61]
              try rw [← he_63]
              have hfu : ((hy_fu : Nat) : Int) = 5000 := rfl
              refine s_fX10_join_127 (fun j h => ra j (hs_inc (by decide) h)) (fun j h => ri j (hs_inc (by decide) h))  (fun τ_73 v_74 Iτ_73  => ?_)  hy_fu σ1_55 (e_61 : Int32) (e_63 : Int32) (0 : Int32) Iσ1_55 (show 0 ≤ (e_61 : Int32).toInt by omega) (show (e_61 : Int32).toInt < 60 by omega) (show 0 ≤ (0) by omega) (show (0) ≤ 60 by omega)  (show 60 - (0) < ((hy_fu : Nat) : Int) by rw [hfu]; omega)
              have : (-2147483648 : Int) ≤ (τ_73.2 0).toInt ∧ (τ_73.2 0).toInt ≤ 2147483647 := Iτ_73.2.1 0
              have : (0 : Int) ≤ (τ_73.2 9).toInt ∧ (τ_73.2 9).toInt ≤ 60 := Iτ_73.2.1 9
              exact (hQ τ_73 (v_74 : Int32) Iτ_73 )
            · have : ¬ (v25_64 : Int32).toInt < (0) := fun z => h_72 (Int32.lt_iff_toInt_lt.mpr z)
              refine hs_ite (fun h_75 => ?_) (fun h_75 => ?_)
              · have : (v22_62 : Int32).toInt = (v25_64 : Int32).toInt := congrArg Int32.toInt h_75
                unfold fX10_join_124
                try rw [← he_61]
                try rw [← he_63]
                have hfu : ((hy_fu : Nat) : Int) = 5000 := rfl
                refine s_fX10_join_127 (fun j h => ra j (hs_inc (by decide) h)) (fun j h => ri j (hs_inc (by decide) h))  (fun τ_76 v_77 Iτ_76  => ?_)  hy_fu σ1_55 (e_61 : Int32) (e_63 : Int32) (0 : Int32) Iσ1_55 (show 0 ≤ (e_61 : Int32).toInt by omega) (show (e_61 : Int32).toInt < 60 by omega) (show 0 ≤ (0) by omega) (show (0) ≤ 60 by omega)  (show 60 - (0) < ((hy_fu : Nat) : Int) by rw [hfu]; omega)
                have : (-2147483648 : Int) ≤ (τ_76.2 0).toInt ∧ (τ_76.2 0).toInt ≤ 2147483647 := Iτ_76.2.1 0
                have : (0 : Int) ≤ (τ_76.2 9).toInt ∧ (τ_76.2 9).toInt ≤ 60 := Iτ_76.2.1 9
                exact (hQ τ_76 (v_77 : Int32) Iτ_76 )
              · have : ¬ (v22_62 : Int32).toInt = (v25_64 : Int32).toInt := fun z => h_75 (Int32.toInt_inj.mp z)
                exact hs_some (hQ σ1_55 (0 : Int32) Iσ1_55 )
        · have : ¬ (v28_66 : Int32).toInt = (v31_67 : Int32).toInt := fun z => h_68 (Int32.toInt_inj.mp z)
          exact hs_some (hQ σ1_55 (0 : Int32) Iσ1_55 )
    · have : ¬ (v2_54 : Int32).toInt = (0) := fun z => h_56 (Int32.toInt_inj.mp z)
      exact hs_some (hQ σ1_55 (0 : Int32) Iσ1_55 )
theorem s_fX10_vessels_36 {R : hy_S → Prop} (ra : ∀ j, j ∈ ([] : List Nat) → ∀ (τ : hy_S) (g : Nat → Int32), R τ → R (hy_sc τ j g)) (ri : ∀ j, j ∈ ([] : List Nat) → ∀ (τ : hy_S) (v : Int32), R τ → R (hy_si τ j v)) {Q : hy_S × Int32 → Prop} (hQ : ∀ (σ9 : hy_S) (v9 : Int32), hm_I R σ9 → Q (σ9, v9)) : ∀ (n : Nat) (σ : hy_S) (x1 : Int32) (x2 : Int32) (x3 : Int32), hm_I R σ → 0 ≤ x3.toInt → x3.toInt ≤ 60 → 60 - x3.toInt < (n : Int) → hs_ok (fX10_vessels_36 n σ x1 x2 x3) Q := by
  intro n
  induction n with
  | zero =>
    intro σ x1 x2 x3 I p0 p1  hm
    have : (0 : Int) ≤ (σ.2 9).toInt ∧ (σ.2 9).toInt ≤ 60 := I.2.1 9
    exact absurd hm (by omega)
  | succ n ih =>
    intro σ x1 x2 x3 I p0 p1  hm
    unfold fX10_vessels_36
    have : (0 : Int) ≤ (σ.2 9).toInt ∧ (σ.2 9).toInt ≤ 60 := I.2.1 9
    refine hs_ite (fun h_1 => ?_) (fun h_1 => ?_)
    · have : ((σ.2 9) : Int32).toInt ≤ (x3 : Int32).toInt := Int32.le_iff_toInt_le.mp h_1
      exact hs_some (hQ σ (x2 : Int32) I )
    · have : ¬ ((σ.2 9) : Int32).toInt ≤ (x3 : Int32).toInt := fun z => h_1 (Int32.le_iff_toInt_le.mpr z)
      refine hs_ga (j := 22) I (by omega) (by omega) (fun v2_2 ev2_2 (bv2_2 : (0 : Int) ≤ v2_2.toInt ∧ v2_2.toInt ≤ 59) => ?_)
      refine hs_ite (fun h_3 => ?_) (fun h_3 => ?_)
      · have : (v2_2 : Int32).toInt = (x3 : Int32).toInt := congrArg Int32.toInt h_3
        refine hs_ite (fun h_4 => ?_) (fun h_4 => ?_)
        · have : (x1 : Int32).toInt < (0) := Int32.lt_iff_toInt_lt.mp h_4
          unfold fX10_vessels_68
          unfold fX10_vessels_73
          obtain ⟨e_5, he_5⟩ : ∃ e9 : Int32, e9 = (x2 + 1) := ⟨_, rfl⟩
          try have : e_5.toInt = (x2 : Int32).toInt + (1) := by rw [he_5]; exact hs_addk (1) rfl (by omega) (by omega)
          try rw [← he_5]
          obtain ⟨e_6, he_6⟩ : ∃ e9 : Int32, e9 = (x3 + 1) := ⟨_, rfl⟩
          try have : e_6.toInt = (x3 : Int32).toInt + (1) := by rw [he_6]; exact hs_addk (1) rfl (by omega) (by omega)
          try rw [← he_6]
          exact ih σ (x1 : Int32) (e_5 : Int32) (e_6 : Int32) I (show 0 ≤ (e_6 : Int32).toInt by omega) (show (e_6 : Int32).toInt ≤ 60 by omega)  (by omega)
        · have : ¬ (x1 : Int32).toInt < (0) := fun z => h_4 (Int32.lt_iff_toInt_lt.mpr z)
          refine hs_bd (s_fX10_stampOf σ x3 I  (fun v8_7  => ?_))
          refine hs_ite (fun h_8 => ?_) (fun h_8 => ?_)
          · have : (v8_7 : Int32).toInt = (x1 : Int32).toInt := congrArg Int32.toInt h_8
            unfold fX10_vessels_68
            unfold fX10_vessels_73
            obtain ⟨e_9, he_9⟩ : ∃ e9 : Int32, e9 = (x2 + 1) := ⟨_, rfl⟩
            try have : e_9.toInt = (x2 : Int32).toInt + (1) := by rw [he_9]; exact hs_addk (1) rfl (by omega) (by omega)
            try rw [← he_9]
            obtain ⟨e_10, he_10⟩ : ∃ e9 : Int32, e9 = (x3 + 1) := ⟨_, rfl⟩
            try have : e_10.toInt = (x3 : Int32).toInt + (1) := by rw [he_10]; exact hs_addk (1) rfl (by omega) (by omega)
            try rw [← he_10]
            exact ih σ (x1 : Int32) (e_9 : Int32) (e_10 : Int32) I (show 0 ≤ (e_10 : Int32).toInt by omega) (show (e_10 : Int32).toInt ≤ 60 by omega)  (by omega)
          · have : ¬ (v8_7 : Int32).toInt = (x1 : Int32).toInt := fun z => h_8 (Int32.toInt_inj.mp z)
            unfold fX10_vessels_72
            unfold fX10_vessels_73
            obtain ⟨e_11, he_11⟩ : ∃ e9 : Int32, e9 = (x2 + 0) := ⟨_, rfl⟩
            try have : e_11.toInt = (x2 : Int32).toInt + (0) := by rw [he_11]; exact hs_addk (0) rfl (by omega) (by omega)
            try rw [← he_11]
            obtain ⟨e_12, he_12⟩ : ∃ e9 : Int32, e9 = (x3 + 1) := ⟨_, rfl⟩
            try have : e_12.toInt = (x3 : Int32).toInt + (1) := by rw [he_12]; exact hs_addk (1) rfl (by omega) (by omega)
            try rw [← he_12]
            exact ih σ (x1 : Int32) (e_11 : Int32) (e_12 : Int32) I (show 0 ≤ (e_12 : Int32).toInt by omega) (show (e_12 : Int32).toInt ≤ 60 by omega)  (by omega)
      · have : ¬ (v2_2 : Int32).toInt = (x3 : Int32).toInt := fun z => h_3 (Int32.toInt_inj.mp z)
        unfold fX10_vessels_72
        unfold fX10_vessels_73
        obtain ⟨e_13, he_13⟩ : ∃ e9 : Int32, e9 = (x2 + 0) := ⟨_, rfl⟩
        try have : e_13.toInt = (x2 : Int32).toInt + (0) := by rw [he_13]; exact hs_addk (0) rfl (by omega) (by omega)
        try rw [← he_13]
        obtain ⟨e_14, he_14⟩ : ∃ e9 : Int32, e9 = (x3 + 1) := ⟨_, rfl⟩
        try have : e_14.toInt = (x3 : Int32).toInt + (1) := by rw [he_14]; exact hs_addk (1) rfl (by omega) (by omega)
        try rw [← he_14]
        exact ih σ (x1 : Int32) (e_13 : Int32) (e_14 : Int32) I (show 0 ≤ (e_14 : Int32).toInt by omega) (show (e_14 : Int32).toInt ≤ 60 by omega)  (by omega)
