theorem s_fX10_look_172 {R : hy_S → Prop} {Q : hy_S × Int32 → Prop} : ∀ (n : Nat) (σ : hy_S) (x1 x3 : Int32), hm_I R σ → 0 ≤ x1.toInt → x1.toInt < (σ.2 2).toInt → 0 ≤ (σ.1 8 x1.toNatClampNeg).toInt → 0 ≤ x3.toInt → x3.toInt ≤ 9 → (∀ q : Nat, (q : Int) < x3.toInt → ¬ (σ.1 9 (10 * (σ.1 8 x1.toNatClampNeg).toNatClampNeg + q)).toInt = x1.toInt) → 10 - x3.toInt < (n : Int) → (∀ v9 : Int32, Q (σ, v9)) → hs_ok (fX10_look_172 n σ x1 x3) Q := by
  intro n
  induction n with
  | zero =>
    intro σ x1 x3 I p0 p1 p2 p3 p4 hq hm hQ
    exact absurd hm (by omega)
  | succ n ih =>
    intro σ x1 x3 I p0 p1 p2 p3 p4 hq hm hQ
    have hj : (0 : Int) ≤ (σ.2 2).toInt ∧ (σ.2 2).toInt ≤ 60 := I.2.1 2
    have hn := hs_tn p0
    obtain ⟨k, hk1, hk2⟩ := I.2.2.1 x1.toNatClampNeg (by omega) p2
    have b10 := hm_b10 I (σ.1 8 x1.toNatClampNeg).toNatClampNeg
    have hk3 : x3.toInt ≤ (k : Int) := by
      by_cases c : (k : Int) < x3.toInt
      · exact absurd (by rw [hk2]; exact hn) (hq k c)
      · omega
    have h8 := hm_b8 I x1.toNatClampNeg
    unfold fX10_look_172
    refine hs_ga (j := 8) I (by omega) (by omega) (fun v1 e1 (b1 : (-1 : Int) ≤ v1.toInt ∧ v1.toInt ≤ 23) => ?_)
    have p2' : 0 ≤ v1.toInt := by rw [e1]; exact p2
    have n1 := hs_tn p2'
    have f2 : (10 * v1).toInt = 10 * v1.toInt := hs_mull 10 rfl (by omega) (by omega)
    have f3 : (10 * v1 + x3).toInt = 10 * v1.toInt + x3.toInt := by rw [hs_add (by rw [f2]; omega) (by rw [f2]; omega), f2]
    have n3 : ((10 * v1 + x3).toNatClampNeg : Int) = 10 * v1.toInt + x3.toInt := by rw [hs_tn (by rw [f3]; omega), f3]
    have nx := hs_tn p3
    refine hs_ga (j := 9) I (by rw [f3]; omega) (by rw [f3]; omega) (fun v4 e4 (b4 : (0 : Int) ≤ v4.toInt ∧ v4.toInt ≤ 59) => ?_)
    have en : (10 * v1 + x3).toNatClampNeg = 10 * (σ.1 8 x1.toNatClampNeg).toNatClampNeg + x3.toNatClampNeg := by
      rw [← e1]
      omega
    refine hs_ite (fun h => ?_) (fun h => ?_)
    · refine hs_ga (j := 8) I (by omega) (by omega) (fun v8 e8 (b8 : (-1 : Int) ≤ v8.toInt ∧ v8.toInt ≤ 23) => ?_)
      have p8 : 0 ≤ v8.toInt := by rw [e8]; exact p2
      refine hs_bd (s_fX10_above σ v8 x3 I p8 (by omega) p3 p4 (fun v12 => ?_))
      exact hs_some (hQ v12)
    · have h4 : ¬ v4.toInt = x1.toInt := fun z => h (Int32.toInt_inj.mp z)
      have g1 : (x3 + 1).toInt = x3.toInt + 1 := hs_addk 1 rfl (by omega) (by omega)
      have hne : ¬ (k : Int) = x3.toInt := by
        intro z
        have ek : k = x3.toNatClampNeg := by omega
        rw [ek, ← en, ← e4] at hk2
        omega
      refine ih σ x1 (x3 + 1) I p0 p1 p2 (by rw [g1]; omega) (by rw [g1]; omega) (fun q hq2 => ?_) (by rw [g1]; omega) hQ
      rw [g1] at hq2
      by_cases c : (q : Int) < x3.toInt
      · exact hq q c
      · have eq : q = x3.toNatClampNeg := by omega
        rw [eq, ← en, ← e4]
        exact h4
theorem s_fX10_look {R : hy_S → Prop} (ra : ∀ j, j ∈ ([] : List Nat) → ∀ (τ : hy_S) (g : Nat → Int32), R τ → R (hy_sc τ j g)) (ri : ∀ j, j ∈ ([0] : List Nat) → ∀ (τ : hy_S) (v : Int32), R τ → R (hy_si τ j v)) (σ : hy_S) (x1 : Int32) (x2 : Int32) {P : hy_S → Int32 → Prop} (I : hm_I R σ) (hQ : ∀ (σ9 : hy_S) (v9 : Int32), hm_I R σ9 → P σ9 v9) : hs_ok2 (fX10_look σ x1 x2) P := by
  unfold fX10_look
  show hs_ok _ _
  have : (-2147483648 : Int) ≤ (σ.2 0).toInt ∧ (σ.2 0).toInt ≤ 2147483647 := I.2.1 0
  have : (0 : Int) ≤ (σ.2 2).toInt ∧ (σ.2 2).toInt ≤ 60 := I.2.1 2
  refine hs_pf (v := 0) I (hs_any _) (fun r => ⟨hm_Ri (by decide) r.1, ri 0 (by decide) _ _ r.2⟩) (fun σ1_1 eσ1_1 Iσ1_1 => ?_)
  have : (σ1_1.2 0).toInt = (0) := by rw [eσ1_1]; rfl
  have : (σ1_1.2 2).toInt = (σ.2 2).toInt := by rw [eσ1_1]; rfl
  have : (-2147483648 : Int) ≤ (σ1_1.2 0).toInt ∧ (σ1_1.2 0).toInt ≤ 2147483647 := Iσ1_1.2.1 0
  have : (0 : Int) ≤ (σ1_1.2 2).toInt ∧ (σ1_1.2 2).toInt ≤ 60 := Iσ1_1.2.1 2
  refine hs_noJ (by omega) (fun (u_2_0 : (0 : Int) ≤ (x1 : Int32).toInt) (u_2_1 : (x1 : Int32).toInt < (σ1_1.2 2).toInt) => ?_) (fun (u_2_0 : (x1 : Int32).toInt < 0 ∨ (σ1_1.2 2).toInt ≤ (x1 : Int32).toInt) => ?_)
  · skip
    refine hs_th0 ?_
    refine hs_ite (fun h_3 => ?_) (fun h_3 => ?_)
    · skip
      refine hs_ite (fun h_4 => ?_) (fun h_4 => ?_)
      · have : (x2 : Int32).toInt = (0) := congrArg Int32.toInt h_4
        refine hs_ga (j := 7) Iσ1_1 (by omega) (by omega) (fun v11_5 ev11_5 (bv11_5 : (-2147483648 : Int) ≤ v11_5.toInt ∧ v11_5.toInt ≤ 2147483647) => ?_)
        exact hs_some (hQ σ1_1 (v11_5 : Int32) Iσ1_1 )
      · have : ¬ (x2 : Int32).toInt = (0) := fun z => h_4 (Int32.toInt_inj.mp z)
        refine hs_ite (fun h_6 => ?_) (fun h_6 => ?_)
        · have : (x2 : Int32).toInt = (1) := congrArg Int32.toInt h_6
          refine hs_ga (j := 3) Iσ1_1 (by omega) (by omega) (fun v15_7 ev15_7 (bv15_7 : (0 : Int) ≤ v15_7.toInt ∧ v15_7.toInt ≤ 7) => ?_)
          exact hs_some (hQ σ1_1 (v15_7 : Int32) Iσ1_1 )
        · have : ¬ (x2 : Int32).toInt = (1) := fun z => h_6 (Int32.toInt_inj.mp z)
          refine hs_ite (fun h_8 => ?_) (fun h_8 => ?_)
          · have : (x2 : Int32).toInt = (2) := congrArg Int32.toInt h_8
            refine hs_ga (j := 4) Iσ1_1 (by omega) (by omega) (fun v19_9 ev19_9 (bv19_9 : (-2147483648 : Int) ≤ v19_9.toInt ∧ v19_9.toInt ≤ 2147483647) => ?_)
            exact hs_some (hQ σ1_1 (v19_9 : Int32) Iσ1_1 )
          · have : ¬ (x2 : Int32).toInt = (2) := fun z => h_8 (Int32.toInt_inj.mp z)
            refine hs_ite (fun h_10 => ?_) (fun h_10 => ?_)
            · have : (x2 : Int32).toInt = (3) := congrArg Int32.toInt h_10
              refine hs_ga (j := 5) Iσ1_1 (by omega) (by omega) (fun v23_11 ev23_11 (bv23_11 : (-2147483648 : Int) ≤ v23_11.toInt ∧ v23_11.toInt ≤ 2147483647) => ?_)
              exact hs_some (hQ σ1_1 (v23_11 : Int32) Iσ1_1 )
            · have : ¬ (x2 : Int32).toInt = (3) := fun z => h_10 (Int32.toInt_inj.mp z)
              refine hs_ite (fun h_12 => ?_) (fun h_12 => ?_)
              · have : (x2 : Int32).toInt = (4) := congrArg Int32.toInt h_12
                refine hs_ga (j := 6) Iσ1_1 (by omega) (by omega) (fun v27_13 ev27_13 (bv27_13 : (-2147483648 : Int) ≤ v27_13.toInt ∧ v27_13.toInt ≤ 2147483647) => ?_)
                exact hs_some (hQ σ1_1 (v27_13 : Int32) Iσ1_1 )
              · have : ¬ (x2 : Int32).toInt = (4) := fun z => h_12 (Int32.toInt_inj.mp z)
                refine hs_ite (fun h_14 => ?_) (fun h_14 => ?_)
                · have : (x2 : Int32).toInt = (5) := congrArg Int32.toInt h_14
                  refine hs_bd (s_fX10_weight σ1_1 x1 Iσ1_1 (show 0 ≤ (x1 : Int32).toInt by omega) (show (x1 : Int32).toInt < 60 by omega) (fun v32_15  => ?_))
                  exact hs_some (hQ σ1_1 (v32_15 : Int32) Iσ1_1 )
                · have : ¬ (x2 : Int32).toInt = (5) := fun z => h_14 (Int32.toInt_inj.mp z)
                  refine hs_ite (fun h_16 => ?_) (fun h_16 => ?_)
                  · have : (x2 : Int32).toInt = (6) := congrArg Int32.toInt h_16
                    refine hs_ga (j := 8) Iσ1_1 (by omega) (by omega) (fun v35_17 ev35_17 (bv35_17 : (-1 : Int) ≤ v35_17.toInt ∧ v35_17.toInt ≤ 23) => ?_)
                    have : (σ1_1.1 8 (x1 : Int32).toNatClampNeg).toInt = v35_17.toInt := by rw [ev35_17]
                    refine hs_ite (fun h_18 => ?_) (fun h_18 => ?_)
                    · have : (0) ≤ (v35_17 : Int32).toInt := Int32.le_iff_toInt_le.mp h_18
                      refine hs_ga (j := 8) Iσ1_1 (by omega) (by omega) (fun v39_19 ev39_19 (bv39_19 : (-1 : Int) ≤ v39_19.toInt ∧ v39_19.toInt ≤ 23) => ?_)
                      have : (σ1_1.1 8 (x1 : Int32).toNatClampNeg).toInt = v39_19.toInt := by rw [ev39_19]
                      obtain ⟨e_20, he_20⟩ : ∃ e9 : Int32, e9 = (v39_19 / 6) := ⟨_, rfl⟩
                      try have : e_20.toInt = (v39_19 : Int32).toInt / (6) := by rw [he_20]; exact hs_div (6) rfl (by omega) (by omega)
                      try rw [← he_20]
                      exact hs_some (hQ σ1_1 (e_20 : Int32) Iσ1_1 )
                    · have : ¬ (0) ≤ (v35_17 : Int32).toInt := fun z => h_18 (Int32.le_iff_toInt_le.mpr z)
                      exact hs_some (hQ σ1_1 ((-1) : Int32) Iσ1_1 )
                  · have : ¬ (x2 : Int32).toInt = (6) := fun z => h_16 (Int32.toInt_inj.mp z)
                    refine hs_ite (fun h_21 => ?_) (fun h_21 => ?_)
                    · have : (x2 : Int32).toInt = (7) := congrArg Int32.toInt h_21
                      refine hs_ga (j := 8) Iσ1_1 (by omega) (by omega) (fun v43_22 ev43_22 (bv43_22 : (-1 : Int) ≤ v43_22.toInt ∧ v43_22.toInt ≤ 23) => ?_)
                      have : (σ1_1.1 8 (x1 : Int32).toNatClampNeg).toInt = v43_22.toInt := by rw [ev43_22]
                      refine hs_ite (fun h_23 => ?_) (fun h_23 => ?_)
                      · have : (0) ≤ (v43_22 : Int32).toInt := Int32.le_iff_toInt_le.mp h_23
                        refine hs_ga (j := 8) Iσ1_1 (by omega) (by omega) (fun v47_24 ev47_24 (bv47_24 : (-1 : Int) ≤ v47_24.toInt ∧ v47_24.toInt ≤ 23) => ?_)
                        have : (σ1_1.1 8 (x1 : Int32).toNatClampNeg).toInt = v47_24.toInt := by rw [ev47_24]
                        obtain ⟨e_25, he_25⟩ : ∃ e9 : Int32, e9 = (v47_24 / 6) := ⟨_, rfl⟩
                        try have : e_25.toInt = (v47_24 : Int32).toInt / (6) := by rw [he_25]; exact hs_div (6) rfl (by omega) (by omega)
                        try rw [← he_25]
                        obtain ⟨e_26, he_26⟩ : ∃ e9 : Int32, e9 = (e_25 * 6) := ⟨_, rfl⟩
                        try have : e_26.toInt = (e_25 : Int32).toInt * (6) := by rw [he_26]; exact hs_mulr (6) rfl (by omega) (by omega)
                        try rw [← he_26]
                        obtain ⟨e_27, he_27⟩ : ∃ e9 : Int32, e9 = (v47_24 - e_26) := ⟨_, rfl⟩
                        try have : e_27.toInt = (v47_24 : Int32).toInt - (e_26 : Int32).toInt := by rw [he_27]; exact hs_sub (by omega) (by omega)
                        try rw [← he_27]
                        exact hs_some (hQ σ1_1 (e_27 : Int32) Iσ1_1 )
                      · have : ¬ (0) ≤ (v43_22 : Int32).toInt := fun z => h_23 (Int32.le_iff_toInt_le.mpr z)
                        exact hs_some (hQ σ1_1 ((-1) : Int32) Iσ1_1 )
                    · have : ¬ (x2 : Int32).toInt = (7) := fun z => h_21 (Int32.toInt_inj.mp z)
                      refine hs_ite (fun h_28 => ?_) (fun h_28 => ?_)
                      · have : (x2 : Int32).toInt = (8) := congrArg Int32.toInt h_28
                        refine hs_ga (j := 8) Iσ1_1 (by omega) (by omega) (fun v51_29 ev51_29 (bv51_29 : (-1 : Int) ≤ v51_29.toInt ∧ v51_29.toInt ≤ 23) => ?_)
                        have : (σ1_1.1 8 (x1 : Int32).toNatClampNeg).toInt = v51_29.toInt := by rw [ev51_29]
                        refine hs_ite (fun h_30 => ?_) (fun h_30 => ?_)
                        · have : (0) ≤ (v51_29 : Int32).toInt := Int32.le_iff_toInt_le.mp h_30
                          have hfu : ((hy_fu : Nat) : Int) = 5000 := rfl
                          refine s_fX10_look_172   hy_fu σ1_1 (x1 : Int32) (0 : Int32) Iσ1_1 (show 0 ≤ (x1 : Int32).toInt by omega) (show (x1 : Int32).toInt < (σ1_1.2 2).toInt by omega) (show 0 ≤ (σ1_1.1 8 (x1 : Int32).toNatClampNeg).toInt by omega) (show 0 ≤ (0) by omega) (show (0) ≤ 9 by omega) (fun q hq => absurd hq (by have : (0 : Int32).toInt = 0 := rfl; omega)) (show 10 - (0) < ((hy_fu : Nat) : Int) by rw [hfu]; omega) (fun v_31  => ?_)
                          exact (hQ σ1_1 (v_31 : Int32) Iσ1_1 )
                        · have : ¬ (0) ≤ (v51_29 : Int32).toInt := fun z => h_30 (Int32.le_iff_toInt_le.mpr z)
                          exact hs_some (hQ σ1_1 (0 : Int32) Iσ1_1 )
                      · have : ¬ (x2 : Int32).toInt = (8) := fun z => h_28 (Int32.toInt_inj.mp z)
                        refine hs_pf (v := 2) Iσ1_1 (hs_any _) (fun r => ⟨hm_Ri (by decide) r.1, ri 0 (by decide) _ _ r.2⟩) (fun σ55_32 eσ55_32 Iσ55_32 => ?_)
                        have : (σ55_32.2 0).toInt = (2) := by rw [eσ55_32]; rfl
                        have : (σ55_32.2 2).toInt = (σ1_1.2 2).toInt := by rw [eσ55_32]; rfl
                        have : (-2147483648 : Int) ≤ (σ55_32.2 0).toInt ∧ (σ55_32.2 0).toInt ≤ 2147483647 := Iσ55_32.2.1 0
                        have : (0 : Int) ≤ (σ55_32.2 2).toInt ∧ (σ55_32.2 2).toInt ≤ 60 := Iσ55_32.2.1 2
                        exact hs_some (hQ σ55_32 (0 : Int32) Iσ55_32 )
    · exact absurd (by decide) h_3
  · skip
    refine hs_th1 Iσ1_1 (hs_any _) (fun r => ⟨hm_Ri (by decide) r.1, ri 0 (by decide) _ _ r.2⟩) (fun σ6_33 eσ6_33 Iσ6_33 => ?_)
    have : (σ6_33.2 0).toInt = (1) := by rw [eσ6_33]; rfl
    have : (σ6_33.2 2).toInt = (σ1_1.2 2).toInt := by rw [eσ6_33]; rfl
    have : (-2147483648 : Int) ≤ (σ6_33.2 0).toInt ∧ (σ6_33.2 0).toInt ≤ 2147483647 := Iσ6_33.2.1 0
    have : (0 : Int) ≤ (σ6_33.2 2).toInt ∧ (σ6_33.2 2).toInt ≤ 60 := Iσ6_33.2.1 2
    refine hs_ite (fun h_34 => ?_) (fun h_34 => ?_)
    · exact absurd h_34 (by decide)
    · skip
      exact hs_some (hQ σ6_33 (0 : Int32) Iσ6_33 )
theorem s_fX10_stack {R : hy_S → Prop} (ra : ∀ j, j ∈ ([] : List Nat) → ∀ (τ : hy_S) (g : Nat → Int32), R τ → R (hy_sc τ j g)) (ri : ∀ j, j ∈ ([0] : List Nat) → ∀ (τ : hy_S) (v : Int32), R τ → R (hy_si τ j v)) (σ : hy_S) (x1 : Int32) (x2 : Int32) (x3 : Int32) {P : hy_S → Int32 → Prop} (I : hm_I R σ) (hQ : ∀ (σ9 : hy_S) (v9 : Int32), hm_I R σ9 → P σ9 v9) : hs_ok2 (fX10_stack σ x1 x2 x3) P := by
  unfold fX10_stack
  show hs_ok _ _
  have : (-2147483648 : Int) ≤ (σ.2 0).toInt ∧ (σ.2 0).toInt ≤ 2147483647 := I.2.1 0
  have : (0 : Int) ≤ (σ.2 2).toInt ∧ (σ.2 2).toInt ≤ 60 := I.2.1 2
  have : (0 : Int) ≤ (σ.2 3).toInt ∧ (σ.2 3).toInt ≤ 4 := I.2.1 3
  refine hs_pf (v := 0) I (hs_any _) (fun r => ⟨hm_Ri (by decide) r.1, ri 0 (by decide) _ _ r.2⟩) (fun σ1_1 eσ1_1 Iσ1_1 => ?_)
  have : (σ1_1.2 0).toInt = (0) := by rw [eσ1_1]; rfl
  have : (σ1_1.2 2).toInt = (σ.2 2).toInt := by rw [eσ1_1]; rfl
  have : (σ1_1.2 3).toInt = (σ.2 3).toInt := by rw [eσ1_1]; rfl
  have : (-2147483648 : Int) ≤ (σ1_1.2 0).toInt ∧ (σ1_1.2 0).toInt ≤ 2147483647 := Iσ1_1.2.1 0
  have : (0 : Int) ≤ (σ1_1.2 2).toInt ∧ (σ1_1.2 2).toInt ≤ 60 := Iσ1_1.2.1 2
  have : (0 : Int) ≤ (σ1_1.2 3).toInt ∧ (σ1_1.2 3).toInt ≤ 4 := Iσ1_1.2.1 3
  refine hs_bd (s_fX10_noHold σ1_1 x1 x2 Iσ1_1  (fun v4_2 (gv4_2_0 : 0 ≤ v4_2.toInt) (gv4_2_1 : v4_2.toInt ≤ 1) (gv4_2_2 : v4_2.toInt = 1 ∨ (0 ≤ (x1 : Int32).toInt ∧ (x1 : Int32).toInt < (σ1_1.2 3).toInt ∧ 0 ≤ (x2 : Int32).toInt ∧ (x2 : Int32).toInt ≤ 5)) => ?_))
  refine hs_bd (s_fX10_throwsIf (fun j h => ra j (hs_inc (by decide) h)) (fun j h => ri j (hs_inc (by decide) h)) σ1_1 v4_2 (1 : Int32) Iσ1_1 (show 0 ≤ (v4_2 : Int32).toInt by omega) (show (v4_2 : Int32).toInt ≤ 1 by omega) (fun σ6_4 v7_3 Iσ6_4 (gv7_3_0 : v7_3.toInt = (v4_2 : Int32).toInt) (gv7_3_1 : (σ6_4.2 1).toInt = (σ1_1.2 1).toInt) (gv7_3_2 : (σ6_4.2 2).toInt = (σ1_1.2 2).toInt) (gv7_3_3 : (σ6_4.2 3).toInt = (σ1_1.2 3).toInt) (gv7_3_4 : (σ6_4.2 4).toInt = (σ1_1.2 4).toInt) (gv7_3_5 : (σ6_4.2 5).toInt = (σ1_1.2 5).toInt) (gv7_3_6 : (σ6_4.2 6).toInt = (σ1_1.2 6).toInt) (gv7_3_7 : (σ6_4.2 7).toInt = (σ1_1.2 7).toInt) (gv7_3_8 : (σ6_4.2 8).toInt = (σ1_1.2 8).toInt) (gv7_3_9 : (σ6_4.2 9).toInt = (σ1_1.2 9).toInt) (gv7_3_10 : (σ6_4.2 10).toInt = (σ1_1.2 10).toInt) (gv7_3_11 : (σ6_4.2 11).toInt = (σ1_1.2 11).toInt) => ?_))
  have : (-2147483648 : Int) ≤ (σ6_4.2 0).toInt ∧ (σ6_4.2 0).toInt ≤ 2147483647 := Iσ6_4.2.1 0
  have : (0 : Int) ≤ (σ6_4.2 2).toInt ∧ (σ6_4.2 2).toInt ≤ 60 := Iσ6_4.2.1 2
  have : (0 : Int) ≤ (σ6_4.2 3).toInt ∧ (σ6_4.2 3).toInt ≤ 4 := Iσ6_4.2.1 3
  refine hs_ite (fun h_5 => ?_) (fun h_5 => ?_)
  · have : (v7_3 : Int32).toInt = (0) := congrArg Int32.toInt h_5
    obtain ⟨e_6, he_6⟩ : ∃ e9 : Int32, e9 = (6 * x1) := ⟨_, rfl⟩
    try have : e_6.toInt = (6) * (x1 : Int32).toInt := by rw [he_6]; exact hs_mull (6) rfl (by omega) (by omega)
    try rw [← he_6]
    obtain ⟨e_7, he_7⟩ : ∃ e9 : Int32, e9 = (e_6 + x2) := ⟨_, rfl⟩
    try have : e_7.toInt = (e_6 : Int32).toInt + (x2 : Int32).toInt := by rw [he_7]; exact hs_add (by omega) (by omega)
    try rw [← he_7]
    refine hs_ga (j := 10) Iσ6_4 (by omega) (by omega) (fun v10_8 ev10_8 (bv10_8 : (0 : Int) ≤ v10_8.toInt ∧ v10_8.toInt ≤ 10) => ?_)
    have : (σ6_4.1 10 (e_7 : Int32).toNatClampNeg).toInt = v10_8.toInt := by rw [ev10_8]
    obtain ⟨e_9, he_9⟩ : ∃ e9 : Int32, e9 = (v10_8 - 1) := ⟨_, rfl⟩
    try have : e_9.toInt = (v10_8 : Int32).toInt - (1) := by rw [he_9]; exact hs_subk (1) rfl (by omega) (by omega)
    try rw [← he_9]
    refine hs_bIn (fun (u_10_0 : (0) ≤ (x3 : Int32).toInt) (u_10_1 : (x3 : Int32).toInt ≤ (e_9 : Int32).toInt) => ?_) (fun (u_10_0 : (x3 : Int32).toInt < (0) ∨ (e_9 : Int32).toInt < (x3 : Int32).toInt) => ?_)
    · skip
      refine hs_ite (fun h_11 => ?_) (fun h_11 => ?_)
      · exact absurd h_11 (by decide)
      · skip
        try rw [← he_6]
        try rw [← he_7]
        obtain ⟨e_12, he_12⟩ : ∃ e9 : Int32, e9 = (10 * e_7) := ⟨_, rfl⟩
        try have : e_12.toInt = (10) * (e_7 : Int32).toInt := by rw [he_12]; exact hs_mull (10) rfl (by omega) (by omega)
        try rw [← he_12]
        obtain ⟨e_13, he_13⟩ : ∃ e9 : Int32, e9 = (e_12 + x3) := ⟨_, rfl⟩
        try have : e_13.toInt = (e_12 : Int32).toInt + (x3 : Int32).toInt := by rw [he_13]; exact hs_add (by omega) (by omega)
        try rw [← he_13]
        refine hs_ga (j := 9) Iσ6_4 (by omega) (by omega) (fun v17_14 ev17_14 (bv17_14 : (0 : Int) ≤ v17_14.toInt ∧ v17_14.toInt ≤ 59) => ?_)
        exact hs_some (hQ σ6_4 (v17_14 : Int32) Iσ6_4 )
    · skip
      refine hs_ite (fun h_15 => ?_) (fun h_15 => ?_)
      · skip
        exact hs_some (hQ σ6_4 ((-1) : Int32) Iσ6_4 )
      · exact absurd (by decide) h_15
  · have : ¬ (v7_3 : Int32).toInt = (0) := fun z => h_5 (Int32.toInt_inj.mp z)
    exact hs_some (hQ σ6_4 (0 : Int32) Iσ6_4 )
theorem s_fX10_feed_60 {R : hy_S → Prop} (ra : ∀ j, j ∈ ([17] : List Nat) → ∀ (τ : hy_S) (g : Nat → Int32), R τ → R (hy_sc τ j g)) (ri : ∀ j, j ∈ ([4] : List Nat) → ∀ (τ : hy_S) (v : Int32), R τ → R (hy_si τ j v)) (g : Int) {Q : hy_S × Int32 → Prop} (hQ : ∀ (σ9 : hy_S) (v9 : Int32), hm_I R σ9 → (σ9.2 4).toInt = g + 20 → v9.toInt = g + 20 → Q (σ9, v9)) : ∀ (n : Nat) (σ : hy_S) (x6 : Int32), hm_I R σ → 0 ≤ x6.toInt → x6.toInt ≤ 20 → (σ.2 4).toInt ≤ 380 → (σ.2 4).toInt = g → 20 - x6.toInt < (n : Int) → hs_ok (fX10_feed_60 n σ x6) Q := by
  intro n
  induction n with
  | zero =>
    intro σ x6 I p0 p1 p2 p3  hm
    have : (0 : Int) ≤ (σ.2 4).toInt ∧ (σ.2 4).toInt ≤ 400 := I.2.1 4
    exact absurd hm (by omega)
  | succ n ih =>
    intro σ x6 I p0 p1 p2 p3  hm
    unfold fX10_feed_60
    have : (0 : Int) ≤ (σ.2 4).toInt ∧ (σ.2 4).toInt ≤ 400 := I.2.1 4
    refine hs_ite (fun h_1 => ?_) (fun h_1 => ?_)
    · have : (20) ≤ (x6 : Int32).toInt := Int32.le_iff_toInt_le.mp h_1
      obtain ⟨e_2, he_2⟩ : ∃ e9 : Int32, e9 = ((σ.2 4) + 20) := ⟨_, rfl⟩
      try have : e_2.toInt = ((σ.2 4) : Int32).toInt + (20) := by rw [he_2]; exact hs_addk (20) rfl (by omega) (by omega)
      try rw [← he_2]
      refine hs_pf (v := e_2) I ⟨(by omega : (0 : Int) ≤ (e_2 : Int32).toInt), (by omega : (e_2 : Int32).toInt ≤ 400)⟩ (fun r => ⟨hm_Ri (by decide) r.1, ri 4 (by decide) _ _ r.2⟩) (fun σ2_3 eσ2_3 Iσ2_3 => ?_)
      have : (σ2_3.2 4).toInt = (e_2 : Int32).toInt := by rw [eσ2_3]; rfl
      have : (0 : Int) ≤ (σ2_3.2 4).toInt ∧ (σ2_3.2 4).toInt ≤ 400 := Iσ2_3.2.1 4
      exact hs_some (hQ σ2_3 ((σ2_3.2 4) : Int32) Iσ2_3 (show (σ2_3.2 4).toInt = g + 20 by omega) (show ((σ2_3.2 4) : Int32).toInt = g + 20 by omega))
    · have : ¬ (20) ≤ (x6 : Int32).toInt := fun z => h_1 (Int32.le_iff_toInt_le.mpr z)
      obtain ⟨e_4, he_4⟩ : ∃ e9 : Int32, e9 = (x6 / 4) := ⟨_, rfl⟩
      try have : e_4.toInt = (x6 : Int32).toInt / (4) := by rw [he_4]; exact hs_div (4) rfl (by omega) (by omega)
      try rw [← he_4]
      refine hs_ga (j := 18) I (by omega) (by omega) (fun v4_5 ev4_5 (bv4_5 : (-2147483648 : Int) ≤ v4_5.toInt ∧ v4_5.toInt ≤ 2147483647) => ?_)
      obtain ⟨e_6, he_6⟩ : ∃ e9 : Int32, e9 = ((σ.2 4) + x6) := ⟨_, rfl⟩
      try have : e_6.toInt = ((σ.2 4) : Int32).toInt + (x6 : Int32).toInt := by rw [he_6]; exact hs_add (by omega) (by omega)
      try rw [← he_6]
      refine hs_pa (idx := e_6) (v := _) I (by omega) (by omega) (hs_any _) (fun r => ⟨hm_Ra (by decide) r.1, ra 17 (by decide) _ _ r.2⟩) (fun σ7_7 eσ7_7 Iσ7_7 => ?_)
      have : (σ7_7.2 4).toInt = (σ.2 4).toInt := by rw [eσ7_7]; rfl
      have : (0 : Int) ≤ (σ7_7.2 4).toInt ∧ (σ7_7.2 4).toInt ≤ 400 := Iσ7_7.2.1 4
      obtain ⟨e_8, he_8⟩ : ∃ e9 : Int32, e9 = (x6 + 1) := ⟨_, rfl⟩
      try have : e_8.toInt = (x6 : Int32).toInt + (1) := by rw [he_8]; exact hs_addk (1) rfl (by omega) (by omega)
      try rw [← he_8]
      exact ih σ7_7 (e_8 : Int32) Iσ7_7 (show 0 ≤ (e_8 : Int32).toInt by omega) (show (e_8 : Int32).toInt ≤ 20 by omega) (show (σ7_7.2 4).toInt ≤ 380 by omega) (show (σ7_7.2 4).toInt = g by omega)  (by omega)
theorem s_fX10_feed {R : hy_S → Prop} (ra : ∀ j, j ∈ ([17, 18] : List Nat) → ∀ (τ : hy_S) (g : Nat → Int32), R τ → R (hy_sc τ j g)) (ri : ∀ j, j ∈ ([0, 4] : List Nat) → ∀ (τ : hy_S) (v : Int32), R τ → R (hy_si τ j v)) (σ : hy_S) (x1 : Int32) (x2 : Int32) (x3 : Int32) (x4 : Int32) (x5 : Int32) {P : hy_S → Int32 → Prop} (I : hm_I R σ) (hQ : ∀ (σ9 : hy_S) (v9 : Int32), hm_I R σ9 → ((σ.2 4).toInt + 20 ≤ 400 ∧ (σ9.2 4).toInt = (σ.2 4).toInt + 20 ∧ v9.toInt = (σ.2 4).toInt + 20) ∨ (400 < (σ.2 4).toInt + 20 ∧ (σ9.2 4).toInt = (σ.2 4).toInt ∧ v9.toInt = -1) → P σ9 v9) : hs_ok2 (fX10_feed σ x1 x2 x3 x4 x5) P := by
  unfold fX10_feed
  show hs_ok _ _
  have : (-2147483648 : Int) ≤ (σ.2 0).toInt ∧ (σ.2 0).toInt ≤ 2147483647 := I.2.1 0
  have : (0 : Int) ≤ (σ.2 4).toInt ∧ (σ.2 4).toInt ≤ 400 := I.2.1 4
  refine hs_pf (v := 0) I (hs_any _) (fun r => ⟨hm_Ri (by decide) r.1, ri 0 (by decide) _ _ r.2⟩) (fun σ1_1 eσ1_1 Iσ1_1 => ?_)
  have : (σ1_1.2 0).toInt = (0) := by rw [eσ1_1]; rfl
  have : (σ1_1.2 4).toInt = (σ.2 4).toInt := by rw [eσ1_1]; rfl
  have : (-2147483648 : Int) ≤ (σ1_1.2 0).toInt ∧ (σ1_1.2 0).toInt ≤ 2147483647 := Iσ1_1.2.1 0
  have : (0 : Int) ≤ (σ1_1.2 4).toInt ∧ (σ1_1.2 4).toInt ≤ 400 := Iσ1_1.2.1 4
  obtain ⟨e_2, he_2⟩ : ∃ e9 : Int32, e9 = ((σ1_1.2 4) + 20) := ⟨_, rfl⟩
  try have : e_2.toInt = ((σ1_1.2 4) : Int32).toInt + (20) := by rw [he_2]; exact hs_addk (20) rfl (by omega) (by omega)
  try rw [← he_2]
  refine hs_ite (fun h_3 => ?_) (fun h_3 => ?_)
  · have : (e_2 : Int32).toInt ≤ (400) := Int32.le_iff_toInt_le.mp h_3
    refine hs_pa (idx := 0) (v := _) Iσ1_1 (by decide) (by decide) (hs_any _) (fun r => ⟨hm_Ra (by decide) r.1, ra 18 (by decide) _ _ r.2⟩) (fun σ4_4 eσ4_4 Iσ4_4 => ?_)
    have : (σ4_4.2 0).toInt = (σ1_1.2 0).toInt := by rw [eσ4_4]; rfl
    have : (σ4_4.2 4).toInt = (σ1_1.2 4).toInt := by rw [eσ4_4]; rfl
    have : (-2147483648 : Int) ≤ (σ4_4.2 0).toInt ∧ (σ4_4.2 0).toInt ≤ 2147483647 := Iσ4_4.2.1 0
    have : (0 : Int) ≤ (σ4_4.2 4).toInt ∧ (σ4_4.2 4).toInt ≤ 400 := Iσ4_4.2.1 4
    refine hs_pa (idx := 1) (v := _) Iσ4_4 (by decide) (by decide) (hs_any _) (fun r => ⟨hm_Ra (by decide) r.1, ra 18 (by decide) _ _ r.2⟩) (fun σ7_5 eσ7_5 Iσ7_5 => ?_)
    have : (σ7_5.2 0).toInt = (σ4_4.2 0).toInt := by rw [eσ7_5]; rfl
    have : (σ7_5.2 4).toInt = (σ4_4.2 4).toInt := by rw [eσ7_5]; rfl
    have : (-2147483648 : Int) ≤ (σ7_5.2 0).toInt ∧ (σ7_5.2 0).toInt ≤ 2147483647 := Iσ7_5.2.1 0
    have : (0 : Int) ≤ (σ7_5.2 4).toInt ∧ (σ7_5.2 4).toInt ≤ 400 := Iσ7_5.2.1 4
    refine hs_pa (idx := 2) (v := _) Iσ7_5 (by decide) (by decide) (hs_any _) (fun r => ⟨hm_Ra (by decide) r.1, ra 18 (by decide) _ _ r.2⟩) (fun σ10_6 eσ10_6 Iσ10_6 => ?_)
    have : (σ10_6.2 0).toInt = (σ7_5.2 0).toInt := by rw [eσ10_6]; rfl
    have : (σ10_6.2 4).toInt = (σ7_5.2 4).toInt := by rw [eσ10_6]; rfl
    have : (-2147483648 : Int) ≤ (σ10_6.2 0).toInt ∧ (σ10_6.2 0).toInt ≤ 2147483647 := Iσ10_6.2.1 0
    have : (0 : Int) ≤ (σ10_6.2 4).toInt ∧ (σ10_6.2 4).toInt ≤ 400 := Iσ10_6.2.1 4
    refine hs_pa (idx := 3) (v := _) Iσ10_6 (by decide) (by decide) (hs_any _) (fun r => ⟨hm_Ra (by decide) r.1, ra 18 (by decide) _ _ r.2⟩) (fun σ13_7 eσ13_7 Iσ13_7 => ?_)
    have : (σ13_7.2 0).toInt = (σ10_6.2 0).toInt := by rw [eσ13_7]; rfl
    have : (σ13_7.2 4).toInt = (σ10_6.2 4).toInt := by rw [eσ13_7]; rfl
    have : (-2147483648 : Int) ≤ (σ13_7.2 0).toInt ∧ (σ13_7.2 0).toInt ≤ 2147483647 := Iσ13_7.2.1 0
    have : (0 : Int) ≤ (σ13_7.2 4).toInt ∧ (σ13_7.2 4).toInt ≤ 400 := Iσ13_7.2.1 4
    refine hs_pa (idx := 4) (v := _) Iσ13_7 (by decide) (by decide) (hs_any _) (fun r => ⟨hm_Ra (by decide) r.1, ra 18 (by decide) _ _ r.2⟩) (fun σ16_8 eσ16_8 Iσ16_8 => ?_)
    have : (σ16_8.2 0).toInt = (σ13_7.2 0).toInt := by rw [eσ16_8]; rfl
    have : (σ16_8.2 4).toInt = (σ13_7.2 4).toInt := by rw [eσ16_8]; rfl
    have : (-2147483648 : Int) ≤ (σ16_8.2 0).toInt ∧ (σ16_8.2 0).toInt ≤ 2147483647 := Iσ16_8.2.1 0
    have : (0 : Int) ≤ (σ16_8.2 4).toInt ∧ (σ16_8.2 4).toInt ≤ 400 := Iσ16_8.2.1 4
    have hfu : ((hy_fu : Nat) : Int) = 5000 := rfl
    refine s_fX10_feed_60 (fun j h => ra j (hs_inc (by decide) h)) (fun j h => ri j (hs_inc (by decide) h)) ((σ16_8.2 4).toInt) (fun τ_9 v_10 Iτ_9 gv_10_0 gv_10_1 => ?_)  hy_fu σ16_8 (0 : Int32) Iσ16_8 (show 0 ≤ (0) by omega) (show (0) ≤ 20 by omega) (show (σ16_8.2 4).toInt ≤ 380 by omega) (show (σ16_8.2 4).toInt = ((σ16_8.2 4).toInt) by omega)  (show 20 - (0) < ((hy_fu : Nat) : Int) by rw [hfu]; omega)
    have : (-2147483648 : Int) ≤ (τ_9.2 0).toInt ∧ (τ_9.2 0).toInt ≤ 2147483647 := Iτ_9.2.1 0
    have : (0 : Int) ≤ (τ_9.2 4).toInt ∧ (τ_9.2 4).toInt ≤ 400 := Iτ_9.2.1 4
    exact (hQ τ_9 (v_10 : Int32) Iτ_9 (show ((σ.2 4).toInt + 20 ≤ 400 ∧ (τ_9.2 4).toInt = (σ.2 4).toInt + 20 ∧ (v_10 : Int32).toInt = (σ.2 4).toInt + 20) ∨ (400 < (σ.2 4).toInt + 20 ∧ (τ_9.2 4).toInt = (σ.2 4).toInt ∧ (v_10 : Int32).toInt = -1) by omega))
  · have : ¬ (e_2 : Int32).toInt ≤ (400) := fun z => h_3 (Int32.le_iff_toInt_le.mpr z)
    exact hs_some (hQ σ1_1 ((-1) : Int32) Iσ1_1 (show ((σ.2 4).toInt + 20 ≤ 400 ∧ (σ1_1.2 4).toInt = (σ.2 4).toInt + 20 ∧ (-1) = (σ.2 4).toInt + 20) ∨ (400 < (σ.2 4).toInt + 20 ∧ (σ1_1.2 4).toInt = (σ.2 4).toInt ∧ (-1) = -1) by omega))
theorem s_fX10_end {R : hy_S → Prop} (ra : ∀ j, j ∈ ([] : List Nat) → ∀ (τ : hy_S) (g : Nat → Int32), R τ → R (hy_sc τ j g)) (ri : ∀ j, j ∈ ([0, 4] : List Nat) → ∀ (τ : hy_S) (v : Int32), R τ → R (hy_si τ j v)) (σ : hy_S) (x1 : Int32) {P : hy_S → Int32 → Prop} (I : hm_I R σ) (hQ : ∀ (σ9 : hy_S) (v9 : Int32), hm_I R σ9 → (0 ≤ x1.toInt ∧ x1.toInt ≤ (σ.2 4).toInt ∧ (σ9.2 4).toInt = x1.toInt ∧ v9.toInt = 1) ∨ ((x1.toInt < 0 ∨ (σ.2 4).toInt < x1.toInt) ∧ (σ9.2 4).toInt = (σ.2 4).toInt ∧ v9.toInt = 0) → P σ9 v9) : hs_ok2 (fX10_end σ x1) P := by
  unfold fX10_end
  show hs_ok _ _
  have : (-2147483648 : Int) ≤ (σ.2 0).toInt ∧ (σ.2 0).toInt ≤ 2147483647 := I.2.1 0
  have : (0 : Int) ≤ (σ.2 4).toInt ∧ (σ.2 4).toInt ≤ 400 := I.2.1 4
  refine hs_pf (v := 0) I (hs_any _) (fun r => ⟨hm_Ri (by decide) r.1, ri 0 (by decide) _ _ r.2⟩) (fun σ1_1 eσ1_1 Iσ1_1 => ?_)
  have : (σ1_1.2 0).toInt = (0) := by rw [eσ1_1]; rfl
  have : (σ1_1.2 4).toInt = (σ.2 4).toInt := by rw [eσ1_1]; rfl
  have : (-2147483648 : Int) ≤ (σ1_1.2 0).toInt ∧ (σ1_1.2 0).toInt ≤ 2147483647 := Iσ1_1.2.1 0
  have : (0 : Int) ≤ (σ1_1.2 4).toInt ∧ (σ1_1.2 4).toInt ≤ 400 := Iσ1_1.2.1 4
  refine hs_ite (fun h_2 => ?_) (fun h_2 => ?_)
  · have : (x1 : Int32).toInt < (0) := Int32.lt_iff_toInt_lt.mp h_2
    exact hs_some (hQ σ1_1 (0 : Int32) Iσ1_1 (show (0 ≤ x1.toInt ∧ x1.toInt ≤ (σ.2 4).toInt ∧ (σ1_1.2 4).toInt = x1.toInt ∧ (0) = 1) ∨ ((x1.toInt < 0 ∨ (σ.2 4).toInt < x1.toInt) ∧ (σ1_1.2 4).toInt = (σ.2 4).toInt ∧ (0) = 0) by omega))
  · have : ¬ (x1 : Int32).toInt < (0) := fun z => h_2 (Int32.lt_iff_toInt_lt.mpr z)
    refine hs_ite (fun h_3 => ?_) (fun h_3 => ?_)
    · have : (x1 : Int32).toInt ≤ ((σ1_1.2 4) : Int32).toInt := Int32.le_iff_toInt_le.mp h_3
      refine hs_pf (v := x1) Iσ1_1 ⟨(by omega : (0 : Int) ≤ (x1 : Int32).toInt), (by omega : (x1 : Int32).toInt ≤ 400)⟩ (fun r => ⟨hm_Ri (by decide) r.1, ri 4 (by decide) _ _ r.2⟩) (fun σ5_4 eσ5_4 Iσ5_4 => ?_)
      have : (σ5_4.2 0).toInt = (σ1_1.2 0).toInt := by rw [eσ5_4]; rfl
      have : (σ5_4.2 4).toInt = (x1 : Int32).toInt := by rw [eσ5_4]; rfl
      have : (-2147483648 : Int) ≤ (σ5_4.2 0).toInt ∧ (σ5_4.2 0).toInt ≤ 2147483647 := Iσ5_4.2.1 0
      have : (0 : Int) ≤ (σ5_4.2 4).toInt ∧ (σ5_4.2 4).toInt ≤ 400 := Iσ5_4.2.1 4
      exact hs_some (hQ σ5_4 (1 : Int32) Iσ5_4 (show (0 ≤ x1.toInt ∧ x1.toInt ≤ (σ.2 4).toInt ∧ (σ5_4.2 4).toInt = x1.toInt ∧ (1) = 1) ∨ ((x1.toInt < 0 ∨ (σ.2 4).toInt < x1.toInt) ∧ (σ5_4.2 4).toInt = (σ.2 4).toInt ∧ (1) = 0) by omega))
    · have : ¬ (x1 : Int32).toInt ≤ ((σ1_1.2 4) : Int32).toInt := fun z => h_3 (Int32.le_iff_toInt_le.mpr z)
      exact hs_some (hQ σ1_1 (0 : Int32) Iσ1_1 (show (0 ≤ x1.toInt ∧ x1.toInt ≤ (σ.2 4).toInt ∧ (σ1_1.2 4).toInt = x1.toInt ∧ (0) = 1) ∨ ((x1.toInt < 0 ∨ (σ.2 4).toInt < x1.toInt) ∧ (σ1_1.2 4).toInt = (σ.2 4).toInt ∧ (0) = 0) by omega))
theorem s_fX10_rate {R : hy_S → Prop} (ra : ∀ j, j ∈ ([14] : List Nat) → ∀ (τ : hy_S) (g : Nat → Int32), R τ → R (hy_sc τ j g)) (ri : ∀ j, j ∈ ([0] : List Nat) → ∀ (τ : hy_S) (v : Int32), R τ → R (hy_si τ j v)) (σ : hy_S) (x1 : Int32) (x2 : Int32) {P : hy_S → Int32 → Prop} (I : hm_I R σ) (hQ : ∀ (σ9 : hy_S) (v9 : Int32), hm_I R σ9 → P σ9 v9) : hs_ok2 (fX10_rate σ x1 x2) P := by
  unfold fX10_rate
  show hs_ok _ _
  have : (-2147483648 : Int) ≤ (σ.2 0).toInt ∧ (σ.2 0).toInt ≤ 2147483647 := I.2.1 0
  refine hs_pf (v := 0) I (hs_any _) (fun r => ⟨hm_Ri (by decide) r.1, ri 0 (by decide) _ _ r.2⟩) (fun σ1_1 eσ1_1 Iσ1_1 => ?_)
  have : (σ1_1.2 0).toInt = (0) := by rw [eσ1_1]; rfl
  have : (-2147483648 : Int) ≤ (σ1_1.2 0).toInt ∧ (σ1_1.2 0).toInt ≤ 2147483647 := Iσ1_1.2.1 0
  refine hs_bIn (fun (u_2_0 : (0) ≤ (x1 : Int32).toInt) (u_2_1 : (x1 : Int32).toInt ≤ (7)) => ?_) (fun (u_2_0 : (x1 : Int32).toInt < (0) ∨ (7) < (x1 : Int32).toInt) => ?_)
  · skip
    refine hs_ite (fun h_3 => ?_) (fun h_3 => ?_)
    · exact absurd h_3 (by decide)
    · skip
      unfold fX10_rate_21
      refine hs_th0 ?_
      refine hs_ite (fun h_4 => ?_) (fun h_4 => ?_)
      · skip
        refine hs_bIn (fun (u_5_0 : (0) ≤ (x2 : Int32).toInt) (u_5_1 : (x2 : Int32).toInt ≤ (1000)) => ?_) (fun (u_5_0 : (x2 : Int32).toInt < (0) ∨ (1000) < (x2 : Int32).toInt) => ?_)
        · skip
          refine hs_ite (fun h_6 => ?_) (fun h_6 => ?_)
          · exact absurd h_6 (by decide)
          · skip
            unfold fX10_rate_45
            refine hs_th0 ?_
            refine hs_ite (fun h_7 => ?_) (fun h_7 => ?_)
            · skip
              refine hs_pa (idx := x1) (v := _) Iσ1_1 (by omega) (by omega) (hs_any _) (fun r => ⟨hm_Ra (by decide) r.1, ra 14 (by decide) _ _ r.2⟩) (fun σ5_8 eσ5_8 Iσ5_8 => ?_)
              have : (σ5_8.2 0).toInt = (σ1_1.2 0).toInt := by rw [eσ5_8]; rfl
              have : (-2147483648 : Int) ≤ (σ5_8.2 0).toInt ∧ (σ5_8.2 0).toInt ≤ 2147483647 := Iσ5_8.2.1 0
              exact hs_some (hQ σ5_8 (0 : Int32) Iσ5_8 )
            · exact absurd (by decide) h_7
        · skip
          refine hs_ite (fun h_9 => ?_) (fun h_9 => ?_)
          · skip
            unfold fX10_rate_45
            refine hs_th1 Iσ1_1 (hs_any _) (fun r => ⟨hm_Ri (by decide) r.1, ri 0 (by decide) _ _ r.2⟩) (fun σ1_10 eσ1_10 Iσ1_10 => ?_)
            have : (σ1_10.2 0).toInt = (2) := by rw [eσ1_10]; rfl
            have : (-2147483648 : Int) ≤ (σ1_10.2 0).toInt ∧ (σ1_10.2 0).toInt ≤ 2147483647 := Iσ1_10.2.1 0
            refine hs_ite (fun h_11 => ?_) (fun h_11 => ?_)
            · exact absurd h_11 (by decide)
            · skip
              exact hs_some (hQ σ1_10 (0 : Int32) Iσ1_10 )
          · exact absurd (by decide) h_9
      · exact absurd (by decide) h_4
  · skip
    refine hs_ite (fun h_12 => ?_) (fun h_12 => ?_)
    · skip
      unfold fX10_rate_21
      refine hs_th1 Iσ1_1 (hs_any _) (fun r => ⟨hm_Ri (by decide) r.1, ri 0 (by decide) _ _ r.2⟩) (fun σ1_13 eσ1_13 Iσ1_13 => ?_)
      have : (σ1_13.2 0).toInt = (1) := by rw [eσ1_13]; rfl
      have : (-2147483648 : Int) ≤ (σ1_13.2 0).toInt ∧ (σ1_13.2 0).toInt ≤ 2147483647 := Iσ1_13.2.1 0
      refine hs_ite (fun h_14 => ?_) (fun h_14 => ?_)
      · exact absurd h_14 (by decide)
      · skip
        exact hs_some (hQ σ1_13 (0 : Int32) Iσ1_13 )
    · exact absurd (by decide) h_12
theorem s_fX10_isAt {R : hy_S → Prop} (σ : hy_S) (x1 : Int32) (x2 : Int32) {P : hy_S → Int32 → Prop} (I : hm_I R σ) (hQ : ∀ v9 : Int32, 0 ≤ v9.toInt → v9.toInt ≤ 1 → v9.toInt = 0 ∨ (σ.2 5).toInt < (σ.2 6).toInt → P σ v9) : hs_ok2 (fX10_isAt σ x1 x2) P := by
  unfold fX10_isAt
  show hs_ok _ _
  have : (0 : Int) ≤ (σ.2 5).toInt ∧ (σ.2 5).toInt ≤ 400 := I.2.1 5
  have : (0 : Int) ≤ (σ.2 6).toInt ∧ (σ.2 6).toInt ≤ 400 := I.2.1 6
  refine hs_ite (fun h_1 => ?_) (fun h_1 => ?_)
  · have : ((σ.2 6) : Int32).toInt ≤ ((σ.2 5) : Int32).toInt := Int32.le_iff_toInt_le.mp h_1
    exact hs_some (hQ (0 : Int32) (show 0 ≤ (0) by omega) (show (0) ≤ 1 by omega) (show (0) = 0 ∨ (σ.2 5).toInt < (σ.2 6).toInt by omega))
  · have : ¬ ((σ.2 6) : Int32).toInt ≤ ((σ.2 5) : Int32).toInt := fun z => h_1 (Int32.le_iff_toInt_le.mpr z)
    refine hs_ga (j := 17) I (by omega) (by omega) (fun v2_2 ev2_2 (bv2_2 : (-2147483648 : Int) ≤ v2_2.toInt ∧ v2_2.toInt ≤ 2147483647) => ?_)
    refine hs_ite (fun h_3 => ?_) (fun h_3 => ?_)
    · have : (v2_2 : Int32).toInt < (x1 : Int32).toInt := Int32.lt_iff_toInt_lt.mp h_3
      exact hs_some (hQ (0 : Int32) (show 0 ≤ (0) by omega) (show (0) ≤ 1 by omega) (show (0) = 0 ∨ (σ.2 5).toInt < (σ.2 6).toInt by omega))
    · have : ¬ (v2_2 : Int32).toInt < (x1 : Int32).toInt := fun z => h_3 (Int32.lt_iff_toInt_lt.mpr z)
      refine hs_ga (j := 17) I (by omega) (by omega) (fun v6_4 ev6_4 (bv6_4 : (-2147483648 : Int) ≤ v6_4.toInt ∧ v6_4.toInt ≤ 2147483647) => ?_)
      refine hs_ite (fun h_5 => ?_) (fun h_5 => ?_)
      · have : (x2 : Int32).toInt < (v6_4 : Int32).toInt := Int32.lt_iff_toInt_lt.mp h_5
        exact hs_some (hQ (0 : Int32) (show 0 ≤ (0) by omega) (show (0) ≤ 1 by omega) (show (0) = 0 ∨ (σ.2 5).toInt < (σ.2 6).toInt by omega))
      · have : ¬ (x2 : Int32).toInt < (v6_4 : Int32).toInt := fun z => h_5 (Int32.lt_iff_toInt_lt.mpr z)
        exact hs_some (hQ (1 : Int32) (show 0 ≤ (1) by omega) (show (1) ≤ 1 by omega) (show (1) = 0 ∨ (σ.2 5).toInt < (σ.2 6).toInt by omega))
theorem s_fX10_blanks_0 {R : hy_S → Prop} (ra : ∀ j, j ∈ ([] : List Nat) → ∀ (τ : hy_S) (g : Nat → Int32), R τ → R (hy_sc τ j g)) (ri : ∀ j, j ∈ ([5, 7] : List Nat) → ∀ (τ : hy_S) (v : Int32), R τ → R (hy_si τ j v)) (g : Int) (h : Int) {Q : hy_S × Int32 → Prop} (hQ : ∀ (σ9 : hy_S) (v9 : Int32), hm_I R σ9 → (σ9.2 6).toInt = g → (σ9.2 5).toInt ≤ g → (σ9.2 7).toInt = (σ9.2 5).toInt → (σ9.2 4).toInt = h → Q (σ9, v9)) : ∀ (n : Nat) (σ : hy_S), hm_I R σ → (σ.2 6).toInt = g → (σ.2 5).toInt ≤ g → (σ.2 4).toInt = h → (σ.2 6).toInt - (σ.2 5).toInt < (n : Int) → hs_ok (fX10_blanks_0 n σ ) Q := by
  intro n
  induction n with
  | zero =>
    intro σ  I p0 p1 p2  hm
    have : (0 : Int) ≤ (σ.2 4).toInt ∧ (σ.2 4).toInt ≤ 400 := I.2.1 4
    have : (0 : Int) ≤ (σ.2 5).toInt ∧ (σ.2 5).toInt ≤ 400 := I.2.1 5
    have : (0 : Int) ≤ (σ.2 6).toInt ∧ (σ.2 6).toInt ≤ 400 := I.2.1 6
    have : (0 : Int) ≤ (σ.2 7).toInt ∧ (σ.2 7).toInt ≤ 400 := I.2.1 7
    exact absurd hm (by omega)
  | succ n ih =>
    intro σ  I p0 p1 p2  hm
    unfold fX10_blanks_0
    have : (0 : Int) ≤ (σ.2 4).toInt ∧ (σ.2 4).toInt ≤ 400 := I.2.1 4
    have : (0 : Int) ≤ (σ.2 5).toInt ∧ (σ.2 5).toInt ≤ 400 := I.2.1 5
    have : (0 : Int) ≤ (σ.2 6).toInt ∧ (σ.2 6).toInt ≤ 400 := I.2.1 6
    have : (0 : Int) ≤ (σ.2 7).toInt ∧ (σ.2 7).toInt ≤ 400 := I.2.1 7
    refine hs_bd (s_fX10_isAt σ (32 : Int32) (32 : Int32) I  (fun v2_1 (gv2_1_0 : 0 ≤ v2_1.toInt) (gv2_1_1 : v2_1.toInt ≤ 1) (gv2_1_2 : v2_1.toInt = 0 ∨ (σ.2 5).toInt < (σ.2 6).toInt) => ?_))
    refine hs_ite (fun h_2 => ?_) (fun h_2 => ?_)
    · have : (v2_1 : Int32).toInt = (0) := congrArg Int32.toInt h_2
      refine hs_pf (v := (σ.2 5)) I ⟨(by omega : (0 : Int) ≤ ((σ.2 5) : Int32).toInt), (by omega : ((σ.2 5) : Int32).toInt ≤ 400)⟩ (fun r => ⟨hm_Ri (by decide) r.1, ri 7 (by decide) _ _ r.2⟩) (fun σ5_3 eσ5_3 Iσ5_3 => ?_)
      have : (σ5_3.2 4).toInt = (σ.2 4).toInt := by rw [eσ5_3]; rfl
      have : (σ5_3.2 5).toInt = (σ.2 5).toInt := by rw [eσ5_3]; rfl
      have : (σ5_3.2 6).toInt = (σ.2 6).toInt := by rw [eσ5_3]; rfl
      have : (σ5_3.2 7).toInt = ((σ.2 5) : Int32).toInt := by rw [eσ5_3]; rfl
      have : (0 : Int) ≤ (σ5_3.2 4).toInt ∧ (σ5_3.2 4).toInt ≤ 400 := Iσ5_3.2.1 4
      have : (0 : Int) ≤ (σ5_3.2 5).toInt ∧ (σ5_3.2 5).toInt ≤ 400 := Iσ5_3.2.1 5
      have : (0 : Int) ≤ (σ5_3.2 6).toInt ∧ (σ5_3.2 6).toInt ≤ 400 := Iσ5_3.2.1 6
      have : (0 : Int) ≤ (σ5_3.2 7).toInt ∧ (σ5_3.2 7).toInt ≤ 400 := Iσ5_3.2.1 7
      exact hs_some (hQ σ5_3 (0 : Int32) Iσ5_3 (show (σ5_3.2 6).toInt = g by omega) (show (σ5_3.2 5).toInt ≤ g by omega) (show (σ5_3.2 7).toInt = (σ5_3.2 5).toInt by omega) (show (σ5_3.2 4).toInt = h by omega))
    · have : ¬ (v2_1 : Int32).toInt = (0) := fun z => h_2 (Int32.toInt_inj.mp z)
      obtain ⟨e_4, he_4⟩ : ∃ e9 : Int32, e9 = ((σ.2 5) + 1) := ⟨_, rfl⟩
      try have : e_4.toInt = ((σ.2 5) : Int32).toInt + (1) := by rw [he_4]; exact hs_addk (1) rfl (by omega) (by omega)
      try rw [← he_4]
      refine hs_pf (v := e_4) I ⟨(by omega : (0 : Int) ≤ (e_4 : Int32).toInt), (by omega : (e_4 : Int32).toInt ≤ 400)⟩ (fun r => ⟨hm_Ri (by decide) r.1, ri 5 (by decide) _ _ r.2⟩) (fun σ7_5 eσ7_5 Iσ7_5 => ?_)
      have : (σ7_5.2 4).toInt = (σ.2 4).toInt := by rw [eσ7_5]; rfl
      have : (σ7_5.2 5).toInt = (e_4 : Int32).toInt := by rw [eσ7_5]; rfl
      have : (σ7_5.2 6).toInt = (σ.2 6).toInt := by rw [eσ7_5]; rfl
      have : (σ7_5.2 7).toInt = (σ.2 7).toInt := by rw [eσ7_5]; rfl
      have : (0 : Int) ≤ (σ7_5.2 4).toInt ∧ (σ7_5.2 4).toInt ≤ 400 := Iσ7_5.2.1 4
      have : (0 : Int) ≤ (σ7_5.2 5).toInt ∧ (σ7_5.2 5).toInt ≤ 400 := Iσ7_5.2.1 5
      have : (0 : Int) ≤ (σ7_5.2 6).toInt ∧ (σ7_5.2 6).toInt ≤ 400 := Iσ7_5.2.1 6
      have : (0 : Int) ≤ (σ7_5.2 7).toInt ∧ (σ7_5.2 7).toInt ≤ 400 := Iσ7_5.2.1 7
      exact ih σ7_5  Iσ7_5 (show (σ7_5.2 6).toInt = g by omega) (show (σ7_5.2 5).toInt ≤ g by omega) (show (σ7_5.2 4).toInt = h by omega)  (by omega)
theorem s_fX10_blanks {R : hy_S → Prop} (ra : ∀ j, j ∈ ([] : List Nat) → ∀ (τ : hy_S) (g : Nat → Int32), R τ → R (hy_sc τ j g)) (ri : ∀ j, j ∈ ([5, 7] : List Nat) → ∀ (τ : hy_S) (v : Int32), R τ → R (hy_si τ j v)) (σ : hy_S) {P : hy_S → Int32 → Prop} (I : hm_I R σ) (p0 : (σ.2 5).toInt ≤ (σ.2 6).toInt) (hQ : ∀ (σ9 : hy_S) (v9 : Int32), hm_I R σ9 → (σ9.2 6).toInt = (σ.2 6).toInt → (σ9.2 5).toInt ≤ (σ.2 6).toInt → (σ9.2 7).toInt = (σ9.2 5).toInt → (σ9.2 4).toInt = (σ.2 4).toInt → P σ9 v9) : hs_ok2 (fX10_blanks σ ) P := by
  unfold fX10_blanks
  show hs_ok _ _
  have : (0 : Int) ≤ (σ.2 4).toInt ∧ (σ.2 4).toInt ≤ 400 := I.2.1 4
  have : (0 : Int) ≤ (σ.2 5).toInt ∧ (σ.2 5).toInt ≤ 400 := I.2.1 5
  have : (0 : Int) ≤ (σ.2 6).toInt ∧ (σ.2 6).toInt ≤ 400 := I.2.1 6
  have : (0 : Int) ≤ (σ.2 7).toInt ∧ (σ.2 7).toInt ≤ 400 := I.2.1 7
  have hfu : ((hy_fu : Nat) : Int) = 5000 := rfl
  refine s_fX10_blanks_0 (fun j h => ra j (hs_inc (by decide) h)) (fun j h => ri j (hs_inc (by decide) h)) ((σ.2 6).toInt) ((σ.2 4).toInt) (fun τ_1 v_2 Iτ_1 gv_2_0 gv_2_1 gv_2_2 gv_2_3 => ?_)  hy_fu σ  I (show (σ.2 6).toInt = ((σ.2 6).toInt) by omega) (show (σ.2 5).toInt ≤ ((σ.2 6).toInt) by omega) (show (σ.2 4).toInt = ((σ.2 4).toInt) by omega)  (show (σ.2 6).toInt - (σ.2 5).toInt < ((hy_fu : Nat) : Int) by rw [hfu]; omega)
  have : (0 : Int) ≤ (τ_1.2 4).toInt ∧ (τ_1.2 4).toInt ≤ 400 := Iτ_1.2.1 4
  have : (0 : Int) ≤ (τ_1.2 5).toInt ∧ (τ_1.2 5).toInt ≤ 400 := Iτ_1.2.1 5
  have : (0 : Int) ≤ (τ_1.2 6).toInt ∧ (τ_1.2 6).toInt ≤ 400 := Iτ_1.2.1 6
  have : (0 : Int) ≤ (τ_1.2 7).toInt ∧ (τ_1.2 7).toInt ≤ 400 := Iτ_1.2.1 7
  exact (hQ τ_1 (v_2 : Int32) Iτ_1 (show (τ_1.2 6).toInt = (σ.2 6).toInt by omega) (show (τ_1.2 5).toInt ≤ (σ.2 6).toInt by omega) (show (τ_1.2 7).toInt = (τ_1.2 5).toInt by omega) (show (τ_1.2 4).toInt = (σ.2 4).toInt by omega))
theorem s_fX10_isFalse {R : hy_S → Prop} (σ : hy_S) (x1 : Int32) {P : hy_S → Int32 → Prop} (I : hm_I R σ) (p0 : 0 ≤ x1.toInt) (p1 : x1.toInt < 8) (hQ : ∀ v9 : Int32, P σ v9) : hs_ok2 (fX10_isFalse σ x1) P := by
  unfold fX10_isFalse
  show hs_ok _ _
  have : (0 : Int) ≤ (σ.2 2).toInt ∧ (σ.2 2).toInt ≤ 60 := I.2.1 2
  refine hs_ga (j := 19) I (by decide) (by decide) (fun v1_1 ev1_1 (bv1_1 : (-2147483648 : Int) ≤ v1_1.toInt ∧ v1_1.toInt ≤ 2147483647) => ?_)
  refine hs_bd (s_fX10_noJar σ v1_1 I  (fun v5_2 (gv5_2_0 : 0 ≤ v5_2.toInt) (gv5_2_1 : v5_2.toInt ≤ 1) (gv5_2_2 : v5_2.toInt = 1 ∨ (0 ≤ (v1_1 : Int32).toInt ∧ (v1_1 : Int32).toInt < (σ.2 2).toInt)) => ?_))
  refine hs_ite (fun h_3 => ?_) (fun h_3 => ?_)
  · have : (v5_2 : Int32).toInt = (0) := congrArg Int32.toInt h_3
    refine hs_ga (j := 7) I (by omega) (by omega) (fun v8_4 ev8_4 (bv8_4 : (-2147483648 : Int) ≤ v8_4.toInt ∧ v8_4.toInt ≤ 2147483647) => ?_)
    refine hs_ite (fun h_5 => ?_) (fun h_5 => ?_)
    · have : (v8_4 : Int32).toInt = (1) := congrArg Int32.toInt h_5
      refine hs_ga (j := 19) I (by decide) (by decide) (fun v12_6 ev12_6 (bv12_6 : (-2147483648 : Int) ≤ v12_6.toInt ∧ v12_6.toInt ≤ 2147483647) => ?_)
      refine hs_ga (j := 6) I (by omega) (by omega) (fun v15_7 ev15_7 (bv15_7 : (-2147483648 : Int) ≤ v15_7.toInt ∧ v15_7.toInt ≤ 2147483647) => ?_)
      refine hs_ite (fun h_8 => ?_) (fun h_8 => ?_)
      · have : (v12_6 : Int32).toInt = (v15_7 : Int32).toInt := congrArg Int32.toInt h_8
        refine hs_ga (j := 19) I (by decide) (by decide) (fun v19_9 ev19_9 (bv19_9 : (-2147483648 : Int) ≤ v19_9.toInt ∧ v19_9.toInt ≤ 2147483647) => ?_)
        refine hs_ga (j := 4) I (by omega) (by omega) (fun v22_10 ev22_10 (bv22_10 : (-2147483648 : Int) ≤ v22_10.toInt ∧ v22_10.toInt ≤ 2147483647) => ?_)
        refine hs_ite (fun h_11 => ?_) (fun h_11 => ?_)
        · have : (v19_9 : Int32).toInt = (v22_10 : Int32).toInt := congrArg Int32.toInt h_11
          refine hs_ga (j := 19) I (by decide) (by decide) (fun v26_12 ev26_12 (bv26_12 : (-2147483648 : Int) ≤ v26_12.toInt ∧ v26_12.toInt ≤ 2147483647) => ?_)
          refine hs_ga (j := 5) I (by omega) (by omega) (fun v29_13 ev29_13 (bv29_13 : (-2147483648 : Int) ≤ v29_13.toInt ∧ v29_13.toInt ≤ 2147483647) => ?_)
          refine hs_ite (fun h_14 => ?_) (fun h_14 => ?_)
          · have : (v26_12 : Int32).toInt = (v29_13 : Int32).toInt := congrArg Int32.toInt h_14
            refine hs_ga (j := 19) I (by decide) (by decide) (fun v33_15 ev33_15 (bv33_15 : (-2147483648 : Int) ≤ v33_15.toInt ∧ v33_15.toInt ≤ 2147483647) => ?_)
            refine hs_ga (j := 6) I (by omega) (by omega) (fun v36_16 ev36_16 (bv36_16 : (-2147483648 : Int) ≤ v36_16.toInt ∧ v36_16.toInt ≤ 2147483647) => ?_)
            refine hs_ga (j := 14) I (by omega) (by omega) (fun v39_17 ev39_17 (bv39_17 : (-2147483648 : Int) ≤ v39_17.toInt ∧ v39_17.toInt ≤ 2147483647) => ?_)
            obtain ⟨e_18, he_18⟩ : ∃ e9 : Int32, e9 = (v36_16 * v39_17) := ⟨_, rfl⟩
            try rw [← he_18]
            obtain ⟨e_19, he_19⟩ : ∃ e9 : Int32, e9 = (e_18 + 9) := ⟨_, rfl⟩
            try have : e_19.toInt = (e_18 : Int32).toInt + (9) := by rw [he_19]; exact hs_addk (9) rfl (by omega) (by omega)
            try rw [← he_19]
            obtain ⟨e_20, he_20⟩ : ∃ e9 : Int32, e9 = (e_19 / 10) := ⟨_, rfl⟩
            try have : e_20.toInt = (e_19 : Int32).toInt / (10) := by rw [he_20]; exact hs_div (10) rfl (by omega) (by omega)
            try rw [← he_20]
            refine hs_ite (fun h_21 => ?_) (fun h_21 => ?_)
            · have : (v33_15 : Int32).toInt = (e_20 : Int32).toInt := congrArg Int32.toInt h_21
              exact hs_some (hQ (0 : Int32) )
            · have : ¬ (v33_15 : Int32).toInt = (e_20 : Int32).toInt := fun z => h_21 (Int32.toInt_inj.mp z)
              exact hs_some (hQ (5 : Int32) )
          · have : ¬ (v26_12 : Int32).toInt = (v29_13 : Int32).toInt := fun z => h_14 (Int32.toInt_inj.mp z)
            exact hs_some (hQ (4 : Int32) )
        · have : ¬ (v19_9 : Int32).toInt = (v22_10 : Int32).toInt := fun z => h_11 (Int32.toInt_inj.mp z)
          exact hs_some (hQ (3 : Int32) )
      · have : ¬ (v12_6 : Int32).toInt = (v15_7 : Int32).toInt := fun z => h_8 (Int32.toInt_inj.mp z)
        exact hs_some (hQ (2 : Int32) )
    · have : ¬ (v8_4 : Int32).toInt = (1) := fun z => h_5 (Int32.toInt_inj.mp z)
      exact hs_some (hQ (1 : Int32) )
  · have : ¬ (v5_2 : Int32).toInt = (0) := fun z => h_3 (Int32.toInt_inj.mp z)
    exact hs_some (hQ (1 : Int32) )
theorem s_fX10_fault {R : hy_S → Prop} (ra : ∀ j, j ∈ ([] : List Nat) → ∀ (τ : hy_S) (g : Nat → Int32), R τ → R (hy_sc τ j g)) (ri : ∀ j, j ∈ ([0] : List Nat) → ∀ (τ : hy_S) (v : Int32), R τ → R (hy_si τ j v)) (σ : hy_S) {P : hy_S → Int32 → Prop} (I : hm_I R σ) (hQ : ∀ (σ9 : hy_S) (v9 : Int32), hm_I R σ9 → P σ9 v9) : hs_ok2 (fX10_fault σ ) P := by
  unfold fX10_fault
  show hs_ok _ _
  have : (-2147483648 : Int) ≤ (σ.2 0).toInt ∧ (σ.2 0).toInt ≤ 2147483647 := I.2.1 0
  have : (-2147483648 : Int) ≤ (σ.2 8).toInt ∧ (σ.2 8).toInt ≤ 2147483647 := I.2.1 8
  refine hs_pf (v := 0) I (hs_any _) (fun r => ⟨hm_Ri (by decide) r.1, ri 0 (by decide) _ _ r.2⟩) (fun σ1_1 eσ1_1 Iσ1_1 => ?_)
  have : (σ1_1.2 0).toInt = (0) := by rw [eσ1_1]; rfl
  have : (σ1_1.2 8).toInt = (σ.2 8).toInt := by rw [eσ1_1]; rfl
  have : (-2147483648 : Int) ≤ (σ1_1.2 0).toInt ∧ (σ1_1.2 0).toInt ≤ 2147483647 := Iσ1_1.2.1 0
  have : (-2147483648 : Int) ≤ (σ1_1.2 8).toInt ∧ (σ1_1.2 8).toInt ≤ 2147483647 := Iσ1_1.2.1 8
  exact hs_some (hQ σ1_1 ((σ1_1.2 8) : Int32) Iσ1_1 )
theorem s_fX10_notes {R : hy_S → Prop} (ra : ∀ j, j ∈ ([] : List Nat) → ∀ (τ : hy_S) (g : Nat → Int32), R τ → R (hy_sc τ j g)) (ri : ∀ j, j ∈ ([0] : List Nat) → ∀ (τ : hy_S) (v : Int32), R τ → R (hy_si τ j v)) (σ : hy_S) (x1 : Int32) (x2 : Int32) {P : hy_S → Int32 → Prop} (I : hm_I R σ) (hQ : ∀ (σ9 : hy_S) (v9 : Int32), hm_I R σ9 → P σ9 v9) : hs_ok2 (fX10_notes σ x1 x2) P := by
  unfold fX10_notes
  show hs_ok _ _
  have : (-2147483648 : Int) ≤ (σ.2 0).toInt ∧ (σ.2 0).toInt ≤ 2147483647 := I.2.1 0
  refine hs_pf (v := 0) I (hs_any _) (fun r => ⟨hm_Ri (by decide) r.1, ri 0 (by decide) _ _ r.2⟩) (fun σ1_1 eσ1_1 Iσ1_1 => ?_)
  have : (σ1_1.2 0).toInt = (0) := by rw [eσ1_1]; rfl
  have : (-2147483648 : Int) ≤ (σ1_1.2 0).toInt ∧ (σ1_1.2 0).toInt ≤ 2147483647 := Iσ1_1.2.1 0
  refine hs_bIn (fun (u_2_0 : (0) ≤ (x1 : Int32).toInt) (u_2_1 : (x1 : Int32).toInt ≤ (7)) => ?_) (fun (u_2_0 : (x1 : Int32).toInt < (0) ∨ (7) < (x1 : Int32).toInt) => ?_)
  · skip
    refine hs_ite (fun h_3 => ?_) (fun h_3 => ?_)
    · exact absurd h_3 (by decide)
    · skip
      unfold fX10_notes_21
      refine hs_th0 ?_
      refine hs_ite (fun h_4 => ?_) (fun h_4 => ?_)
      · skip
        refine hs_ite (fun h_5 => ?_) (fun h_5 => ?_)
        · have : (x2 : Int32).toInt = (0) := congrArg Int32.toInt h_5
          refine hs_ga (j := 15) Iσ1_1 (by omega) (by omega) (fun v6_6 ev6_6 (bv6_6 : (-2147483648 : Int) ≤ v6_6.toInt ∧ v6_6.toInt ≤ 2147483647) => ?_)
          exact hs_some (hQ σ1_1 (v6_6 : Int32) Iσ1_1 )
        · have : ¬ (x2 : Int32).toInt = (0) := fun z => h_5 (Int32.toInt_inj.mp z)
          refine hs_ga (j := 16) Iσ1_1 (by omega) (by omega) (fun v9_7 ev9_7 (bv9_7 : (-2147483648 : Int) ≤ v9_7.toInt ∧ v9_7.toInt ≤ 2147483647) => ?_)
          exact hs_some (hQ σ1_1 (v9_7 : Int32) Iσ1_1 )
      · exact absurd (by decide) h_4
  · skip
    refine hs_ite (fun h_8 => ?_) (fun h_8 => ?_)
    · skip
      unfold fX10_notes_21
      refine hs_th1 Iσ1_1 (hs_any _) (fun r => ⟨hm_Ri (by decide) r.1, ri 0 (by decide) _ _ r.2⟩) (fun σ1_9 eσ1_9 Iσ1_9 => ?_)
      have : (σ1_9.2 0).toInt = (1) := by rw [eσ1_9]; rfl
      have : (-2147483648 : Int) ≤ (σ1_9.2 0).toInt ∧ (σ1_9.2 0).toInt ≤ 2147483647 := Iσ1_9.2.1 0
      refine hs_ite (fun h_10 => ?_) (fun h_10 => ?_)
      · exact absurd h_10 (by decide)
      · skip
        exact hs_some (hQ σ1_9 (0 : Int32) Iσ1_9 )
    · exact absurd (by decide) h_8
theorem s_fX10_noStamp {R : hy_S → Prop} (σ : hy_S) (x0 : Int32) {P : hy_S → Int32 → Prop} (I : hm_I R σ) (hQ : ∀ v9 : Int32, 0 ≤ v9.toInt → v9.toInt ≤ 1 → v9.toInt = 1 ∨ (0 ≤ x0.toInt ∧ x0.toInt ≤ 11) → P σ v9) : hs_ok2 (fX10_noStamp σ x0) P := by
  unfold fX10_noStamp
  show hs_ok _ _
  refine hs_bd (s_fX10_in σ x0 (0 : Int32) (11 : Int32) I  (fun v2_1 (gv2_1_0 : (v2_1.toInt = 1 ∧ (0) ≤ (x0 : Int32).toInt ∧ (x0 : Int32).toInt ≤ (11)) ∨ (v2_1.toInt = 0 ∧ ((x0 : Int32).toInt < (0) ∨ (11) < (x0 : Int32).toInt))) => ?_))
  refine hs_ite (fun h_2 => ?_) (fun h_2 => ?_)
  · have : (v2_1 : Int32).toInt = (0) := congrArg Int32.toInt h_2
    exact hs_some (hQ (1 : Int32) (show 0 ≤ (1) by omega) (show (1) ≤ 1 by omega) (show (1) = 1 ∨ (0 ≤ x0.toInt ∧ x0.toInt ≤ 11) by omega))
  · have : ¬ (v2_1 : Int32).toInt = (0) := fun z => h_2 (Int32.toInt_inj.mp z)
    exact hs_some (hQ (0 : Int32) (show 0 ≤ (0) by omega) (show (0) ≤ 1 by omega) (show (0) = 1 ∨ (0 ≤ x0.toInt ∧ x0.toInt ≤ 11) by omega))
theorem s_fX10_noSherd {R : hy_S → Prop} (σ : hy_S) (x1 : Int32) {P : hy_S → Int32 → Prop} (I : hm_I R σ) (hQ : ∀ v9 : Int32, 0 ≤ v9.toInt → v9.toInt ≤ 1 → v9.toInt = 1 ∨ (0 ≤ x1.toInt ∧ x1.toInt < (σ.2 9).toInt) → P σ v9) : hs_ok2 (fX10_noSherd σ x1) P := by
  unfold fX10_noSherd
  show hs_ok _ _
  have : (0 : Int) ≤ (σ.2 9).toInt ∧ (σ.2 9).toInt ≤ 60 := I.2.1 9
  obtain ⟨e_1, he_1⟩ : ∃ e9 : Int32, e9 = ((σ.2 9) - 1) := ⟨_, rfl⟩
  try have : e_1.toInt = ((σ.2 9) : Int32).toInt - (1) := by rw [he_1]; exact hs_subk (1) rfl (by omega) (by omega)
  try rw [← he_1]
  refine hs_bd (s_fX10_in σ x1 (0 : Int32) e_1 I  (fun v2_2 (gv2_2_0 : (v2_2.toInt = 1 ∧ (0) ≤ (x1 : Int32).toInt ∧ (x1 : Int32).toInt ≤ (e_1 : Int32).toInt) ∨ (v2_2.toInt = 0 ∧ ((x1 : Int32).toInt < (0) ∨ (e_1 : Int32).toInt < (x1 : Int32).toInt))) => ?_))
  refine hs_ite (fun h_3 => ?_) (fun h_3 => ?_)
  · have : (v2_2 : Int32).toInt = (0) := congrArg Int32.toInt h_3
    exact hs_some (hQ (1 : Int32) (show 0 ≤ (1) by omega) (show (1) ≤ 1 by omega) (show (1) = 1 ∨ (0 ≤ x1.toInt ∧ x1.toInt < (σ.2 9).toInt) by omega))
  · have : ¬ (v2_2 : Int32).toInt = (0) := fun z => h_3 (Int32.toInt_inj.mp z)
    exact hs_some (hQ (0 : Int32) (show 0 ≤ (0) by omega) (show (0) ≤ 1 by omega) (show (0) = 1 ∨ (0 ≤ x1.toInt ∧ x1.toInt < (σ.2 9).toInt) by omega))
theorem s_fX10_sherd {R : hy_S → Prop} (ra : ∀ j, j ∈ ([20, 21, 22] : List Nat) → ∀ (τ : hy_S) (g : Nat → Int32), R τ → R (hy_sc τ j g)) (ri : ∀ j, j ∈ ([0, 9] : List Nat) → ∀ (τ : hy_S) (v : Int32), R τ → R (hy_si τ j v)) (σ : hy_S) (x1 : Int32) (x2 : Int32) {P : hy_S → Int32 → Prop} (I : hm_I R σ) (hQ : ∀ (σ9 : hy_S) (v9 : Int32), hm_I R σ9 → ((σ9.2 0).toInt = 0 ∧ 0 ≤ x1.toInt ∧ x1.toInt ≤ 15 ∧ (x2.toInt = -1 ∨ (0 ≤ x2.toInt ∧ x2.toInt < 12)) ∧ (σ.2 9).toInt < 60 ∧ (σ9.2 9).toInt = (σ.2 9).toInt + 1) ∨ ((x1.toInt < 0 ∨ 15 < x1.toInt ∨ (¬ x2.toInt = -1 ∧ (x2.toInt < 0 ∨ 12 ≤ x2.toInt)) ∨ 60 ≤ (σ.2 9).toInt) ∧ (σ9.2 9).toInt = (σ.2 9).toInt) → P σ9 v9) : hs_ok2 (fX10_sherd σ x1 x2) P := by
  unfold fX10_sherd
  show hs_ok _ _
  have : (-2147483648 : Int) ≤ (σ.2 0).toInt ∧ (σ.2 0).toInt ≤ 2147483647 := I.2.1 0
  have : (0 : Int) ≤ (σ.2 9).toInt ∧ (σ.2 9).toInt ≤ 60 := I.2.1 9
  refine hs_pf (v := 0) I (hs_any _) (fun r => ⟨hm_Ri (by decide) r.1, ri 0 (by decide) _ _ r.2⟩) (fun σ1_1 eσ1_1 Iσ1_1 => ?_)
  have : (σ1_1.2 0).toInt = (0) := by rw [eσ1_1]; rfl
  have : (σ1_1.2 9).toInt = (σ.2 9).toInt := by rw [eσ1_1]; rfl
  have : (-2147483648 : Int) ≤ (σ1_1.2 0).toInt ∧ (σ1_1.2 0).toInt ≤ 2147483647 := Iσ1_1.2.1 0
  have : (0 : Int) ≤ (σ1_1.2 9).toInt ∧ (σ1_1.2 9).toInt ≤ 60 := Iσ1_1.2.1 9
  refine hs_ite (fun h_2 => ?_) (fun h_2 => ?_)
  · have : (x2 : Int32).toInt = (-1) := congrArg Int32.toInt h_2
    unfold fX10_sherd_22
    unfold fX10_sherd_23
    refine hs_th0 ?_
    refine hs_ite (fun h_3 => ?_) (fun h_3 => ?_)
    · skip
      refine hs_bIn (fun (u_4_0 : (0) ≤ (x1 : Int32).toInt) (u_4_1 : (x1 : Int32).toInt ≤ (15)) => ?_) (fun (u_4_0 : (x1 : Int32).toInt < (0) ∨ (15) < (x1 : Int32).toInt) => ?_)
      · skip
        refine hs_ite (fun h_5 => ?_) (fun h_5 => ?_)
        · exact absurd h_5 (by decide)
        · skip
          unfold fX10_sherd_46
          refine hs_th0 ?_
          refine hs_ite (fun h_6 => ?_) (fun h_6 => ?_)
          · skip
            refine hs_ite (fun h_7 => ?_) (fun h_7 => ?_)
            · have : ((σ1_1.2 9) : Int32).toInt = (60) := congrArg Int32.toInt h_7
              unfold fX10_sherd_68
              refine hs_th1 Iσ1_1 (hs_any _) (fun r => ⟨hm_Ri (by decide) r.1, ri 0 (by decide) _ _ r.2⟩) (fun σ1_8 eσ1_8 Iσ1_8 => ?_)
              have : (σ1_8.2 0).toInt = (3) := by rw [eσ1_8]; rfl
              have : (σ1_8.2 9).toInt = (σ1_1.2 9).toInt := by rw [eσ1_8]; rfl
              have : (-2147483648 : Int) ≤ (σ1_8.2 0).toInt ∧ (σ1_8.2 0).toInt ≤ 2147483647 := Iσ1_8.2.1 0
              have : (0 : Int) ≤ (σ1_8.2 9).toInt ∧ (σ1_8.2 9).toInt ≤ 60 := Iσ1_8.2.1 9
              refine hs_ite (fun h_9 => ?_) (fun h_9 => ?_)
              · exact absurd h_9 (by decide)
              · skip
                exact hs_some (hQ σ1_8 (0 : Int32) Iσ1_8 (show ((σ1_8.2 0).toInt = 0 ∧ 0 ≤ x1.toInt ∧ x1.toInt ≤ 15 ∧ (x2.toInt = -1 ∨ (0 ≤ x2.toInt ∧ x2.toInt < 12)) ∧ (σ.2 9).toInt < 60 ∧ (σ1_8.2 9).toInt = (σ.2 9).toInt + 1) ∨ ((x1.toInt < 0 ∨ 15 < x1.toInt ∨ (¬ x2.toInt = -1 ∧ (x2.toInt < 0 ∨ 12 ≤ x2.toInt)) ∨ 60 ≤ (σ.2 9).toInt) ∧ (σ1_8.2 9).toInt = (σ.2 9).toInt) by omega))
            · have : ¬ ((σ1_1.2 9) : Int32).toInt = (60) := fun z => h_7 (Int32.toInt_inj.mp z)
              unfold fX10_sherd_68
              refine hs_th0 ?_
              refine hs_ite (fun h_10 => ?_) (fun h_10 => ?_)
              · skip
                refine hs_pa (idx := (σ1_1.2 9)) (v := _) Iσ1_1 (by omega) (by omega) (hs_any _) (fun r => ⟨hm_Ra (by decide) r.1, ra 20 (by decide) _ _ r.2⟩) (fun σ5_11 eσ5_11 Iσ5_11 => ?_)
                have : (σ5_11.2 0).toInt = (σ1_1.2 0).toInt := by rw [eσ5_11]; rfl
                have : (σ5_11.2 9).toInt = (σ1_1.2 9).toInt := by rw [eσ5_11]; rfl
                have : (-2147483648 : Int) ≤ (σ5_11.2 0).toInt ∧ (σ5_11.2 0).toInt ≤ 2147483647 := Iσ5_11.2.1 0
                have : (0 : Int) ≤ (σ5_11.2 9).toInt ∧ (σ5_11.2 9).toInt ≤ 60 := Iσ5_11.2.1 9
                refine hs_pa (idx := (σ5_11.2 9)) (v := _) Iσ5_11 (by omega) (by omega) (hs_any _) (fun r => ⟨hm_Ra (by decide) r.1, ra 21 (by decide) _ _ r.2⟩) (fun σ8_12 eσ8_12 Iσ8_12 => ?_)
                have : (σ8_12.2 0).toInt = (σ5_11.2 0).toInt := by rw [eσ8_12]; rfl
                have : (σ8_12.2 9).toInt = (σ5_11.2 9).toInt := by rw [eσ8_12]; rfl
                have : (-2147483648 : Int) ≤ (σ8_12.2 0).toInt ∧ (σ8_12.2 0).toInt ≤ 2147483647 := Iσ8_12.2.1 0
                have : (0 : Int) ≤ (σ8_12.2 9).toInt ∧ (σ8_12.2 9).toInt ≤ 60 := Iσ8_12.2.1 9
                refine hs_pa (idx := (σ8_12.2 9)) (v := (σ8_12.2 9)) Iσ8_12 (by omega) (by omega) ⟨(by omega : (0 : Int) ≤ ((σ8_12.2 9) : Int32).toInt), (by omega : ((σ8_12.2 9) : Int32).toInt ≤ 59)⟩ (fun r => ⟨hm_Ra (by decide) r.1, ra 22 (by decide) _ _ r.2⟩) (fun σ11_13 eσ11_13 Iσ11_13 => ?_)
                have : (σ11_13.2 0).toInt = (σ8_12.2 0).toInt := by rw [eσ11_13]; rfl
                have : (σ11_13.2 9).toInt = (σ8_12.2 9).toInt := by rw [eσ11_13]; rfl
                have : (-2147483648 : Int) ≤ (σ11_13.2 0).toInt ∧ (σ11_13.2 0).toInt ≤ 2147483647 := Iσ11_13.2.1 0
                have : (0 : Int) ≤ (σ11_13.2 9).toInt ∧ (σ11_13.2 9).toInt ≤ 60 := Iσ11_13.2.1 9
                obtain ⟨e_14, he_14⟩ : ∃ e9 : Int32, e9 = ((σ11_13.2 9) + 1) := ⟨_, rfl⟩
                try have : e_14.toInt = ((σ11_13.2 9) : Int32).toInt + (1) := by rw [he_14]; exact hs_addk (1) rfl (by omega) (by omega)
                try rw [← he_14]
                refine hs_pf (v := e_14) Iσ11_13 ⟨(by omega : (0 : Int) ≤ (e_14 : Int32).toInt), (by omega : (e_14 : Int32).toInt ≤ 60)⟩ (fun r => ⟨hm_Ri (by decide) r.1, ri 9 (by decide) _ _ r.2⟩) (fun σ14_15 eσ14_15 Iσ14_15 => ?_)
                have : (σ14_15.2 0).toInt = (σ11_13.2 0).toInt := by rw [eσ14_15]; rfl
                have : (σ14_15.2 9).toInt = (e_14 : Int32).toInt := by rw [eσ14_15]; rfl
                have : (-2147483648 : Int) ≤ (σ14_15.2 0).toInt ∧ (σ14_15.2 0).toInt ≤ 2147483647 := Iσ14_15.2.1 0
                have : (0 : Int) ≤ (σ14_15.2 9).toInt ∧ (σ14_15.2 9).toInt ≤ 60 := Iσ14_15.2.1 9
                obtain ⟨e_16, he_16⟩ : ∃ e9 : Int32, e9 = ((σ14_15.2 9) - 1) := ⟨_, rfl⟩
                try have : e_16.toInt = ((σ14_15.2 9) : Int32).toInt - (1) := by rw [he_16]; exact hs_subk (1) rfl (by omega) (by omega)
                try rw [← he_16]
                exact hs_some (hQ σ14_15 (e_16 : Int32) Iσ14_15 (show ((σ14_15.2 0).toInt = 0 ∧ 0 ≤ x1.toInt ∧ x1.toInt ≤ 15 ∧ (x2.toInt = -1 ∨ (0 ≤ x2.toInt ∧ x2.toInt < 12)) ∧ (σ.2 9).toInt < 60 ∧ (σ14_15.2 9).toInt = (σ.2 9).toInt + 1) ∨ ((x1.toInt < 0 ∨ 15 < x1.toInt ∨ (¬ x2.toInt = -1 ∧ (x2.toInt < 0 ∨ 12 ≤ x2.toInt)) ∨ 60 ≤ (σ.2 9).toInt) ∧ (σ14_15.2 9).toInt = (σ.2 9).toInt) by omega))
              · exact absurd (by decide) h_10
          · exact absurd (by decide) h_6
      · skip
        refine hs_ite (fun h_17 => ?_) (fun h_17 => ?_)
        · skip
          unfold fX10_sherd_46
          refine hs_th1 Iσ1_1 (hs_any _) (fun r => ⟨hm_Ri (by decide) r.1, ri 0 (by decide) _ _ r.2⟩) (fun σ1_18 eσ1_18 Iσ1_18 => ?_)
          have : (σ1_18.2 0).toInt = (2) := by rw [eσ1_18]; rfl
          have : (σ1_18.2 9).toInt = (σ1_1.2 9).toInt := by rw [eσ1_18]; rfl
          have : (-2147483648 : Int) ≤ (σ1_18.2 0).toInt ∧ (σ1_18.2 0).toInt ≤ 2147483647 := Iσ1_18.2.1 0
          have : (0 : Int) ≤ (σ1_18.2 9).toInt ∧ (σ1_18.2 9).toInt ≤ 60 := Iσ1_18.2.1 9
          refine hs_ite (fun h_19 => ?_) (fun h_19 => ?_)
          · exact absurd h_19 (by decide)
          · skip
            exact hs_some (hQ σ1_18 (0 : Int32) Iσ1_18 (show ((σ1_18.2 0).toInt = 0 ∧ 0 ≤ x1.toInt ∧ x1.toInt ≤ 15 ∧ (x2.toInt = -1 ∨ (0 ≤ x2.toInt ∧ x2.toInt < 12)) ∧ (σ.2 9).toInt < 60 ∧ (σ1_18.2 9).toInt = (σ.2 9).toInt + 1) ∨ ((x1.toInt < 0 ∨ 15 < x1.toInt ∨ (¬ x2.toInt = -1 ∧ (x2.toInt < 0 ∨ 12 ≤ x2.toInt)) ∨ 60 ≤ (σ.2 9).toInt) ∧ (σ1_18.2 9).toInt = (σ.2 9).toInt) by omega))
        · exact absurd (by decide) h_17
    · exact absurd (by decide) h_3
  · have : ¬ (x2 : Int32).toInt = (-1) := fun z => h_2 (Int32.toInt_inj.mp z)
    refine hs_noT (fun (u_20_0 : (0 : Int) ≤ (x2 : Int32).toInt) (u_20_1 : (x2 : Int32).toInt < 12) => ?_) (fun (u_20_0 : (x2 : Int32).toInt < 0 ∨ 12 ≤ (x2 : Int32).toInt) => ?_)
    · skip
      refine hs_ite (fun h_21 => ?_) (fun h_21 => ?_)
      · skip
        unfold fX10_sherd_22
        unfold fX10_sherd_23
        refine hs_th0 ?_
        refine hs_ite (fun h_22 => ?_) (fun h_22 => ?_)
        · skip
          refine hs_bIn (fun (u_23_0 : (0) ≤ (x1 : Int32).toInt) (u_23_1 : (x1 : Int32).toInt ≤ (15)) => ?_) (fun (u_23_0 : (x1 : Int32).toInt < (0) ∨ (15) < (x1 : Int32).toInt) => ?_)
          · skip
            refine hs_ite (fun h_24 => ?_) (fun h_24 => ?_)
            · exact absurd h_24 (by decide)
            · skip
              unfold fX10_sherd_46
              refine hs_th0 ?_
              refine hs_ite (fun h_25 => ?_) (fun h_25 => ?_)
              · skip
                refine hs_ite (fun h_26 => ?_) (fun h_26 => ?_)
                · have : ((σ1_1.2 9) : Int32).toInt = (60) := congrArg Int32.toInt h_26
                  unfold fX10_sherd_68
                  refine hs_th1 Iσ1_1 (hs_any _) (fun r => ⟨hm_Ri (by decide) r.1, ri 0 (by decide) _ _ r.2⟩) (fun σ1_27 eσ1_27 Iσ1_27 => ?_)
                  have : (σ1_27.2 0).toInt = (3) := by rw [eσ1_27]; rfl
                  have : (σ1_27.2 9).toInt = (σ1_1.2 9).toInt := by rw [eσ1_27]; rfl
                  have : (-2147483648 : Int) ≤ (σ1_27.2 0).toInt ∧ (σ1_27.2 0).toInt ≤ 2147483647 := Iσ1_27.2.1 0
                  have : (0 : Int) ≤ (σ1_27.2 9).toInt ∧ (σ1_27.2 9).toInt ≤ 60 := Iσ1_27.2.1 9
                  refine hs_ite (fun h_28 => ?_) (fun h_28 => ?_)
                  · exact absurd h_28 (by decide)
                  · skip
                    exact hs_some (hQ σ1_27 (0 : Int32) Iσ1_27 (show ((σ1_27.2 0).toInt = 0 ∧ 0 ≤ x1.toInt ∧ x1.toInt ≤ 15 ∧ (x2.toInt = -1 ∨ (0 ≤ x2.toInt ∧ x2.toInt < 12)) ∧ (σ.2 9).toInt < 60 ∧ (σ1_27.2 9).toInt = (σ.2 9).toInt + 1) ∨ ((x1.toInt < 0 ∨ 15 < x1.toInt ∨ (¬ x2.toInt = -1 ∧ (x2.toInt < 0 ∨ 12 ≤ x2.toInt)) ∨ 60 ≤ (σ.2 9).toInt) ∧ (σ1_27.2 9).toInt = (σ.2 9).toInt) by omega))
                · have : ¬ ((σ1_1.2 9) : Int32).toInt = (60) := fun z => h_26 (Int32.toInt_inj.mp z)
                  unfold fX10_sherd_68
                  refine hs_th0 ?_
                  refine hs_ite (fun h_29 => ?_) (fun h_29 => ?_)
                  · skip
                    refine hs_pa (idx := (σ1_1.2 9)) (v := _) Iσ1_1 (by omega) (by omega) (hs_any _) (fun r => ⟨hm_Ra (by decide) r.1, ra 20 (by decide) _ _ r.2⟩) (fun σ5_30 eσ5_30 Iσ5_30 => ?_)
                    have : (σ5_30.2 0).toInt = (σ1_1.2 0).toInt := by rw [eσ5_30]; rfl
                    have : (σ5_30.2 9).toInt = (σ1_1.2 9).toInt := by rw [eσ5_30]; rfl
                    have : (-2147483648 : Int) ≤ (σ5_30.2 0).toInt ∧ (σ5_30.2 0).toInt ≤ 2147483647 := Iσ5_30.2.1 0
                    have : (0 : Int) ≤ (σ5_30.2 9).toInt ∧ (σ5_30.2 9).toInt ≤ 60 := Iσ5_30.2.1 9
                    refine hs_pa (idx := (σ5_30.2 9)) (v := _) Iσ5_30 (by omega) (by omega) (hs_any _) (fun r => ⟨hm_Ra (by decide) r.1, ra 21 (by decide) _ _ r.2⟩) (fun σ8_31 eσ8_31 Iσ8_31 => ?_)
                    have : (σ8_31.2 0).toInt = (σ5_30.2 0).toInt := by rw [eσ8_31]; rfl
                    have : (σ8_31.2 9).toInt = (σ5_30.2 9).toInt := by rw [eσ8_31]; rfl
                    have : (-2147483648 : Int) ≤ (σ8_31.2 0).toInt ∧ (σ8_31.2 0).toInt ≤ 2147483647 := Iσ8_31.2.1 0
                    have : (0 : Int) ≤ (σ8_31.2 9).toInt ∧ (σ8_31.2 9).toInt ≤ 60 := Iσ8_31.2.1 9
                    refine hs_pa (idx := (σ8_31.2 9)) (v := (σ8_31.2 9)) Iσ8_31 (by omega) (by omega) ⟨(by omega : (0 : Int) ≤ ((σ8_31.2 9) : Int32).toInt), (by omega : ((σ8_31.2 9) : Int32).toInt ≤ 59)⟩ (fun r => ⟨hm_Ra (by decide) r.1, ra 22 (by decide) _ _ r.2⟩) (fun σ11_32 eσ11_32 Iσ11_32 => ?_)
                    have : (σ11_32.2 0).toInt = (σ8_31.2 0).toInt := by rw [eσ11_32]; rfl
                    have : (σ11_32.2 9).toInt = (σ8_31.2 9).toInt := by rw [eσ11_32]; rfl
                    have : (-2147483648 : Int) ≤ (σ11_32.2 0).toInt ∧ (σ11_32.2 0).toInt ≤ 2147483647 := Iσ11_32.2.1 0
                    have : (0 : Int) ≤ (σ11_32.2 9).toInt ∧ (σ11_32.2 9).toInt ≤ 60 := Iσ11_32.2.1 9
                    obtain ⟨e_33, he_33⟩ : ∃ e9 : Int32, e9 = ((σ11_32.2 9) + 1) := ⟨_, rfl⟩
                    try have : e_33.toInt = ((σ11_32.2 9) : Int32).toInt + (1) := by rw [he_33]; exact hs_addk (1) rfl (by omega) (by omega)
                    try rw [← he_33]
                    refine hs_pf (v := e_33) Iσ11_32 ⟨(by omega : (0 : Int) ≤ (e_33 : Int32).toInt), (by omega : (e_33 : Int32).toInt ≤ 60)⟩ (fun r => ⟨hm_Ri (by decide) r.1, ri 9 (by decide) _ _ r.2⟩) (fun σ14_34 eσ14_34 Iσ14_34 => ?_)
                    have : (σ14_34.2 0).toInt = (σ11_32.2 0).toInt := by rw [eσ14_34]; rfl
                    have : (σ14_34.2 9).toInt = (e_33 : Int32).toInt := by rw [eσ14_34]; rfl
                    have : (-2147483648 : Int) ≤ (σ14_34.2 0).toInt ∧ (σ14_34.2 0).toInt ≤ 2147483647 := Iσ14_34.2.1 0
                    have : (0 : Int) ≤ (σ14_34.2 9).toInt ∧ (σ14_34.2 9).toInt ≤ 60 := Iσ14_34.2.1 9
                    obtain ⟨e_35, he_35⟩ : ∃ e9 : Int32, e9 = ((σ14_34.2 9) - 1) := ⟨_, rfl⟩
                    try have : e_35.toInt = ((σ14_34.2 9) : Int32).toInt - (1) := by rw [he_35]; exact hs_subk (1) rfl (by omega) (by omega)
                    try rw [← he_35]
                    exact hs_some (hQ σ14_34 (e_35 : Int32) Iσ14_34 (show ((σ14_34.2 0).toInt = 0 ∧ 0 ≤ x1.toInt ∧ x1.toInt ≤ 15 ∧ (x2.toInt = -1 ∨ (0 ≤ x2.toInt ∧ x2.toInt < 12)) ∧ (σ.2 9).toInt < 60 ∧ (σ14_34.2 9).toInt = (σ.2 9).toInt + 1) ∨ ((x1.toInt < 0 ∨ 15 < x1.toInt ∨ (¬ x2.toInt = -1 ∧ (x2.toInt < 0 ∨ 12 ≤ x2.toInt)) ∨ 60 ≤ (σ.2 9).toInt) ∧ (σ14_34.2 9).toInt = (σ.2 9).toInt) by omega))
                  · exact absurd (by decide) h_29
              · exact absurd (by decide) h_25
          · skip
            refine hs_ite (fun h_36 => ?_) (fun h_36 => ?_)
            · skip
              unfold fX10_sherd_46
              refine hs_th1 Iσ1_1 (hs_any _) (fun r => ⟨hm_Ri (by decide) r.1, ri 0 (by decide) _ _ r.2⟩) (fun σ1_37 eσ1_37 Iσ1_37 => ?_)
              have : (σ1_37.2 0).toInt = (2) := by rw [eσ1_37]; rfl
              have : (σ1_37.2 9).toInt = (σ1_1.2 9).toInt := by rw [eσ1_37]; rfl
              have : (-2147483648 : Int) ≤ (σ1_37.2 0).toInt ∧ (σ1_37.2 0).toInt ≤ 2147483647 := Iσ1_37.2.1 0
              have : (0 : Int) ≤ (σ1_37.2 9).toInt ∧ (σ1_37.2 9).toInt ≤ 60 := Iσ1_37.2.1 9
              refine hs_ite (fun h_38 => ?_) (fun h_38 => ?_)
              · exact absurd h_38 (by decide)
              · skip
                exact hs_some (hQ σ1_37 (0 : Int32) Iσ1_37 (show ((σ1_37.2 0).toInt = 0 ∧ 0 ≤ x1.toInt ∧ x1.toInt ≤ 15 ∧ (x2.toInt = -1 ∨ (0 ≤ x2.toInt ∧ x2.toInt < 12)) ∧ (σ.2 9).toInt < 60 ∧ (σ1_37.2 9).toInt = (σ.2 9).toInt + 1) ∨ ((x1.toInt < 0 ∨ 15 < x1.toInt ∨ (¬ x2.toInt = -1 ∧ (x2.toInt < 0 ∨ 12 ≤ x2.toInt)) ∨ 60 ≤ (σ.2 9).toInt) ∧ (σ1_37.2 9).toInt = (σ.2 9).toInt) by omega))
            · exact absurd (by decide) h_36
        · exact absurd (by decide) h_22
      · exact absurd (by decide) h_21
    · skip
      refine hs_ite (fun h_39 => ?_) (fun h_39 => ?_)
      · exact absurd h_39 (by decide)
      · skip
        unfold fX10_sherd_23
        refine hs_th1 Iσ1_1 (hs_any _) (fun r => ⟨hm_Ri (by decide) r.1, ri 0 (by decide) _ _ r.2⟩) (fun σ1_40 eσ1_40 Iσ1_40 => ?_)
        have : (σ1_40.2 0).toInt = (1) := by rw [eσ1_40]; rfl
        have : (σ1_40.2 9).toInt = (σ1_1.2 9).toInt := by rw [eσ1_40]; rfl
        have : (-2147483648 : Int) ≤ (σ1_40.2 0).toInt ∧ (σ1_40.2 0).toInt ≤ 2147483647 := Iσ1_40.2.1 0
        have : (0 : Int) ≤ (σ1_40.2 9).toInt ∧ (σ1_40.2 9).toInt ≤ 60 := Iσ1_40.2.1 9
        refine hs_ite (fun h_41 => ?_) (fun h_41 => ?_)
        · exact absurd h_41 (by decide)
        · skip
          exact hs_some (hQ σ1_40 (0 : Int32) Iσ1_40 (show ((σ1_40.2 0).toInt = 0 ∧ 0 ≤ x1.toInt ∧ x1.toInt ≤ 15 ∧ (x2.toInt = -1 ∨ (0 ≤ x2.toInt ∧ x2.toInt < 12)) ∧ (σ.2 9).toInt < 60 ∧ (σ1_40.2 9).toInt = (σ.2 9).toInt + 1) ∨ ((x1.toInt < 0 ∨ 15 < x1.toInt ∨ (¬ x2.toInt = -1 ∧ (x2.toInt < 0 ∨ 12 ≤ x2.toInt)) ∨ 60 ≤ (σ.2 9).toInt) ∧ (σ1_40.2 9).toInt = (σ.2 9).toInt) by omega))
theorem s_fX10_stampOf_4 {R : hy_S → Prop} {Q : hy_S × Int32 → Prop} : ∀ (n : Nat) (σ : hy_S) (x1 : Int32) (x2 : Int32) (x3 : Int32), hm_I R σ → 0 ≤ x3.toInt → x3.toInt ≤ 60 → 60 - x3.toInt < (n : Int) → (∀ v9 : Int32, Q (σ, v9)) → hs_ok (fX10_stampOf_4 n σ x1 x2 x3) Q := by
  intro n
  induction n with
  | zero =>
    intro σ x1 x2 x3 I p0 p1  hm hQ
    have : (0 : Int) ≤ (σ.2 9).toInt ∧ (σ.2 9).toInt ≤ 60 := I.2.1 9
    exact absurd hm (by omega)
  | succ n ih =>
    intro σ x1 x2 x3 I p0 p1  hm hQ
    unfold fX10_stampOf_4
    have : (0 : Int) ≤ (σ.2 9).toInt ∧ (σ.2 9).toInt ≤ 60 := I.2.1 9
    refine hs_ite (fun h_1 => ?_) (fun h_1 => ?_)
    · have : ((σ.2 9) : Int32).toInt ≤ (x3 : Int32).toInt := Int32.le_iff_toInt_le.mp h_1
      exact hs_some (hQ (x2 : Int32) )
    · have : ¬ ((σ.2 9) : Int32).toInt ≤ (x3 : Int32).toInt := fun z => h_1 (Int32.le_iff_toInt_le.mpr z)
      refine hs_ga (j := 22) I (by omega) (by omega) (fun v2_2 ev2_2 (bv2_2 : (0 : Int) ≤ v2_2.toInt ∧ v2_2.toInt ≤ 59) => ?_)
      refine hs_ite (fun h_3 => ?_) (fun h_3 => ?_)
      · have : (v2_2 : Int32).toInt = (x1 : Int32).toInt := congrArg Int32.toInt h_3
        refine hs_ga (j := 21) I (by omega) (by omega) (fun v6_4 ev6_4 (bv6_4 : (-2147483648 : Int) ≤ v6_4.toInt ∧ v6_4.toInt ≤ 2147483647) => ?_)
        refine hs_ite (fun h_5 => ?_) (fun h_5 => ?_)
        · have : (v6_4 : Int32).toInt < (0) := Int32.lt_iff_toInt_lt.mp h_5
          unfold fX10_stampOf_38
          obtain ⟨e_6, he_6⟩ : ∃ e9 : Int32, e9 = (x3 + 1) := ⟨_, rfl⟩
          try have : e_6.toInt = (x3 : Int32).toInt + (1) := by rw [he_6]; exact hs_addk (1) rfl (by omega) (by omega)
          try rw [← he_6]
          exact ih σ (x1 : Int32) (x2 : Int32) (e_6 : Int32) I (show 0 ≤ (e_6 : Int32).toInt by omega) (show (e_6 : Int32).toInt ≤ 60 by omega)  (by omega) hQ
        · have : ¬ (v6_4 : Int32).toInt < (0) := fun z => h_5 (Int32.lt_iff_toInt_lt.mpr z)
          refine hs_ga (j := 21) I (by omega) (by omega) (fun v10_7 ev10_7 (bv10_7 : (-2147483648 : Int) ≤ v10_7.toInt ∧ v10_7.toInt ≤ 2147483647) => ?_)
          unfold fX10_stampOf_38
          obtain ⟨e_8, he_8⟩ : ∃ e9 : Int32, e9 = (x3 + 1) := ⟨_, rfl⟩
          try have : e_8.toInt = (x3 : Int32).toInt + (1) := by rw [he_8]; exact hs_addk (1) rfl (by omega) (by omega)
          try rw [← he_8]
          exact ih σ (x1 : Int32) (v10_7 : Int32) (e_8 : Int32) I (show 0 ≤ (e_8 : Int32).toInt by omega) (show (e_8 : Int32).toInt ≤ 60 by omega)  (by omega) hQ
      · have : ¬ (v2_2 : Int32).toInt = (x1 : Int32).toInt := fun z => h_3 (Int32.toInt_inj.mp z)
        unfold fX10_stampOf_38
        obtain ⟨e_9, he_9⟩ : ∃ e9 : Int32, e9 = (x3 + 1) := ⟨_, rfl⟩
        try have : e_9.toInt = (x3 : Int32).toInt + (1) := by rw [he_9]; exact hs_addk (1) rfl (by omega) (by omega)
        try rw [← he_9]
        exact ih σ (x1 : Int32) (x2 : Int32) (e_9 : Int32) I (show 0 ≤ (e_9 : Int32).toInt by omega) (show (e_9 : Int32).toInt ≤ 60 by omega)  (by omega) hQ
theorem s_fX10_stampOf {R : hy_S → Prop} (σ : hy_S) (x1 : Int32) {P : hy_S → Int32 → Prop} (I : hm_I R σ) (hQ : ∀ v9 : Int32, P σ v9) : hs_ok2 (fX10_stampOf σ x1) P := by
  unfold fX10_stampOf
  show hs_ok _ _
  have hfu : ((hy_fu : Nat) : Int) = 5000 := rfl
  refine s_fX10_stampOf_4   hy_fu σ (x1 : Int32) ((-1) : Int32) (0 : Int32) I (show 0 ≤ (0) by omega) (show (0) ≤ 60 by omega)  (show 60 - (0) < ((hy_fu : Nat) : Int) by rw [hfu]; omega) (fun v_1  => ?_)
  exact (hQ (v_1 : Int32) )
theorem s_fX10_join_127 {R : hy_S → Prop} (ra : ∀ j, j ∈ ([22] : List Nat) → ∀ (τ : hy_S) (g : Nat → Int32), R τ → R (hy_sc τ j g)) (ri : ∀ j, j ∈ ([] : List Nat) → ∀ (τ : hy_S) (v : Int32), R τ → R (hy_si τ j v)) {Q : hy_S × Int32 → Prop} (hQ : ∀ (σ9 : hy_S) (v9 : Int32), hm_I R σ9 → Q (σ9, v9)) : ∀ (n : Nat) (σ : hy_S) (x3 : Int32) (x4 : Int32) (x7 : Int32), hm_I R σ → 0 ≤ x3.toInt → x3.toInt < 60 → 0 ≤ x7.toInt → x7.toInt ≤ 60 → 60 - x7.toInt < (n : Int) → hs_ok (fX10_join_127 n σ x3 x4 x7) Q := by
  intro n
  induction n with
  | zero =>
    intro σ x3 x4 x7 I p0 p1 p2 p3  hm
    have : (0 : Int) ≤ (σ.2 9).toInt ∧ (σ.2 9).toInt ≤ 60 := I.2.1 9
    exact absurd hm (by omega)
  | succ n ih =>
    intro σ x3 x4 x7 I p0 p1 p2 p3  hm
    unfold fX10_join_127
    have : (0 : Int) ≤ (σ.2 9).toInt ∧ (σ.2 9).toInt ≤ 60 := I.2.1 9
    refine hs_ite (fun h_1 => ?_) (fun h_1 => ?_)
    · have : ((σ.2 9) : Int32).toInt ≤ (x7 : Int32).toInt := Int32.le_iff_toInt_le.mp h_1
      exact hs_some (hQ σ (1 : Int32) I )
    · have : ¬ ((σ.2 9) : Int32).toInt ≤ (x7 : Int32).toInt := fun z => h_1 (Int32.le_iff_toInt_le.mpr z)
      refine hs_ga (j := 22) I (by omega) (by omega) (fun v2_2 ev2_2 (bv2_2 : (0 : Int) ≤ v2_2.toInt ∧ v2_2.toInt ≤ 59) => ?_)
      refine hs_ite (fun h_3 => ?_) (fun h_3 => ?_)
      · have : (v2_2 : Int32).toInt = (x4 : Int32).toInt := congrArg Int32.toInt h_3
        refine hs_pa (idx := x7) (v := x3) I (by omega) (by omega) ⟨(by omega : (0 : Int) ≤ (x3 : Int32).toInt), (by omega : (x3 : Int32).toInt ≤ 59)⟩ (fun r => ⟨hm_Ra (by decide) r.1, ra 22 (by decide) _ _ r.2⟩) (fun σ6_4 eσ6_4 Iσ6_4 => ?_)
        have : (σ6_4.2 9).toInt = (σ.2 9).toInt := by rw [eσ6_4]; rfl
        have : (0 : Int) ≤ (σ6_4.2 9).toInt ∧ (σ6_4.2 9).toInt ≤ 60 := Iσ6_4.2.1 9
        unfold fX10_join_156
        obtain ⟨e_5, he_5⟩ : ∃ e9 : Int32, e9 = (x7 + 1) := ⟨_, rfl⟩
        try have : e_5.toInt = (x7 : Int32).toInt + (1) := by rw [he_5]; exact hs_addk (1) rfl (by omega) (by omega)
        try rw [← he_5]
        exact ih σ6_4 (x3 : Int32) (x4 : Int32) (e_5 : Int32) Iσ6_4 (show 0 ≤ (x3 : Int32).toInt by omega) (show (x3 : Int32).toInt < 60 by omega) (show 0 ≤ (e_5 : Int32).toInt by omega) (show (e_5 : Int32).toInt ≤ 60 by omega)  (by omega)
      · have : ¬ (v2_2 : Int32).toInt = (x4 : Int32).toInt := fun z => h_3 (Int32.toInt_inj.mp z)
        unfold fX10_join_156
        obtain ⟨e_6, he_6⟩ : ∃ e9 : Int32, e9 = (x7 + 1) := ⟨_, rfl⟩
        try have : e_6.toInt = (x7 : Int32).toInt + (1) := by rw [he_6]; exact hs_addk (1) rfl (by omega) (by omega)
        try rw [← he_6]
        exact ih σ (x3 : Int32) (x4 : Int32) (e_6 : Int32) I (show 0 ≤ (x3 : Int32).toInt by omega) (show (x3 : Int32).toInt < 60 by omega) (show 0 ≤ (e_6 : Int32).toInt by omega) (show (e_6 : Int32).toInt ≤ 60 by omega)  (by omega)
theorem s_fX10_join {R : hy_S → Prop} (ra : ∀ j, j ∈ ([22] : List Nat) → ∀ (τ : hy_S) (g : Nat → Int32), R τ → R (hy_sc τ j g)) (ri : ∀ j, j ∈ ([0] : List Nat) → ∀ (τ : hy_S) (v : Int32), R τ → R (hy_si τ j v)) (σ : hy_S) (x1 : Int32) (x2 : Int32) {P : hy_S → Int32 → Prop} (I : hm_I R σ) (hQ : ∀ (σ9 : hy_S) (v9 : Int32), hm_I R σ9 → P σ9 v9) : hs_ok2 (fX10_join σ x1 x2) P := by
  unfold fX10_join
  show hs_ok _ _
  have : (-2147483648 : Int) ≤ (σ.2 0).toInt ∧ (σ.2 0).toInt ≤ 2147483647 := I.2.1 0
  have : (0 : Int) ≤ (σ.2 9).toInt ∧ (σ.2 9).toInt ≤ 60 := I.2.1 9
  refine hs_pf (v := 0) I (hs_any _) (fun r => ⟨hm_Ri (by decide) r.1, ri 0 (by decide) _ _ r.2⟩) (fun σ1_1 eσ1_1 Iσ1_1 => ?_)
  have : (σ1_1.2 0).toInt = (0) := by rw [eσ1_1]; rfl
  have : (σ1_1.2 9).toInt = (σ.2 9).toInt := by rw [eσ1_1]; rfl
  have : (-2147483648 : Int) ≤ (σ1_1.2 0).toInt ∧ (σ1_1.2 0).toInt ≤ 2147483647 := Iσ1_1.2.1 0
  have : (0 : Int) ≤ (σ1_1.2 9).toInt ∧ (σ1_1.2 9).toInt ≤ 60 := Iσ1_1.2.1 9
  refine hs_noS (by omega) (fun (u_2_0 : (0 : Int) ≤ (x1 : Int32).toInt) (u_2_1 : (x1 : Int32).toInt < (σ1_1.2 9).toInt) => ?_) (fun (u_2_0 : (x1 : Int32).toInt < 0 ∨ (σ1_1.2 9).toInt ≤ (x1 : Int32).toInt) => ?_)
  · skip
    refine hs_ite (fun h_3 => ?_) (fun h_3 => ?_)
    · skip
      refine hs_noS (by omega) (fun (u_4_0 : (0 : Int) ≤ (x2 : Int32).toInt) (u_4_1 : (x2 : Int32).toInt < (σ1_1.2 9).toInt) => ?_) (fun (u_4_0 : (x2 : Int32).toInt < 0 ∨ (σ1_1.2 9).toInt ≤ (x2 : Int32).toInt) => ?_)
      · skip
        refine hs_ite (fun h_5 => ?_) (fun h_5 => ?_)
        · skip
          unfold fX10_join_27
          refine hs_th0 ?_
          refine hs_ite (fun h_6 => ?_) (fun h_6 => ?_)
          · skip
            refine hs_ga (j := 22) Iσ1_1 (by omega) (by omega) (fun v5_7 ev5_7 (bv5_7 : (0 : Int) ≤ v5_7.toInt ∧ v5_7.toInt ≤ 59) => ?_)
            refine hs_ga (j := 22) Iσ1_1 (by omega) (by omega) (fun v8_8 ev8_8 (bv8_8 : (0 : Int) ≤ v8_8.toInt ∧ v8_8.toInt ≤ 59) => ?_)
            refine hs_ga (j := 22) Iσ1_1 (by omega) (by omega) (fun v13_9 ev13_9 (bv13_9 : (0 : Int) ≤ v13_9.toInt ∧ v13_9.toInt ≤ 59) => ?_)
            refine hs_ga (j := 22) Iσ1_1 (by omega) (by omega) (fun v16_10 ev16_10 (bv16_10 : (0 : Int) ≤ v16_10.toInt ∧ v16_10.toInt ≤ 59) => ?_)
            obtain ⟨e_11, he_11⟩ : ∃ e9 : Int32, e9 = (if (v8_8 < v5_7) then v8_8 else v5_7) := ⟨_, rfl⟩
            have : e_11.toInt = (v8_8 : Int32).toInt ∨ e_11.toInt = (v5_7 : Int32).toInt := by rw [he_11]; split <;> first | exact Or.inl rfl | exact Or.inr rfl
            try rw [← he_11]
            refine hs_bd (s_fX10_stampOf σ1_1 e_11 Iσ1_1  (fun v22_12  => ?_))
            obtain ⟨e_13, he_13⟩ : ∃ e9 : Int32, e9 = (if (v13_9 < v16_10) then v16_10 else v13_9) := ⟨_, rfl⟩
            have : e_13.toInt = (v16_10 : Int32).toInt ∨ e_13.toInt = (v13_9 : Int32).toInt := by rw [he_13]; split <;> first | exact Or.inl rfl | exact Or.inr rfl
            try rw [← he_13]
            refine hs_bd (s_fX10_stampOf σ1_1 e_13 Iσ1_1  (fun v25_14  => ?_))
            try rw [← he_11]
            try rw [← he_13]
            refine hs_ite (fun h_15 => ?_) (fun h_15 => ?_)
            · have : (e_11 : Int32).toInt = (e_13 : Int32).toInt := congrArg Int32.toInt h_15
              exact hs_some (hQ σ1_1 (0 : Int32) Iσ1_1 )
            · have : ¬ (e_11 : Int32).toInt = (e_13 : Int32).toInt := fun z => h_15 (Int32.toInt_inj.mp z)
              refine hs_ga (j := 20) Iσ1_1 (by omega) (by omega) (fun v28_16 ev28_16 (bv28_16 : (-2147483648 : Int) ≤ v28_16.toInt ∧ v28_16.toInt ≤ 2147483647) => ?_)
              refine hs_ga (j := 20) Iσ1_1 (by omega) (by omega) (fun v31_17 ev31_17 (bv31_17 : (-2147483648 : Int) ≤ v31_17.toInt ∧ v31_17.toInt ≤ 2147483647) => ?_)
              refine hs_ite (fun h_18 => ?_) (fun h_18 => ?_)
              · have : (v28_16 : Int32).toInt = (v31_17 : Int32).toInt := congrArg Int32.toInt h_18
                refine hs_ite (fun h_19 => ?_) (fun h_19 => ?_)
                · have : (v22_12 : Int32).toInt < (0) := Int32.lt_iff_toInt_lt.mp h_19
                  unfold fX10_join_124
                  try rw [← he_11]
                  try rw [← he_13]
                  have hfu : ((hy_fu : Nat) : Int) = 5000 := rfl
                  refine s_fX10_join_127 (fun j h => ra j (hs_inc (by decide) h)) (fun j h => ri j (hs_inc (by decide) h))  (fun τ_20 v_21 Iτ_20  => ?_)  hy_fu σ1_1 (e_11 : Int32) (e_13 : Int32) (0 : Int32) Iσ1_1 (show 0 ≤ (e_11 : Int32).toInt by omega) (show (e_11 : Int32).toInt < 60 by omega) (show 0 ≤ (0) by omega) (show (0) ≤ 60 by omega)  (show 60 - (0) < ((hy_fu : Nat) : Int) by rw [hfu]; omega)
                  have : (-2147483648 : Int) ≤ (τ_20.2 0).toInt ∧ (τ_20.2 0).toInt ≤ 2147483647 := Iτ_20.2.1 0
                  have : (0 : Int) ≤ (τ_20.2 9).toInt ∧ (τ_20.2 9).toInt ≤ 60 := Iτ_20.2.1 9
                  exact (hQ τ_20 (v_21 : Int32) Iτ_20 )
                · have : ¬ (v22_12 : Int32).toInt < (0) := fun z => h_19 (Int32.lt_iff_toInt_lt.mpr z)
                  refine hs_ite (fun h_22 => ?_) (fun h_22 => ?_)
                  · have : (v25_14 : Int32).toInt < (0) := Int32.lt_iff_toInt_lt.mp h_22
                    unfold fX10_join_124
                    try rw [← he_11]
                    try rw [← he_13]
                    have hfu : ((hy_fu : Nat) : Int) = 5000 := rfl
                    refine s_fX10_join_127 (fun j h => ra j (hs_inc (by decide) h)) (fun j h => ri j (hs_inc (by decide) h))  (fun τ_23 v_24 Iτ_23  => ?_)  hy_fu σ1_1 (e_11 : Int32) (e_13 : Int32) (0 : Int32) Iσ1_1 (show 0 ≤ (e_11 : Int32).toInt by omega) (show (e_11 : Int32).toInt < 60 by omega) (show 0 ≤ (0) by omega) (show (0) ≤ 60 by omega)  (show 60 - (0) < ((hy_fu : Nat) : Int) by rw [hfu]; omega)
                    have : (-2147483648 : Int) ≤ (τ_23.2 0).toInt ∧ (τ_23.2 0).toInt ≤ 2147483647 := Iτ_23.2.1 0
                    have : (0 : Int) ≤ (τ_23.2 9).toInt ∧ (τ_23.2 9).toInt ≤ 60 := Iτ_23.2.1 9
                    exact (hQ τ_23 (v_24 : Int32) Iτ_23 )
                  · have : ¬ (v25_14 : Int32).toInt < (0) := fun z => h_22 (Int32.lt_iff_toInt_lt.mpr z)
                    refine hs_ite (fun h_25 => ?_) (fun h_25 => ?_)
                    · have : (v22_12 : Int32).toInt = (v25_14 : Int32).toInt := congrArg Int32.toInt h_25
                      unfold fX10_join_124
                      try rw [← he_11]
                      try rw [← he_13]
                      have hfu : ((hy_fu : Nat) : Int) = 5000 := rfl
                      refine s_fX10_join_127 (fun j h => ra j (hs_inc (by decide) h)) (fun j h => ri j (hs_inc (by decide) h))  (fun τ_26 v_27 Iτ_26  => ?_)  hy_fu σ1_1 (e_11 : Int32) (e_13 : Int32) (0 : Int32) Iσ1_1 (show 0 ≤ (e_11 : Int32).toInt by omega) (show (e_11 : Int32).toInt < 60 by omega) (show 0 ≤ (0) by omega) (show (0) ≤ 60 by omega)  (show 60 - (0) < ((hy_fu : Nat) : Int) by rw [hfu]; omega)
                      have : (-2147483648 : Int) ≤ (τ_26.2 0).toInt ∧ (τ_26.2 0).toInt ≤ 2147483647 := Iτ_26.2.1 0
                      have : (0 : Int) ≤ (τ_26.2 9).toInt ∧ (τ_26.2 9).toInt ≤ 60 := Iτ_26.2.1 9
                      exact (hQ τ_26 (v_27 : Int32) Iτ_26 )
                    · have : ¬ (v22_12 : Int32).toInt = (v25_14 : Int32).toInt := fun z => h_25 (Int32.toInt_inj.mp z)
                      exact hs_some (hQ σ1_1 (0 : Int32) Iσ1_1 )
              · have : ¬ (v28_16 : Int32).toInt = (v31_17 : Int32).toInt := fun z => h_18 (Int32.toInt_inj.mp z)
                exact hs_some (hQ σ1_1 (0 : Int32) Iσ1_1 )
          · exact absurd (by decide) h_6
        · exact absurd (by decide) h_5
      · skip
        refine hs_ite (fun h_28 => ?_) (fun h_28 => ?_)
        · exact absurd h_28 (by decide)
        · skip
          unfold fX10_join_22
          unfold fX10_join_27
          refine hs_th1 Iσ1_1 (hs_any _) (fun r => ⟨hm_Ri (by decide) r.1, ri 0 (by decide) _ _ r.2⟩) (fun σ1_29 eσ1_29 Iσ1_29 => ?_)
          have : (σ1_29.2 0).toInt = (1) := by rw [eσ1_29]; rfl
          have : (σ1_29.2 9).toInt = (σ1_1.2 9).toInt := by rw [eσ1_29]; rfl
          have : (-2147483648 : Int) ≤ (σ1_29.2 0).toInt ∧ (σ1_29.2 0).toInt ≤ 2147483647 := Iσ1_29.2.1 0
          have : (0 : Int) ≤ (σ1_29.2 9).toInt ∧ (σ1_29.2 9).toInt ≤ 60 := Iσ1_29.2.1 9
          refine hs_ite (fun h_30 => ?_) (fun h_30 => ?_)
          · exact absurd h_30 (by decide)
          · skip
            exact hs_some (hQ σ1_29 (0 : Int32) Iσ1_29 )
    · exact absurd (by decide) h_3
  · skip
    refine hs_ite (fun h_31 => ?_) (fun h_31 => ?_)
    · exact absurd h_31 (by decide)
    · skip
      unfold fX10_join_22
      unfold fX10_join_27
      refine hs_th1 Iσ1_1 (hs_any _) (fun r => ⟨hm_Ri (by decide) r.1, ri 0 (by decide) _ _ r.2⟩) (fun σ1_32 eσ1_32 Iσ1_32 => ?_)
      have : (σ1_32.2 0).toInt = (1) := by rw [eσ1_32]; rfl
      have : (σ1_32.2 9).toInt = (σ1_1.2 9).toInt := by rw [eσ1_32]; rfl
      have : (-2147483648 : Int) ≤ (σ1_32.2 0).toInt ∧ (σ1_32.2 0).toInt ≤ 2147483647 := Iσ1_32.2.1 0
      have : (0 : Int) ≤ (σ1_32.2 9).toInt ∧ (σ1_32.2 9).toInt ≤ 60 := Iσ1_32.2.1 9
      refine hs_ite (fun h_33 => ?_) (fun h_33 => ?_)
      · exact absurd h_33 (by decide)
      · skip
        exact hs_some (hQ σ1_32 (0 : Int32) Iσ1_32 )
theorem s_fX10_vessels_36 {R : hy_S → Prop} (ra : ∀ j, j ∈ ([] : List Nat) → ∀ (τ : hy_S) (g : Nat → Int32), R τ → R (hy_sc τ j g)) (ri : ∀ j, j ∈ ([] : List Nat) → ∀ (τ : hy_S) (v : Int32), R τ → R (hy_si τ j v)) {Q : hy_S × Int32 → Prop} (hQ : ∀ (σ9 : hy_S) (v9 : Int32), hm_I R σ9 → Q (σ9, v9)) : ∀ (n : Nat) (σ : hy_S) (x1 : Int32) (x2 : Int32) (x3 : Int32), hm_I R σ → 0 ≤ x3.toInt → x3.toInt ≤ 60 → 60 - x3.toInt < (n : Int) → hs_ok (fX10_vessels_36 n σ x1 x2 x3) Q := by
  intro n
  induction n with
  | zero =>
    intro σ x1 x2 x3 I p0 p1  hm
    have : (0 : Int) ≤ (σ.2 9).toInt ∧ (σ.2 9).toInt ≤ 60 := I.2.1 9
    exact absurd hm (by omega)
  | succ n ih =>
    intro σ x1 x2 x3 I p0 p1  hm
    unfold fX10_vessels_36
    have : (0 : Int) ≤ (σ.2 9).toInt ∧ (σ.2 9).toInt ≤ 60 := I.2.1 9
    refine hs_ite (fun h_1 => ?_) (fun h_1 => ?_)
    · have : ((σ.2 9) : Int32).toInt ≤ (x3 : Int32).toInt := Int32.le_iff_toInt_le.mp h_1
      exact hs_some (hQ σ (x2 : Int32) I )
    · have : ¬ ((σ.2 9) : Int32).toInt ≤ (x3 : Int32).toInt := fun z => h_1 (Int32.le_iff_toInt_le.mpr z)
      refine hs_ga (j := 22) I (by omega) (by omega) (fun v2_2 ev2_2 (bv2_2 : (0 : Int) ≤ v2_2.toInt ∧ v2_2.toInt ≤ 59) => ?_)
      refine hs_ite (fun h_3 => ?_) (fun h_3 => ?_)
      · have : (v2_2 : Int32).toInt = (x3 : Int32).toInt := congrArg Int32.toInt h_3
        refine hs_ite (fun h_4 => ?_) (fun h_4 => ?_)
        · have : (x1 : Int32).toInt < (0) := Int32.lt_iff_toInt_lt.mp h_4
          unfold fX10_vessels_68
          unfold fX10_vessels_73
          obtain ⟨e_5, he_5⟩ : ∃ e9 : Int32, e9 = (x2 + 1) := ⟨_, rfl⟩
          try have : e_5.toInt = (x2 : Int32).toInt + (1) := by rw [he_5]; exact hs_addk (1) rfl (by omega) (by omega)
          try rw [← he_5]
          obtain ⟨e_6, he_6⟩ : ∃ e9 : Int32, e9 = (x3 + 1) := ⟨_, rfl⟩
          try have : e_6.toInt = (x3 : Int32).toInt + (1) := by rw [he_6]; exact hs_addk (1) rfl (by omega) (by omega)
          try rw [← he_6]
          exact ih σ (x1 : Int32) (e_5 : Int32) (e_6 : Int32) I (show 0 ≤ (e_6 : Int32).toInt by omega) (show (e_6 : Int32).toInt ≤ 60 by omega)  (by omega)
        · have : ¬ (x1 : Int32).toInt < (0) := fun z => h_4 (Int32.lt_iff_toInt_lt.mpr z)
          refine hs_bd (s_fX10_stampOf σ x3 I  (fun v8_7  => ?_))
          refine hs_ite (fun h_8 => ?_) (fun h_8 => ?_)
          · have : (v8_7 : Int32).toInt = (x1 : Int32).toInt := congrArg Int32.toInt h_8
            unfold fX10_vessels_68
            unfold fX10_vessels_73
            obtain ⟨e_9, he_9⟩ : ∃ e9 : Int32, e9 = (x2 + 1) := ⟨_, rfl⟩
            try have : e_9.toInt = (x2 : Int32).toInt + (1) := by rw [he_9]; exact hs_addk (1) rfl (by omega) (by omega)
            try rw [← he_9]
            obtain ⟨e_10, he_10⟩ : ∃ e9 : Int32, e9 = (x3 + 1) := ⟨_, rfl⟩
            try have : e_10.toInt = (x3 : Int32).toInt + (1) := by rw [he_10]; exact hs_addk (1) rfl (by omega) (by omega)
            try rw [← he_10]
            exact ih σ (x1 : Int32) (e_9 : Int32) (e_10 : Int32) I (show 0 ≤ (e_10 : Int32).toInt by omega) (show (e_10 : Int32).toInt ≤ 60 by omega)  (by omega)
          · have : ¬ (v8_7 : Int32).toInt = (x1 : Int32).toInt := fun z => h_8 (Int32.toInt_inj.mp z)
            unfold fX10_vessels_72
            unfold fX10_vessels_73
            obtain ⟨e_11, he_11⟩ : ∃ e9 : Int32, e9 = (x2 + 0) := ⟨_, rfl⟩
            try have : e_11.toInt = (x2 : Int32).toInt + (0) := by rw [he_11]; exact hs_addk (0) rfl (by omega) (by omega)
            try rw [← he_11]
            obtain ⟨e_12, he_12⟩ : ∃ e9 : Int32, e9 = (x3 + 1) := ⟨_, rfl⟩
            try have : e_12.toInt = (x3 : Int32).toInt + (1) := by rw [he_12]; exact hs_addk (1) rfl (by omega) (by omega)
            try rw [← he_12]
            exact ih σ (x1 : Int32) (e_11 : Int32) (e_12 : Int32) I (show 0 ≤ (e_12 : Int32).toInt by omega) (show (e_12 : Int32).toInt ≤ 60 by omega)  (by omega)
      · have : ¬ (v2_2 : Int32).toInt = (x3 : Int32).toInt := fun z => h_3 (Int32.toInt_inj.mp z)
        unfold fX10_vessels_72
        unfold fX10_vessels_73
        obtain ⟨e_13, he_13⟩ : ∃ e9 : Int32, e9 = (x2 + 0) := ⟨_, rfl⟩
        try have : e_13.toInt = (x2 : Int32).toInt + (0) := by rw [he_13]; exact hs_addk (0) rfl (by omega) (by omega)
        try rw [← he_13]
        obtain ⟨e_14, he_14⟩ : ∃ e9 : Int32, e9 = (x3 + 1) := ⟨_, rfl⟩
        try have : e_14.toInt = (x3 : Int32).toInt + (1) := by rw [he_14]; exact hs_addk (1) rfl (by omega) (by omega)
        try rw [← he_14]
        exact ih σ (x1 : Int32) (e_13 : Int32) (e_14 : Int32) I (show 0 ≤ (e_14 : Int32).toInt by omega) (show (e_14 : Int32).toInt ≤ 60 by omega)  (by omega)
