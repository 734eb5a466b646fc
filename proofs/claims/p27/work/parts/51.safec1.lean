theorem s_fX6_greatest_11 {R : hy_S → Prop} (ra : ∀ j, j ∈ ([14] : List Nat) → ∀ (τ : hy_S) (g : Nat → Int32), R τ → R (hy_sc τ j g)) (ri : ∀ j, j ∈ ([] : List Nat) → ∀ (τ : hy_S) (v : Int32), R τ → R (hy_si τ j v)) {Q : hy_S × Int32 → Prop} (hQ : ∀ (σ9 : hy_S) (v9 : Int32), hc_I R σ9 → Q (σ9, v9)) : ∀ (n : Nat) (σ : hy_S) (x1 : Int32) (x2 : Int32), hc_I R σ → 0 ≤ x1.toInt → x1.toInt ≤ x2.toInt → x2.toInt ≤ 20 → 20 - x2.toInt < (n : Int) → hs_ok (fX6_greatest_11 n σ x1 x2) Q := by
  intro n
  induction n with
  | zero =>
    intro σ x1 x2 I p0 p1 p2  hm
    have : (0 : Int) ≤ (σ.2 6).toInt ∧ (σ.2 6).toInt ≤ 20 := I.2.1 6
    exact absurd hm (by omega)
  | succ n ih =>
    intro σ x1 x2 I p0 p1 p2  hm
    unfold fX6_greatest_11
    have : (0 : Int) ≤ (σ.2 6).toInt ∧ (σ.2 6).toInt ≤ 20 := I.2.1 6
    refine hs_ite (fun h_1 => ?_) (fun h_1 => ?_)
    · have : ((σ.2 6) : Int32).toInt ≤ (x2 : Int32).toInt := Int32.le_iff_toInt_le.mp h_1
      exact hs_some (hQ σ (x1 : Int32) I )
    · have : ¬ ((σ.2 6) : Int32).toInt ≤ (x2 : Int32).toInt := fun z => h_1 (Int32.le_iff_toInt_le.mpr z)
      refine hs_ga (j := 13) I (by omega) (by omega) (fun v2_2 ev2_2 (bv2_2 : (0 : Int) ≤ v2_2.toInt ∧ v2_2.toInt ≤ 59) => ?_)
      obtain ⟨e_3, he_3⟩ : ∃ e9 : Int32, e9 = (x1 + 1) := ⟨_, rfl⟩
      try have : e_3.toInt = (x1 : Int32).toInt + (1) := by rw [he_3]; exact hs_addk (1) rfl (by omega) (by omega)
      try rw [← he_3]
      refine hs_pa (idx := e_3) (v := _) I (by omega) (by omega) (hs_any _) (ra 14 (by decide) _ _) (fun σ5_4 eσ5_4 Iσ5_4 => ?_)
      have : (σ5_4.2 6).toInt = (σ.2 6).toInt := by rw [eσ5_4]; rfl
      have : (0 : Int) ≤ (σ5_4.2 6).toInt ∧ (σ5_4.2 6).toInt ≤ 20 := Iσ5_4.2.1 6
      have hfu : ((hy_fu : Nat) : Int) = 5000 := rfl
      refine s_fX6_greatest_39 (fun j h => ra j (hs_inc (by decide) h)) (fun j h => ri j (hs_inc (by decide) h)) (x2.toInt) hQ (fun τ_11 y_5 y_6 I_7 h_8 h_9 h_10 => by have : (0 : Int) ≤ (τ_11.2 6).toInt ∧ (τ_11.2 6).toInt ≤ 20 := I_7.2.1 6; exact ih τ_11 y_5 y_6 I_7 (by omega) (by omega) (by omega) (by omega)) hy_fu σ5_4 (x1 : Int32) (x2 : Int32) (v2_2 : Int32) (x1 : Int32) Iσ5_4 (show 0 ≤ (x1 : Int32).toInt by omega) (show (x1 : Int32).toInt ≤ (x2 : Int32).toInt by omega) (show (x2 : Int32).toInt ≤ 19 by omega) (show 0 ≤ (v2_2 : Int32).toInt by omega) (show (v2_2 : Int32).toInt < 60 by omega) (show -1 ≤ (x1 : Int32).toInt by omega) (show (x1 : Int32).toInt ≤ (x1 : Int32).toInt by omega) (show (x2 : Int32).toInt = (x2.toInt) by omega)  (show (x1 : Int32).toInt + 1 < ((hy_fu : Nat) : Int) by rw [hfu]; omega)
theorem s_fX6_greatest {R : hy_S → Prop} (ra : ∀ j, j ∈ ([14] : List Nat) → ∀ (τ : hy_S) (g : Nat → Int32), R τ → R (hy_sc τ j g)) (ri : ∀ j, j ∈ ([] : List Nat) → ∀ (τ : hy_S) (v : Int32), R τ → R (hy_si τ j v)) (σ : hy_S) {P : hy_S → Int32 → Prop} (I : hc_I R σ) (hQ : ∀ (σ9 : hy_S) (v9 : Int32), hc_I R σ9 → P σ9 v9) : hs_ok2 (fX6_greatest σ ) P := by
  unfold fX6_greatest
  show hs_ok _ _
  refine hs_pa (idx := 0) (v := _) I (by decide) (by decide) (hs_any _) (ra 14 (by decide) _ _) (fun σ1_1 eσ1_1 Iσ1_1 => ?_)
  have hfu : ((hy_fu : Nat) : Int) = 5000 := rfl
  refine s_fX6_greatest_11 (fun j h => ra j (hs_inc (by decide) h)) (fun j h => ri j (hs_inc (by decide) h))  (fun τ_2 v_3 Iτ_2  => ?_)  hy_fu σ1_1 (0 : Int32) (0 : Int32) Iσ1_1 (show 0 ≤ (0) by omega) (show (0) ≤ (0) by omega) (show (0) ≤ 20 by omega)  (show 20 - (0) < ((hy_fu : Nat) : Int) by rw [hfu]; omega)
  exact (hQ τ_2 (v_3 : Int32) Iτ_2 )
theorem s_fX4_due {R : hy_S → Prop} (σ : hy_S) (x1 : Int32) (x2 : Int32) {P : hy_S → Int32 → Prop} (I : hc_I R σ) (p0 : 0 ≤ x1.toInt) (p1 : x1.toInt < 8) (hQ : ∀ v9 : Int32, P σ v9) : hs_ok2 (fX4_due σ x1 x2) P := by
  unfold fX4_due
  show hs_ok _ _
  refine hs_ga (j := 15) I (by omega) (by omega) (fun v1_1 ev1_1 (bv1_1 : (-2147483648 : Int) ≤ v1_1.toInt ∧ v1_1.toInt ≤ 2147483647) => ?_)
  obtain ⟨e_2, he_2⟩ : ∃ e9 : Int32, e9 = (x2 * v1_1) := ⟨_, rfl⟩
  try rw [← he_2]
  obtain ⟨e_3, he_3⟩ : ∃ e9 : Int32, e9 = (e_2 + 9) := ⟨_, rfl⟩
  try have : e_3.toInt = (e_2 : Int32).toInt + (9) := by rw [he_3]; exact hs_addk (9) rfl (by omega) (by omega)
  try rw [← he_3]
  obtain ⟨e_4, he_4⟩ : ∃ e9 : Int32, e9 = (e_3 / 10) := ⟨_, rfl⟩
  try have : e_4.toInt = (e_3 : Int32).toInt / (10) := by rw [he_4]; exact hs_div (10) rfl (by omega) (by omega)
  try rw [← he_4]
  exact hs_some (hQ (e_4 : Int32) )
theorem s_fX4_countNote {R : hy_S → Prop} (ra : ∀ j, j ∈ ([16, 17] : List Nat) → ∀ (τ : hy_S) (g : Nat → Int32), R τ → R (hy_sc τ j g)) (ri : ∀ j, j ∈ ([] : List Nat) → ∀ (τ : hy_S) (v : Int32), R τ → R (hy_si τ j v)) (σ : hy_S) (x1 : Int32) (x2 : Int32) {P : hy_S → Int32 → Prop} (I : hc_I R σ) (p0 : 0 ≤ x1.toInt) (p1 : x1.toInt < 8) (hQ : ∀ (σ9 : hy_S) (v9 : Int32), hc_I R σ9 → (σ9.2 2).toInt = (σ.2 2).toInt → P σ9 v9) : hs_ok2 (fX4_countNote σ x1 x2) P := by
  unfold fX4_countNote
  show hs_ok _ _
  have : (0 : Int) ≤ (σ.2 2).toInt ∧ (σ.2 2).toInt ≤ 400 := I.2.1 2
  refine hs_ga (j := 16) I (by omega) (by omega) (fun v1_1 ev1_1 (bv1_1 : (-2147483648 : Int) ≤ v1_1.toInt ∧ v1_1.toInt ≤ 2147483647) => ?_)
  refine hs_pa (idx := x1) (v := _) I (by omega) (by omega) (hs_any _) (ra 16 (by decide) _ _) (fun σ4_2 eσ4_2 Iσ4_2 => ?_)
  have : (σ4_2.2 2).toInt = (σ.2 2).toInt := by rw [eσ4_2]; rfl
  have : (0 : Int) ≤ (σ4_2.2 2).toInt ∧ (σ4_2.2 2).toInt ≤ 400 := Iσ4_2.2.1 2
  refine hs_ite (fun h_3 => ?_) (fun h_3 => ?_)
  · have : (x2 : Int32).toInt = (0) := congrArg Int32.toInt h_3
    exact hs_some (hQ σ4_2 (0 : Int32) Iσ4_2 (show (σ4_2.2 2).toInt = (σ.2 2).toInt by omega))
  · have : ¬ (x2 : Int32).toInt = (0) := fun z => h_3 (Int32.toInt_inj.mp z)
    refine hs_ga (j := 17) Iσ4_2 (by omega) (by omega) (fun v8_4 ev8_4 (bv8_4 : (-2147483648 : Int) ≤ v8_4.toInt ∧ v8_4.toInt ≤ 2147483647) => ?_)
    refine hs_pa (idx := x1) (v := _) Iσ4_2 (by omega) (by omega) (hs_any _) (ra 17 (by decide) _ _) (fun σ11_5 eσ11_5 Iσ11_5 => ?_)
    have : (σ11_5.2 2).toInt = (σ4_2.2 2).toInt := by rw [eσ11_5]; rfl
    have : (0 : Int) ≤ (σ11_5.2 2).toInt ∧ (σ11_5.2 2).toInt ≤ 400 := Iσ11_5.2.1 2
    exact hs_some (hQ σ11_5 (0 : Int32) Iσ11_5 (show (σ11_5.2 2).toInt = (σ.2 2).toInt by omega))
theorem s_fX5_add {R : hy_S → Prop} (ra : ∀ j, j ∈ ([18, 19, 20, 21] : List Nat) → ∀ (τ : hy_S) (g : Nat → Int32), R τ → R (hy_sc τ j g)) (ri : ∀ j, j ∈ ([7] : List Nat) → ∀ (τ : hy_S) (v : Int32), R τ → R (hy_si τ j v)) (σ : hy_S) (x1 : Int32) (x2 : Int32) {P : hy_S → Int32 → Prop} (I : hc_I R σ) (p0 : (σ.2 7).toInt < 60) (hQ : ∀ (σ9 : hy_S) (v9 : Int32), hc_I R σ9 → (σ9.2 7).toInt = (σ.2 7).toInt + 1 → v9.toInt = (σ.2 7).toInt → P σ9 v9) : hs_ok2 (fX5_add σ x1 x2) P := by
  unfold fX5_add
  show hs_ok _ _
  have : (0 : Int) ≤ (σ.2 7).toInt ∧ (σ.2 7).toInt ≤ 60 := I.2.1 7
  refine hs_pa (idx := (σ.2 7)) (v := (σ.2 7)) I (by omega) (by omega) ⟨(by omega : (0 : Int) ≤ ((σ.2 7) : Int32).toInt), (by omega : ((σ.2 7) : Int32).toInt ≤ 59)⟩ (ra 18 (by decide) _ _) (fun σ1_1 eσ1_1 Iσ1_1 => ?_)
  have : (σ1_1.2 7).toInt = (σ.2 7).toInt := by rw [eσ1_1]; rfl
  have : (0 : Int) ≤ (σ1_1.2 7).toInt ∧ (σ1_1.2 7).toInt ≤ 60 := Iσ1_1.2.1 7
  refine hs_pa (idx := (σ1_1.2 7)) (v := _) Iσ1_1 (by omega) (by omega) (hs_any _) (ra 19 (by decide) _ _) (fun σ4_2 eσ4_2 Iσ4_2 => ?_)
  have : (σ4_2.2 7).toInt = (σ1_1.2 7).toInt := by rw [eσ4_2]; rfl
  have : (0 : Int) ≤ (σ4_2.2 7).toInt ∧ (σ4_2.2 7).toInt ≤ 60 := Iσ4_2.2.1 7
  refine hs_pa (idx := (σ4_2.2 7)) (v := _) Iσ4_2 (by omega) (by omega) (hs_any _) (ra 20 (by decide) _ _) (fun σ7_3 eσ7_3 Iσ7_3 => ?_)
  have : (σ7_3.2 7).toInt = (σ4_2.2 7).toInt := by rw [eσ7_3]; rfl
  have : (0 : Int) ≤ (σ7_3.2 7).toInt ∧ (σ7_3.2 7).toInt ≤ 60 := Iσ7_3.2.1 7
  refine hs_pa (idx := (σ7_3.2 7)) (v := _) Iσ7_3 (by omega) (by omega) (hs_any _) (ra 21 (by decide) _ _) (fun σ10_4 eσ10_4 Iσ10_4 => ?_)
  have : (σ10_4.2 7).toInt = (σ7_3.2 7).toInt := by rw [eσ10_4]; rfl
  have : (0 : Int) ≤ (σ10_4.2 7).toInt ∧ (σ10_4.2 7).toInt ≤ 60 := Iσ10_4.2.1 7
  obtain ⟨e_5, he_5⟩ : ∃ e9 : Int32, e9 = ((σ10_4.2 7) + 1) := ⟨_, rfl⟩
  try have : e_5.toInt = ((σ10_4.2 7) : Int32).toInt + (1) := by rw [he_5]; exact hs_addk (1) rfl (by omega) (by omega)
  try rw [← he_5]
  refine hs_pf (v := e_5) Iσ10_4 ⟨(by omega : (0 : Int) ≤ (e_5 : Int32).toInt), (by omega : (e_5 : Int32).toInt ≤ 60)⟩ (ri 7 (by decide) _ _) (fun σ13_6 eσ13_6 Iσ13_6 => ?_)
  have : (σ13_6.2 7).toInt = (e_5 : Int32).toInt := by rw [eσ13_6]; rfl
  have : (0 : Int) ≤ (σ13_6.2 7).toInt ∧ (σ13_6.2 7).toInt ≤ 60 := Iσ13_6.2.1 7
  obtain ⟨e_7, he_7⟩ : ∃ e9 : Int32, e9 = ((σ13_6.2 7) - 1) := ⟨_, rfl⟩
  try have : e_7.toInt = ((σ13_6.2 7) : Int32).toInt - (1) := by rw [he_7]; exact hs_subk (1) rfl (by omega) (by omega)
  try rw [← he_7]
  exact hs_some (hQ σ13_6 (e_7 : Int32) Iσ13_6 (show (σ13_6.2 7).toInt = (σ.2 7).toInt + 1 by omega) (show (e_7 : Int32).toInt = (σ.2 7).toInt by omega))
theorem s_fX5_fit {R : hy_S → Prop} (σ : hy_S) (x1 : Int32) (x2 : Int32) {P : hy_S → Int32 → Prop} (I : hc_I R σ) (p0 : 0 ≤ x1.toInt) (p1 : x1.toInt < 60) (p2 : 0 ≤ x2.toInt) (p3 : x2.toInt < 60) (hQ : ∀ v9 : Int32, P σ v9) : hs_ok2 (fX5_fit σ x1 x2) P := by
  unfold fX5_fit
  show hs_ok _ _
  refine hs_ga (j := 21) I (by omega) (by omega) (fun v1_1 ev1_1 (bv1_1 : (-2147483648 : Int) ≤ v1_1.toInt ∧ v1_1.toInt ≤ 2147483647) => ?_)
  refine hs_ite (fun h_2 => ?_) (fun h_2 => ?_)
  · have : (v1_1 : Int32).toInt = (-1) := congrArg Int32.toInt h_2
    unfold fX5_fit_35
    unfold fX5_fit_40
    refine hs_ga (j := 20) I (by omega) (by omega) (fun v1_3 ev1_3 (bv1_3 : (-2147483648 : Int) ≤ v1_3.toInt ∧ v1_3.toInt ≤ 2147483647) => ?_)
    refine hs_ga (j := 20) I (by omega) (by omega) (fun v4_4 ev4_4 (bv4_4 : (-2147483648 : Int) ≤ v4_4.toInt ∧ v4_4.toInt ≤ 2147483647) => ?_)
    refine hs_ite (fun h_5 => ?_) (fun h_5 => ?_)
    · have : (v1_3 : Int32).toInt = (v4_4 : Int32).toInt := congrArg Int32.toInt h_5
      refine hs_ite (fun h_6 => ?_) (fun h_6 => ?_)
      · exact absurd h_6 (by decide)
      · skip
        exact hs_some (hQ (1 : Int32) )
    · have : ¬ (v1_3 : Int32).toInt = (v4_4 : Int32).toInt := fun z => h_5 (Int32.toInt_inj.mp z)
      exact hs_some (hQ (0 : Int32) )
  · have : ¬ (v1_1 : Int32).toInt = (-1) := fun z => h_2 (Int32.toInt_inj.mp z)
    refine hs_ga (j := 21) I (by omega) (by omega) (fun v5_7 ev5_7 (bv5_7 : (-2147483648 : Int) ≤ v5_7.toInt ∧ v5_7.toInt ≤ 2147483647) => ?_)
    refine hs_ite (fun h_8 => ?_) (fun h_8 => ?_)
    · have : (v5_7 : Int32).toInt = (-1) := congrArg Int32.toInt h_8
      unfold fX5_fit_35
      unfold fX5_fit_40
      refine hs_ga (j := 20) I (by omega) (by omega) (fun v1_9 ev1_9 (bv1_9 : (-2147483648 : Int) ≤ v1_9.toInt ∧ v1_9.toInt ≤ 2147483647) => ?_)
      refine hs_ga (j := 20) I (by omega) (by omega) (fun v4_10 ev4_10 (bv4_10 : (-2147483648 : Int) ≤ v4_10.toInt ∧ v4_10.toInt ≤ 2147483647) => ?_)
      refine hs_ite (fun h_11 => ?_) (fun h_11 => ?_)
      · have : (v1_9 : Int32).toInt = (v4_10 : Int32).toInt := congrArg Int32.toInt h_11
        refine hs_ite (fun h_12 => ?_) (fun h_12 => ?_)
        · exact absurd h_12 (by decide)
        · skip
          exact hs_some (hQ (1 : Int32) )
      · have : ¬ (v1_9 : Int32).toInt = (v4_10 : Int32).toInt := fun z => h_11 (Int32.toInt_inj.mp z)
        exact hs_some (hQ (0 : Int32) )
    · have : ¬ (v5_7 : Int32).toInt = (-1) := fun z => h_8 (Int32.toInt_inj.mp z)
      refine hs_ga (j := 21) I (by omega) (by omega) (fun v9_13 ev9_13 (bv9_13 : (-2147483648 : Int) ≤ v9_13.toInt ∧ v9_13.toInt ≤ 2147483647) => ?_)
      refine hs_ga (j := 21) I (by omega) (by omega) (fun v12_14 ev12_14 (bv12_14 : (-2147483648 : Int) ≤ v12_14.toInt ∧ v12_14.toInt ≤ 2147483647) => ?_)
      refine hs_ite (fun h_15 => ?_) (fun h_15 => ?_)
      · have : (v9_13 : Int32).toInt = (v12_14 : Int32).toInt := congrArg Int32.toInt h_15
        unfold fX5_fit_35
        unfold fX5_fit_40
        refine hs_ga (j := 20) I (by omega) (by omega) (fun v1_16 ev1_16 (bv1_16 : (-2147483648 : Int) ≤ v1_16.toInt ∧ v1_16.toInt ≤ 2147483647) => ?_)
        refine hs_ga (j := 20) I (by omega) (by omega) (fun v4_17 ev4_17 (bv4_17 : (-2147483648 : Int) ≤ v4_17.toInt ∧ v4_17.toInt ≤ 2147483647) => ?_)
        refine hs_ite (fun h_18 => ?_) (fun h_18 => ?_)
        · have : (v1_16 : Int32).toInt = (v4_17 : Int32).toInt := congrArg Int32.toInt h_18
          refine hs_ite (fun h_19 => ?_) (fun h_19 => ?_)
          · exact absurd h_19 (by decide)
          · skip
            exact hs_some (hQ (1 : Int32) )
        · have : ¬ (v1_16 : Int32).toInt = (v4_17 : Int32).toInt := fun z => h_18 (Int32.toInt_inj.mp z)
          exact hs_some (hQ (0 : Int32) )
      · have : ¬ (v9_13 : Int32).toInt = (v12_14 : Int32).toInt := fun z => h_15 (Int32.toInt_inj.mp z)
        unfold fX5_fit_40
        refine hs_ga (j := 20) I (by omega) (by omega) (fun v1_20 ev1_20 (bv1_20 : (-2147483648 : Int) ≤ v1_20.toInt ∧ v1_20.toInt ≤ 2147483647) => ?_)
        refine hs_ga (j := 20) I (by omega) (by omega) (fun v4_21 ev4_21 (bv4_21 : (-2147483648 : Int) ≤ v4_21.toInt ∧ v4_21.toInt ≤ 2147483647) => ?_)
        refine hs_ite (fun h_22 => ?_) (fun h_22 => ?_)
        · have : (v1_20 : Int32).toInt = (v4_21 : Int32).toInt := congrArg Int32.toInt h_22
          refine hs_ite (fun h_23 => ?_) (fun h_23 => ?_)
          · skip
            exact hs_some (hQ (0 : Int32) )
          · exact absurd (by decide) h_23
        · have : ¬ (v1_20 : Int32).toInt = (v4_21 : Int32).toInt := fun z => h_22 (Int32.toInt_inj.mp z)
          exact hs_some (hQ (0 : Int32) )
theorem s_fX5_unite_55 {R : hy_S → Prop} (ra : ∀ j, j ∈ ([18, 19, 21] : List Nat) → ∀ (τ : hy_S) (g : Nat → Int32), R τ → R (hy_sc τ j g)) (ri : ∀ j, j ∈ ([] : List Nat) → ∀ (τ : hy_S) (v : Int32), R τ → R (hy_si τ j v)) {Q : hy_S × Int32 → Prop} (hQ : ∀ (σ9 : hy_S) (v9 : Int32), hc_I R σ9 → 0 ≤ v9.toInt → v9.toInt ≤ 1 → Q (σ9, v9)) : ∀ (n : Nat) (σ : hy_S) (x3 : Int32) (x4 : Int32) (x5 : Int32), hc_I R σ → 0 ≤ x3.toInt → x3.toInt < 60 → 0 ≤ x4.toInt → x4.toInt < 60 → 0 ≤ x5.toInt → x5.toInt ≤ 60 → 60 - x5.toInt < (n : Int) → hs_ok (fX5_unite_55 n σ x3 x4 x5) Q := by
  intro n
  induction n with
  | zero =>
    intro σ x3 x4 x5 I p0 p1 p2 p3 p4 p5  hm
    have : (0 : Int) ≤ (σ.2 7).toInt ∧ (σ.2 7).toInt ≤ 60 := I.2.1 7
    exact absurd hm (by omega)
  | succ n ih =>
    intro σ x3 x4 x5 I p0 p1 p2 p3 p4 p5  hm
    unfold fX5_unite_55
    have : (0 : Int) ≤ (σ.2 7).toInt ∧ (σ.2 7).toInt ≤ 60 := I.2.1 7
    refine hs_ite (fun h_1 => ?_) (fun h_1 => ?_)
    · have : ((σ.2 7) : Int32).toInt ≤ (x5 : Int32).toInt := Int32.le_iff_toInt_le.mp h_1
      refine hs_ga (j := 19) I (by omega) (by omega) (fun v2_2 ev2_2 (bv2_2 : (-2147483648 : Int) ≤ v2_2.toInt ∧ v2_2.toInt ≤ 2147483647) => ?_)
      refine hs_ga (j := 19) I (by omega) (by omega) (fun v5_3 ev5_3 (bv5_3 : (-2147483648 : Int) ≤ v5_3.toInt ∧ v5_3.toInt ≤ 2147483647) => ?_)
      refine hs_pa (idx := x3) (v := _) I (by omega) (by omega) (hs_any _) (ra 19 (by decide) _ _) (fun σ8_4 eσ8_4 Iσ8_4 => ?_)
      have : (σ8_4.2 7).toInt = (σ.2 7).toInt := by rw [eσ8_4]; rfl
      have : (0 : Int) ≤ (σ8_4.2 7).toInt ∧ (σ8_4.2 7).toInt ≤ 60 := Iσ8_4.2.1 7
      refine hs_ga (j := 21) Iσ8_4 (by omega) (by omega) (fun v11_5 ev11_5 (bv11_5 : (-2147483648 : Int) ≤ v11_5.toInt ∧ v11_5.toInt ≤ 2147483647) => ?_)
      refine hs_ite (fun h_6 => ?_) (fun h_6 => ?_)
      · have : (v11_5 : Int32).toInt = (-1) := congrArg Int32.toInt h_6
        refine hs_ga (j := 21) Iσ8_4 (by omega) (by omega) (fun v15_7 ev15_7 (bv15_7 : (-2147483648 : Int) ≤ v15_7.toInt ∧ v15_7.toInt ≤ 2147483647) => ?_)
        refine hs_pa (idx := x3) (v := _) Iσ8_4 (by omega) (by omega) (hs_any _) (ra 21 (by decide) _ _) (fun σ18_8 eσ18_8 Iσ18_8 => ?_)
        have : (σ18_8.2 7).toInt = (σ8_4.2 7).toInt := by rw [eσ18_8]; rfl
        have : (0 : Int) ≤ (σ18_8.2 7).toInt ∧ (σ18_8.2 7).toInt ≤ 60 := Iσ18_8.2.1 7
        exact hs_some (hQ σ18_8 (1 : Int32) Iσ18_8 (show 0 ≤ (1) by omega) (show (1) ≤ 1 by omega))
      · have : ¬ (v11_5 : Int32).toInt = (-1) := fun z => h_6 (Int32.toInt_inj.mp z)
        exact hs_some (hQ σ8_4 (1 : Int32) Iσ8_4 (show 0 ≤ (1) by omega) (show (1) ≤ 1 by omega))
    · have : ¬ ((σ.2 7) : Int32).toInt ≤ (x5 : Int32).toInt := fun z => h_1 (Int32.le_iff_toInt_le.mpr z)
      refine hs_ga (j := 18) I (by omega) (by omega) (fun v21_9 ev21_9 (bv21_9 : (0 : Int) ≤ v21_9.toInt ∧ v21_9.toInt ≤ 59) => ?_)
      refine hs_ite (fun h_10 => ?_) (fun h_10 => ?_)
      · have : (v21_9 : Int32).toInt = (x4 : Int32).toInt := congrArg Int32.toInt h_10
        refine hs_pa (idx := x5) (v := x3) I (by omega) (by omega) ⟨(by omega : (0 : Int) ≤ (x3 : Int32).toInt), (by omega : (x3 : Int32).toInt ≤ 59)⟩ (ra 18 (by decide) _ _) (fun σ25_11 eσ25_11 Iσ25_11 => ?_)
        have : (σ25_11.2 7).toInt = (σ.2 7).toInt := by rw [eσ25_11]; rfl
        have : (0 : Int) ≤ (σ25_11.2 7).toInt ∧ (σ25_11.2 7).toInt ≤ 60 := Iσ25_11.2.1 7
        unfold fX5_unite_84
        obtain ⟨e_12, he_12⟩ : ∃ e9 : Int32, e9 = (x5 + 1) := ⟨_, rfl⟩
        try have : e_12.toInt = (x5 : Int32).toInt + (1) := by rw [he_12]; exact hs_addk (1) rfl (by omega) (by omega)
        try rw [← he_12]
        exact ih σ25_11 (x3 : Int32) (x4 : Int32) (e_12 : Int32) Iσ25_11 (show 0 ≤ (x3 : Int32).toInt by omega) (show (x3 : Int32).toInt < 60 by omega) (show 0 ≤ (x4 : Int32).toInt by omega) (show (x4 : Int32).toInt < 60 by omega) (show 0 ≤ (e_12 : Int32).toInt by omega) (show (e_12 : Int32).toInt ≤ 60 by omega)  (by omega)
      · have : ¬ (v21_9 : Int32).toInt = (x4 : Int32).toInt := fun z => h_10 (Int32.toInt_inj.mp z)
        unfold fX5_unite_84
        obtain ⟨e_13, he_13⟩ : ∃ e9 : Int32, e9 = (x5 + 1) := ⟨_, rfl⟩
        try have : e_13.toInt = (x5 : Int32).toInt + (1) := by rw [he_13]; exact hs_addk (1) rfl (by omega) (by omega)
        try rw [← he_13]
        exact ih σ (x3 : Int32) (x4 : Int32) (e_13 : Int32) I (show 0 ≤ (x3 : Int32).toInt by omega) (show (x3 : Int32).toInt < 60 by omega) (show 0 ≤ (x4 : Int32).toInt by omega) (show (x4 : Int32).toInt < 60 by omega) (show 0 ≤ (e_13 : Int32).toInt by omega) (show (e_13 : Int32).toInt ≤ 60 by omega)  (by omega)
theorem s_fX5_unite {R : hy_S → Prop} (ra : ∀ j, j ∈ ([18, 19, 21] : List Nat) → ∀ (τ : hy_S) (g : Nat → Int32), R τ → R (hy_sc τ j g)) (ri : ∀ j, j ∈ ([] : List Nat) → ∀ (τ : hy_S) (v : Int32), R τ → R (hy_si τ j v)) (σ : hy_S) (x1 : Int32) (x2 : Int32) {P : hy_S → Int32 → Prop} (I : hc_I R σ) (p0 : 0 ≤ x1.toInt) (p1 : x1.toInt < 60) (p2 : 0 ≤ x2.toInt) (p3 : x2.toInt < 60) (hQ : ∀ (σ9 : hy_S) (v9 : Int32), hc_I R σ9 → 0 ≤ v9.toInt → v9.toInt ≤ 1 → P σ9 v9) : hs_ok2 (fX5_unite σ x1 x2) P := by
  unfold fX5_unite
  show hs_ok _ _
  refine hs_ga (j := 18) I (by omega) (by omega) (fun v1_1 ev1_1 (bv1_1 : (0 : Int) ≤ v1_1.toInt ∧ v1_1.toInt ≤ 59) => ?_)
  refine hs_ga (j := 18) I (by omega) (by omega) (fun v4_2 ev4_2 (bv4_2 : (0 : Int) ≤ v4_2.toInt ∧ v4_2.toInt ≤ 59) => ?_)
  refine hs_ga (j := 18) I (by omega) (by omega) (fun v9_3 ev9_3 (bv9_3 : (0 : Int) ≤ v9_3.toInt ∧ v9_3.toInt ≤ 59) => ?_)
  refine hs_ga (j := 18) I (by omega) (by omega) (fun v12_4 ev12_4 (bv12_4 : (0 : Int) ≤ v12_4.toInt ∧ v12_4.toInt ≤ 59) => ?_)
  obtain ⟨e_5, he_5⟩ : ∃ e9 : Int32, e9 = (if (v4_2 < v1_1) then v4_2 else v1_1) := ⟨_, rfl⟩
  have : e_5.toInt = (v4_2 : Int32).toInt ∨ e_5.toInt = (v1_1 : Int32).toInt := by rw [he_5]; split <;> first | exact Or.inl rfl | exact Or.inr rfl
  try rw [← he_5]
  obtain ⟨e_6, he_6⟩ : ∃ e9 : Int32, e9 = (if (v9_3 < v12_4) then v12_4 else v9_3) := ⟨_, rfl⟩
  have : e_6.toInt = (v12_4 : Int32).toInt ∨ e_6.toInt = (v9_3 : Int32).toInt := by rw [he_6]; split <;> first | exact Or.inl rfl | exact Or.inr rfl
  try rw [← he_6]
  refine hs_ite (fun h_7 => ?_) (fun h_7 => ?_)
  · have : (e_5 : Int32).toInt = (e_6 : Int32).toInt := congrArg Int32.toInt h_7
    exact hs_some (hQ σ (0 : Int32) I (show 0 ≤ (0) by omega) (show (0) ≤ 1 by omega))
  · have : ¬ (e_5 : Int32).toInt = (e_6 : Int32).toInt := fun z => h_7 (Int32.toInt_inj.mp z)
    try rw [← he_5]
    try rw [← he_6]
    refine hs_bd (s_fX5_fit σ e_5 e_6 I (show 0 ≤ (e_5 : Int32).toInt by omega) (show (e_5 : Int32).toInt < 60 by omega) (show 0 ≤ (e_6 : Int32).toInt by omega) (show (e_6 : Int32).toInt < 60 by omega) (fun v19_8  => ?_))
    refine hs_ite (fun h_9 => ?_) (fun h_9 => ?_)
    · have : (v19_8 : Int32).toInt = (0) := congrArg Int32.toInt h_9
      exact hs_some (hQ σ (0 : Int32) I (show 0 ≤ (0) by omega) (show (0) ≤ 1 by omega))
    · have : ¬ (v19_8 : Int32).toInt = (0) := fun z => h_9 (Int32.toInt_inj.mp z)
      try rw [← he_5]
      try rw [← he_6]
      try rw [← he_6]
      have hfu : ((hy_fu : Nat) : Int) = 5000 := rfl
      refine s_fX5_unite_55 (fun j h => ra j (hs_inc (by decide) h)) (fun j h => ri j (hs_inc (by decide) h))  (fun τ_10 v_11 Iτ_10 gv_11_0 gv_11_1 => ?_)  hy_fu σ (e_5 : Int32) (e_6 : Int32) (e_6 : Int32) I (show 0 ≤ (e_5 : Int32).toInt by omega) (show (e_5 : Int32).toInt < 60 by omega) (show 0 ≤ (e_6 : Int32).toInt by omega) (show (e_6 : Int32).toInt < 60 by omega) (show 0 ≤ (e_6 : Int32).toInt by omega) (show (e_6 : Int32).toInt ≤ 60 by omega)  (show 60 - (e_6 : Int32).toInt < ((hy_fu : Nat) : Int) by rw [hfu]; omega)
      exact (hQ τ_10 (v_11 : Int32) Iτ_10 (show 0 ≤ (v_11 : Int32).toInt by omega) (show (v_11 : Int32).toInt ≤ 1 by omega))
theorem s_fX5_allVessels_4 {R : hy_S → Prop} {Q : hy_S × Int32 → Prop} : ∀ (n : Nat) (σ : hy_S) (x1 : Int32) (x2 : Int32), hc_I R σ → 0 ≤ x2.toInt → x2.toInt ≤ 60 → 60 - x2.toInt < (n : Int) → (∀ v9 : Int32, Q (σ, v9)) → hs_ok (fX5_allVessels_4 n σ x1 x2) Q := by
  intro n
  induction n with
  | zero =>
    intro σ x1 x2 I p0 p1  hm hQ
    have : (0 : Int) ≤ (σ.2 7).toInt ∧ (σ.2 7).toInt ≤ 60 := I.2.1 7
    exact absurd hm (by omega)
  | succ n ih =>
    intro σ x1 x2 I p0 p1  hm hQ
    unfold fX5_allVessels_4
    have : (0 : Int) ≤ (σ.2 7).toInt ∧ (σ.2 7).toInt ≤ 60 := I.2.1 7
    refine hs_ite (fun h_1 => ?_) (fun h_1 => ?_)
    · have : ((σ.2 7) : Int32).toInt ≤ (x2 : Int32).toInt := Int32.le_iff_toInt_le.mp h_1
      exact hs_some (hQ (x1 : Int32) )
    · have : ¬ ((σ.2 7) : Int32).toInt ≤ (x2 : Int32).toInt := fun z => h_1 (Int32.le_iff_toInt_le.mpr z)
      refine hs_ga (j := 18) I (by omega) (by omega) (fun v2_2 ev2_2 (bv2_2 : (0 : Int) ≤ v2_2.toInt ∧ v2_2.toInt ≤ 59) => ?_)
      refine hs_ite (fun h_3 => ?_) (fun h_3 => ?_)
      · have : (v2_2 : Int32).toInt = (x2 : Int32).toInt := congrArg Int32.toInt h_3
        unfold fX5_allVessels_25
        obtain ⟨e_4, he_4⟩ : ∃ e9 : Int32, e9 = (x1 + 1) := ⟨_, rfl⟩
        try have : e_4.toInt = (x1 : Int32).toInt + (1) := by rw [he_4]; exact hs_addk (1) rfl (by omega) (by omega)
        try rw [← he_4]
        obtain ⟨e_5, he_5⟩ : ∃ e9 : Int32, e9 = (x2 + 1) := ⟨_, rfl⟩
        try have : e_5.toInt = (x2 : Int32).toInt + (1) := by rw [he_5]; exact hs_addk (1) rfl (by omega) (by omega)
        try rw [← he_5]
        exact ih σ (e_4 : Int32) (e_5 : Int32) I (show 0 ≤ (e_5 : Int32).toInt by omega) (show (e_5 : Int32).toInt ≤ 60 by omega)  (by omega) hQ
      · have : ¬ (v2_2 : Int32).toInt = (x2 : Int32).toInt := fun z => h_3 (Int32.toInt_inj.mp z)
        unfold fX5_allVessels_25
        obtain ⟨e_6, he_6⟩ : ∃ e9 : Int32, e9 = (x2 + 1) := ⟨_, rfl⟩
        try have : e_6.toInt = (x2 : Int32).toInt + (1) := by rw [he_6]; exact hs_addk (1) rfl (by omega) (by omega)
        try rw [← he_6]
        exact ih σ (x1 : Int32) (e_6 : Int32) I (show 0 ≤ (e_6 : Int32).toInt by omega) (show (e_6 : Int32).toInt ≤ 60 by omega)  (by omega) hQ
theorem s_fX5_allVessels {R : hy_S → Prop} (σ : hy_S) {P : hy_S → Int32 → Prop} (I : hc_I R σ) (hQ : ∀ v9 : Int32, P σ v9) : hs_ok2 (fX5_allVessels σ ) P := by
  unfold fX5_allVessels
  show hs_ok _ _
  have hfu : ((hy_fu : Nat) : Int) = 5000 := rfl
  refine s_fX5_allVessels_4   hy_fu σ (0 : Int32) (0 : Int32) I (show 0 ≤ (0) by omega) (show (0) ≤ 60 by omega)  (show 60 - (0) < ((hy_fu : Nat) : Int) by rw [hfu]; omega) (fun v_1  => ?_)
  exact (hQ (v_1 : Int32) )
theorem s_fX5_vesselsWith_4 {R : hy_S → Prop} {Q : hy_S × Int32 → Prop} : ∀ (n : Nat) (σ : hy_S) (x1 : Int32) (x2 : Int32) (x3 : Int32), hc_I R σ → 0 ≤ x3.toInt → x3.toInt ≤ 60 → 60 - x3.toInt < (n : Int) → (∀ v9 : Int32, Q (σ, v9)) → hs_ok (fX5_vesselsWith_4 n σ x1 x2 x3) Q := by
  intro n
  induction n with
  | zero =>
    intro σ x1 x2 x3 I p0 p1  hm hQ
    have : (0 : Int) ≤ (σ.2 7).toInt ∧ (σ.2 7).toInt ≤ 60 := I.2.1 7
    exact absurd hm (by omega)
  | succ n ih =>
    intro σ x1 x2 x3 I p0 p1  hm hQ
    unfold fX5_vesselsWith_4
    have : (0 : Int) ≤ (σ.2 7).toInt ∧ (σ.2 7).toInt ≤ 60 := I.2.1 7
    refine hs_ite (fun h_1 => ?_) (fun h_1 => ?_)
    · have : ((σ.2 7) : Int32).toInt ≤ (x3 : Int32).toInt := Int32.le_iff_toInt_le.mp h_1
      exact hs_some (hQ (x2 : Int32) )
    · have : ¬ ((σ.2 7) : Int32).toInt ≤ (x3 : Int32).toInt := fun z => h_1 (Int32.le_iff_toInt_le.mpr z)
      refine hs_ga (j := 18) I (by omega) (by omega) (fun v2_2 ev2_2 (bv2_2 : (0 : Int) ≤ v2_2.toInt ∧ v2_2.toInt ≤ 59) => ?_)
      refine hs_ite (fun h_3 => ?_) (fun h_3 => ?_)
      · have : (v2_2 : Int32).toInt = (x3 : Int32).toInt := congrArg Int32.toInt h_3
        refine hs_ga (j := 21) I (by omega) (by omega) (fun v6_4 ev6_4 (bv6_4 : (-2147483648 : Int) ≤ v6_4.toInt ∧ v6_4.toInt ≤ 2147483647) => ?_)
        refine hs_ite (fun h_5 => ?_) (fun h_5 => ?_)
        · have : (v6_4 : Int32).toInt = (x1 : Int32).toInt := congrArg Int32.toInt h_5
          unfold fX5_vesselsWith_35
          obtain ⟨e_6, he_6⟩ : ∃ e9 : Int32, e9 = (x2 + 1) := ⟨_, rfl⟩
          try have : e_6.toInt = (x2 : Int32).toInt + (1) := by rw [he_6]; exact hs_addk (1) rfl (by omega) (by omega)
          try rw [← he_6]
          obtain ⟨e_7, he_7⟩ : ∃ e9 : Int32, e9 = (x3 + 1) := ⟨_, rfl⟩
          try have : e_7.toInt = (x3 : Int32).toInt + (1) := by rw [he_7]; exact hs_addk (1) rfl (by omega) (by omega)
          try rw [← he_7]
          exact ih σ (x1 : Int32) (e_6 : Int32) (e_7 : Int32) I (show 0 ≤ (e_7 : Int32).toInt by omega) (show (e_7 : Int32).toInt ≤ 60 by omega)  (by omega) hQ
        · have : ¬ (v6_4 : Int32).toInt = (x1 : Int32).toInt := fun z => h_5 (Int32.toInt_inj.mp z)
          unfold fX5_vesselsWith_35
          obtain ⟨e_8, he_8⟩ : ∃ e9 : Int32, e9 = (x3 + 1) := ⟨_, rfl⟩
          try have : e_8.toInt = (x3 : Int32).toInt + (1) := by rw [he_8]; exact hs_addk (1) rfl (by omega) (by omega)
          try rw [← he_8]
          exact ih σ (x1 : Int32) (x2 : Int32) (e_8 : Int32) I (show 0 ≤ (e_8 : Int32).toInt by omega) (show (e_8 : Int32).toInt ≤ 60 by omega)  (by omega) hQ
      · have : ¬ (v2_2 : Int32).toInt = (x3 : Int32).toInt := fun z => h_3 (Int32.toInt_inj.mp z)
        unfold fX5_vesselsWith_35
        obtain ⟨e_9, he_9⟩ : ∃ e9 : Int32, e9 = (x3 + 1) := ⟨_, rfl⟩
        try have : e_9.toInt = (x3 : Int32).toInt + (1) := by rw [he_9]; exact hs_addk (1) rfl (by omega) (by omega)
        try rw [← he_9]
        exact ih σ (x1 : Int32) (x2 : Int32) (e_9 : Int32) I (show 0 ≤ (e_9 : Int32).toInt by omega) (show (e_9 : Int32).toInt ≤ 60 by omega)  (by omega) hQ
theorem s_fX5_vesselsWith {R : hy_S → Prop} (σ : hy_S) (x1 : Int32) {P : hy_S → Int32 → Prop} (I : hc_I R σ) (hQ : ∀ v9 : Int32, P σ v9) : hs_ok2 (fX5_vesselsWith σ x1) P := by
  unfold fX5_vesselsWith
  show hs_ok _ _
  have hfu : ((hy_fu : Nat) : Int) = 5000 := rfl
  refine s_fX5_vesselsWith_4   hy_fu σ (x1 : Int32) (0 : Int32) (0 : Int32) I (show 0 ≤ (0) by omega) (show (0) ≤ 60 by omega)  (show 60 - (0) < ((hy_fu : Nat) : Int) by rw [hfu]; omega) (fun v_1  => ?_)
  exact (hQ (v_1 : Int32) )
theorem s_fX7_put_3 {R : hy_S → Prop} (ra : ∀ j, j ∈ ([0] : List Nat) → ∀ (τ : hy_S) (g : Nat → Int32), R τ → R (hy_sc τ j g)) (ri : ∀ j, j ∈ ([2] : List Nat) → ∀ (τ : hy_S) (v : Int32), R τ → R (hy_si τ j v)) (g : Int) {Q : hy_S × Int32 → Prop} (hQ : ∀ (σ9 : hy_S) (v9 : Int32), hc_I R σ9 → (σ9.2 2).toInt = g + 4 → Q (σ9, v9)) : ∀ (n : Nat) (σ : hy_S) (x1 : Int32) (x2 : Int32), hc_I R σ → 8 * (σ.2 2).toInt + x2.toInt = 8 * g + 24 → -8 ≤ x2.toInt → x2.toInt ≤ 24 → 0 ≤ g → g ≤ 396 → x2.toInt + 8 < (n : Int) → hs_ok (fX7_put_3 n σ x1 x2) Q := by
  intro n
  induction n with
  | zero =>
    intro σ x1 x2 I p0 p1 p2 p3 p4  hm
    have : (0 : Int) ≤ (σ.2 2).toInt ∧ (σ.2 2).toInt ≤ 400 := I.2.1 2
    exact absurd hm (by omega)
  | succ n ih =>
    intro σ x1 x2 I p0 p1 p2 p3 p4  hm
    unfold fX7_put_3
    have : (0 : Int) ≤ (σ.2 2).toInt ∧ (σ.2 2).toInt ≤ 400 := I.2.1 2
    refine hs_ite (fun h_1 => ?_) (fun h_1 => ?_)
    · have : (x2 : Int32).toInt < (0) := Int32.lt_iff_toInt_lt.mp h_1
      exact hs_some (hQ σ (0 : Int32) I (show (σ.2 2).toInt = g + 4 by omega))
    · have : ¬ (x2 : Int32).toInt < (0) := fun z => h_1 (Int32.lt_iff_toInt_lt.mpr z)
      refine hs_pa (idx := (σ.2 2)) (v := _) I (by omega) (by omega) (hs_any _) (ra 0 (by decide) _ _) (fun σ2_2 eσ2_2 Iσ2_2 => ?_)
      have : (σ2_2.2 2).toInt = (σ.2 2).toInt := by rw [eσ2_2]; rfl
      have : (0 : Int) ≤ (σ2_2.2 2).toInt ∧ (σ2_2.2 2).toInt ≤ 400 := Iσ2_2.2.1 2
      obtain ⟨e_3, he_3⟩ : ∃ e9 : Int32, e9 = ((σ2_2.2 2) + 1) := ⟨_, rfl⟩
      try have : e_3.toInt = ((σ2_2.2 2) : Int32).toInt + (1) := by rw [he_3]; exact hs_addk (1) rfl (by omega) (by omega)
      try rw [← he_3]
      refine hs_pf (v := e_3) Iσ2_2 ⟨(by omega : (0 : Int) ≤ (e_3 : Int32).toInt), (by omega : (e_3 : Int32).toInt ≤ 400)⟩ (ri 2 (by decide) _ _) (fun σ5_4 eσ5_4 Iσ5_4 => ?_)
      have : (σ5_4.2 2).toInt = (e_3 : Int32).toInt := by rw [eσ5_4]; rfl
      have : (0 : Int) ≤ (σ5_4.2 2).toInt ∧ (σ5_4.2 2).toInt ≤ 400 := Iσ5_4.2.1 2
      obtain ⟨e_5, he_5⟩ : ∃ e9 : Int32, e9 = (x2 + (-8)) := ⟨_, rfl⟩
      try have : e_5.toInt = (x2 : Int32).toInt + (-8) := by rw [he_5]; exact hs_addk (-8) rfl (by omega) (by omega)
      try rw [← he_5]
      exact ih σ5_4 (x1 : Int32) (e_5 : Int32) Iσ5_4 (show 8 * (σ5_4.2 2).toInt + (e_5 : Int32).toInt = 8 * g + 24 by omega) (show -8 ≤ (e_5 : Int32).toInt by omega) (show (e_5 : Int32).toInt ≤ 24 by omega) (show 0 ≤ g by omega) (show g ≤ 396 by omega)  (by omega)
theorem s_fX7_put {R : hy_S → Prop} (ra : ∀ j, j ∈ ([0] : List Nat) → ∀ (τ : hy_S) (g : Nat → Int32), R τ → R (hy_sc τ j g)) (ri : ∀ j, j ∈ ([2] : List Nat) → ∀ (τ : hy_S) (v : Int32), R τ → R (hy_si τ j v)) (σ : hy_S) (x1 : Int32) {P : hy_S → Int32 → Prop} (I : hc_I R σ) (p0 : (σ.2 2).toInt ≤ 396) (hQ : ∀ (σ9 : hy_S) (v9 : Int32), hc_I R σ9 → (σ9.2 2).toInt = (σ.2 2).toInt + 4 → P σ9 v9) : hs_ok2 (fX7_put σ x1) P := by
  unfold fX7_put
  show hs_ok _ _
  have : (0 : Int) ≤ (σ.2 2).toInt ∧ (σ.2 2).toInt ≤ 400 := I.2.1 2
  have hfu : ((hy_fu : Nat) : Int) = 5000 := rfl
  refine s_fX7_put_3 (fun j h => ra j (hs_inc (by decide) h)) (fun j h => ri j (hs_inc (by decide) h)) ((σ.2 2).toInt) (fun τ_1 v_2 Iτ_1 gv_2_0 => ?_)  hy_fu σ (x1 : Int32) (24 : Int32) I (show 8 * (σ.2 2).toInt + (24) = 8 * ((σ.2 2).toInt) + 24 by omega) (show -8 ≤ (24) by omega) (show (24) ≤ 24 by omega) (show 0 ≤ ((σ.2 2).toInt) by omega) (show ((σ.2 2).toInt) ≤ 396 by omega)  (show (24) + 8 < ((hy_fu : Nat) : Int) by rw [hfu]; omega)
  have : (0 : Int) ≤ (τ_1.2 2).toInt ∧ (τ_1.2 2).toInt ≤ 400 := Iτ_1.2.1 2
  exact (hQ τ_1 (v_2 : Int32) Iτ_1 (show (τ_1.2 2).toInt = (σ.2 2).toInt + 4 by omega))
theorem s_fX7_append {R : hy_S → Prop} (ra : ∀ j, j ∈ ([0] : List Nat) → ∀ (τ : hy_S) (g : Nat → Int32), R τ → R (hy_sc τ j g)) (ri : ∀ j, j ∈ ([2] : List Nat) → ∀ (τ : hy_S) (v : Int32), R τ → R (hy_si τ j v)) (σ : hy_S) (x1 : Int32) (x2 : Int32) (x3 : Int32) (x4 : Int32) (x5 : Int32) {P : hy_S → Int32 → Prop} (I : hc_I R σ) (hQ : ∀ (σ9 : hy_S) (v9 : Int32), hc_I R σ9 → ((σ.2 2).toInt + 20 ≤ 400 ∧ (σ9.2 2).toInt = (σ.2 2).toInt + 20 ∧ v9.toInt = (σ.2 2).toInt + 20) ∨ (400 < (σ.2 2).toInt + 20 ∧ (σ9.2 2).toInt = (σ.2 2).toInt ∧ v9.toInt = -1) → P σ9 v9) : hs_ok2 (fX7_append σ x1 x2 x3 x4 x5) P := by
  unfold fX7_append
  show hs_ok _ _
  have : (0 : Int) ≤ (σ.2 2).toInt ∧ (σ.2 2).toInt ≤ 400 := I.2.1 2
  obtain ⟨e_1, he_1⟩ : ∃ e9 : Int32, e9 = ((σ.2 2) + 20) := ⟨_, rfl⟩
  try have : e_1.toInt = ((σ.2 2) : Int32).toInt + (20) := by rw [he_1]; exact hs_addk (20) rfl (by omega) (by omega)
  try rw [← he_1]
  refine hs_ite (fun h_2 => ?_) (fun h_2 => ?_)
  · have : (e_1 : Int32).toInt ≤ (400) := Int32.le_iff_toInt_le.mp h_2
    refine hs_bd (s_fX7_put (fun j h => ra j (hs_inc (by decide) h)) (fun j h => ri j (hs_inc (by decide) h)) σ x1 I (show (σ.2 2).toInt ≤ 396 by omega) (fun σ2_4 v3_3 Iσ2_4 (gv3_3_0 : (σ2_4.2 2).toInt = (σ.2 2).toInt + 4) => ?_))
    have : (0 : Int) ≤ (σ2_4.2 2).toInt ∧ (σ2_4.2 2).toInt ≤ 400 := Iσ2_4.2.1 2
    refine hs_bd (s_fX7_put (fun j h => ra j (hs_inc (by decide) h)) (fun j h => ri j (hs_inc (by decide) h)) σ2_4 x2 Iσ2_4 (show (σ2_4.2 2).toInt ≤ 396 by omega) (fun σ5_6 v6_5 Iσ5_6 (gv6_5_0 : (σ5_6.2 2).toInt = (σ2_4.2 2).toInt + 4) => ?_))
    have : (0 : Int) ≤ (σ5_6.2 2).toInt ∧ (σ5_6.2 2).toInt ≤ 400 := Iσ5_6.2.1 2
    refine hs_bd (s_fX7_put (fun j h => ra j (hs_inc (by decide) h)) (fun j h => ri j (hs_inc (by decide) h)) σ5_6 x3 Iσ5_6 (show (σ5_6.2 2).toInt ≤ 396 by omega) (fun σ8_8 v9_7 Iσ8_8 (gv9_7_0 : (σ8_8.2 2).toInt = (σ5_6.2 2).toInt + 4) => ?_))
    have : (0 : Int) ≤ (σ8_8.2 2).toInt ∧ (σ8_8.2 2).toInt ≤ 400 := Iσ8_8.2.1 2
    refine hs_bd (s_fX7_put (fun j h => ra j (hs_inc (by decide) h)) (fun j h => ri j (hs_inc (by decide) h)) σ8_8 x4 Iσ8_8 (show (σ8_8.2 2).toInt ≤ 396 by omega) (fun σ11_10 v12_9 Iσ11_10 (gv12_9_0 : (σ11_10.2 2).toInt = (σ8_8.2 2).toInt + 4) => ?_))
    have : (0 : Int) ≤ (σ11_10.2 2).toInt ∧ (σ11_10.2 2).toInt ≤ 400 := Iσ11_10.2.1 2
    refine hs_bd (s_fX7_put (fun j h => ra j (hs_inc (by decide) h)) (fun j h => ri j (hs_inc (by decide) h)) σ11_10 x5 Iσ11_10 (show (σ11_10.2 2).toInt ≤ 396 by omega) (fun σ14_12 v15_11 Iσ14_12 (gv15_11_0 : (σ14_12.2 2).toInt = (σ11_10.2 2).toInt + 4) => ?_))
    have : (0 : Int) ≤ (σ14_12.2 2).toInt ∧ (σ14_12.2 2).toInt ≤ 400 := Iσ14_12.2.1 2
    exact hs_some (hQ σ14_12 ((σ14_12.2 2) : Int32) Iσ14_12 (show ((σ.2 2).toInt + 20 ≤ 400 ∧ (σ14_12.2 2).toInt = (σ.2 2).toInt + 20 ∧ ((σ14_12.2 2) : Int32).toInt = (σ.2 2).toInt + 20) ∨ (400 < (σ.2 2).toInt + 20 ∧ (σ14_12.2 2).toInt = (σ.2 2).toInt ∧ ((σ14_12.2 2) : Int32).toInt = -1) by omega))
  · have : ¬ (e_1 : Int32).toInt ≤ (400) := fun z => h_2 (Int32.le_iff_toInt_le.mpr z)
    exact hs_some (hQ σ ((-1) : Int32) I (show ((σ.2 2).toInt + 20 ≤ 400 ∧ (σ.2 2).toInt = (σ.2 2).toInt + 20 ∧ (-1) = (σ.2 2).toInt + 20) ∨ (400 < (σ.2 2).toInt + 20 ∧ (σ.2 2).toInt = (σ.2 2).toInt ∧ (-1) = -1) by omega))
theorem s_fX7_keepFirst {R : hy_S → Prop} (ra : ∀ j, j ∈ ([] : List Nat) → ∀ (τ : hy_S) (g : Nat → Int32), R τ → R (hy_sc τ j g)) (ri : ∀ j, j ∈ ([2] : List Nat) → ∀ (τ : hy_S) (v : Int32), R τ → R (hy_si τ j v)) (σ : hy_S) (x1 : Int32) {P : hy_S → Int32 → Prop} (I : hc_I R σ) (hQ : ∀ (σ9 : hy_S) (v9 : Int32), hc_I R σ9 → 0 ≤ v9.toInt → v9.toInt ≤ 1 → (0 ≤ x1.toInt ∧ x1.toInt ≤ (σ.2 2).toInt ∧ (σ9.2 2).toInt = x1.toInt ∧ v9.toInt = 1) ∨ ((x1.toInt < 0 ∨ (σ.2 2).toInt < x1.toInt) ∧ (σ9.2 2).toInt = (σ.2 2).toInt ∧ v9.toInt = 0) → P σ9 v9) : hs_ok2 (fX7_keepFirst σ x1) P := by
  unfold fX7_keepFirst
  show hs_ok _ _
  have : (0 : Int) ≤ (σ.2 2).toInt ∧ (σ.2 2).toInt ≤ 400 := I.2.1 2
  refine hs_ite (fun h_1 => ?_) (fun h_1 => ?_)
  · have : (x1 : Int32).toInt < (0) := Int32.lt_iff_toInt_lt.mp h_1
    exact hs_some (hQ σ (0 : Int32) I (show 0 ≤ (0) by omega) (show (0) ≤ 1 by omega) (show (0 ≤ x1.toInt ∧ x1.toInt ≤ (σ.2 2).toInt ∧ (σ.2 2).toInt = x1.toInt ∧ (0) = 1) ∨ ((x1.toInt < 0 ∨ (σ.2 2).toInt < x1.toInt) ∧ (σ.2 2).toInt = (σ.2 2).toInt ∧ (0) = 0) by omega))
  · have : ¬ (x1 : Int32).toInt < (0) := fun z => h_1 (Int32.lt_iff_toInt_lt.mpr z)
    refine hs_ite (fun h_2 => ?_) (fun h_2 => ?_)
    · have : (x1 : Int32).toInt ≤ ((σ.2 2) : Int32).toInt := Int32.le_iff_toInt_le.mp h_2
      refine hs_pf (v := x1) I ⟨(by omega : (0 : Int) ≤ (x1 : Int32).toInt), (by omega : (x1 : Int32).toInt ≤ 400)⟩ (ri 2 (by decide) _ _) (fun σ3_3 eσ3_3 Iσ3_3 => ?_)
      have : (σ3_3.2 2).toInt = (x1 : Int32).toInt := by rw [eσ3_3]; rfl
      have : (0 : Int) ≤ (σ3_3.2 2).toInt ∧ (σ3_3.2 2).toInt ≤ 400 := Iσ3_3.2.1 2
      exact hs_some (hQ σ3_3 (1 : Int32) Iσ3_3 (show 0 ≤ (1) by omega) (show (1) ≤ 1 by omega) (show (0 ≤ x1.toInt ∧ x1.toInt ≤ (σ.2 2).toInt ∧ (σ3_3.2 2).toInt = x1.toInt ∧ (1) = 1) ∨ ((x1.toInt < 0 ∨ (σ.2 2).toInt < x1.toInt) ∧ (σ3_3.2 2).toInt = (σ.2 2).toInt ∧ (1) = 0) by omega))
    · have : ¬ (x1 : Int32).toInt ≤ ((σ.2 2) : Int32).toInt := fun z => h_2 (Int32.le_iff_toInt_le.mpr z)
      exact hs_some (hQ σ (0 : Int32) I (show 0 ≤ (0) by omega) (show (0) ≤ 1 by omega) (show (0 ≤ x1.toInt ∧ x1.toInt ≤ (σ.2 2).toInt ∧ (σ.2 2).toInt = x1.toInt ∧ (0) = 1) ∨ ((x1.toInt < 0 ∨ (σ.2 2).toInt < x1.toInt) ∧ (σ.2 2).toInt = (σ.2 2).toInt ∧ (0) = 0) by omega))
theorem s_fX7_clear {R : hy_S → Prop} (ra : ∀ j, j ∈ ([] : List Nat) → ∀ (τ : hy_S) (g : Nat → Int32), R τ → R (hy_sc τ j g)) (ri : ∀ j, j ∈ ([2] : List Nat) → ∀ (τ : hy_S) (v : Int32), R τ → R (hy_si τ j v)) (σ : hy_S) {P : hy_S → Int32 → Prop} (I : hc_I R σ) (hQ : ∀ (σ9 : hy_S) (v9 : Int32), hc_I R σ9 → (σ9.2 2).toInt = 0 → P σ9 v9) : hs_ok2 (fX7_clear σ ) P := by
  unfold fX7_clear
  show hs_ok _ _
  have : (0 : Int) ≤ (σ.2 2).toInt ∧ (σ.2 2).toInt ≤ 400 := I.2.1 2
  refine hs_pf (v := 0) I ⟨by decide, by decide⟩ (ri 2 (by decide) _ _) (fun σ1_1 eσ1_1 Iσ1_1 => ?_)
  have : (σ1_1.2 2).toInt = (0) := by rw [eσ1_1]; rfl
  have : (0 : Int) ≤ (σ1_1.2 2).toInt ∧ (σ1_1.2 2).toInt ≤ 400 := Iσ1_1.2.1 2
  exact hs_some (hQ σ1_1 (0 : Int32) Iσ1_1 (show (σ1_1.2 2).toInt = 0 by omega))
theorem s_fX7_endsAt {R : hy_S → Prop} (σ : hy_S) (x1 : Int32) {P : hy_S → Int32 → Prop} (I : hc_I R σ) (hQ : ∀ v9 : Int32, P σ v9) : hs_ok2 (fX7_endsAt σ x1) P := by
  unfold fX7_endsAt
  show hs_ok _ _
  have : (0 : Int) ≤ (σ.2 2).toInt ∧ (σ.2 2).toInt ≤ 400 := I.2.1 2
  refine hs_ite (fun h_1 => ?_) (fun h_1 => ?_)
  · have : (x1 : Int32).toInt < ((σ.2 2) : Int32).toInt := Int32.lt_iff_toInt_lt.mp h_1
    exact hs_some (hQ (0 : Int32) )
  · have : ¬ (x1 : Int32).toInt < ((σ.2 2) : Int32).toInt := fun z => h_1 (Int32.lt_iff_toInt_lt.mpr z)
    exact hs_some (hQ (1 : Int32) )
theorem s_fX8_setAll_a_2 {R : hy_S → Prop} (ra : ∀ j, j ∈ ([28] : List Nat) → ∀ (τ : hy_S) (g : Nat → Int32), R τ → R (hy_sc τ j g)) (ri : ∀ j, j ∈ ([] : List Nat) → ∀ (τ : hy_S) (v : Int32), R τ → R (hy_si τ j v)) {Q : hy_S × Int32 → Prop} (hQ : ∀ (σ9 : hy_S) (v9 : Int32), hc_I R σ9 → Q (σ9, v9)) : ∀ (n : Nat) (σ : hy_S) (x1 : Int32) (x2 : Int32), hc_I R σ → 0 ≤ x2.toInt → x2.toInt ≤ 13 → 13 - x2.toInt < (n : Int) → hs_ok (fX8_setAll_a_2 n σ x1 x2) Q := by
  intro n
  induction n with
  | zero =>
    intro σ x1 x2 I p0 p1  hm
    exact absurd hm (by omega)
  | succ n ih =>
    intro σ x1 x2 I p0 p1  hm
    unfold fX8_setAll_a_2
    refine hs_ite (fun h_1 => ?_) (fun h_1 => ?_)
    · have : (13) ≤ (x2 : Int32).toInt := Int32.le_iff_toInt_le.mp h_1
      exact hs_some (hQ σ (0 : Int32) I )
    · have : ¬ (13) ≤ (x2 : Int32).toInt := fun z => h_1 (Int32.le_iff_toInt_le.mpr z)
      refine hs_pa (idx := x2) (v := _) I (by omega) (by omega) (hs_any _) (ra 28 (by decide) _ _) (fun σ2_2 eσ2_2 Iσ2_2 => ?_)
      obtain ⟨e_3, he_3⟩ : ∃ e9 : Int32, e9 = (x2 + 1) := ⟨_, rfl⟩
      try have : e_3.toInt = (x2 : Int32).toInt + (1) := by rw [he_3]; exact hs_addk (1) rfl (by omega) (by omega)
      try rw [← he_3]
      exact ih σ2_2 (x1 : Int32) (e_3 : Int32) Iσ2_2 (show 0 ≤ (e_3 : Int32).toInt by omega) (show (e_3 : Int32).toInt ≤ 13 by omega)  (by omega)
theorem s_fX8_setAll_a {R : hy_S → Prop} (ra : ∀ j, j ∈ ([28] : List Nat) → ∀ (τ : hy_S) (g : Nat → Int32), R τ → R (hy_sc τ j g)) (ri : ∀ j, j ∈ ([] : List Nat) → ∀ (τ : hy_S) (v : Int32), R τ → R (hy_si τ j v)) (σ : hy_S) (x1 : Int32) {P : hy_S → Int32 → Prop} (I : hc_I R σ) (hQ : ∀ (σ9 : hy_S) (v9 : Int32), hc_I R σ9 → P σ9 v9) : hs_ok2 (fX8_setAll_a σ x1) P := by
  unfold fX8_setAll_a
  show hs_ok _ _
  have hfu : ((hy_fu : Nat) : Int) = 5000 := rfl
  refine s_fX8_setAll_a_2 (fun j h => ra j (hs_inc (by decide) h)) (fun j h => ri j (hs_inc (by decide) h))  (fun τ_1 v_2 Iτ_1  => ?_)  hy_fu σ (x1 : Int32) (0 : Int32) I (show 0 ≤ (0) by omega) (show (0) ≤ 13 by omega)  (show 13 - (0) < ((hy_fu : Nat) : Int) by rw [hfu]; omega)
  exact (hQ τ_1 (v_2 : Int32) Iτ_1 )
theorem s_fX8_setAll_n_2 {R : hy_S → Prop} (ra : ∀ j, j ∈ ([29] : List Nat) → ∀ (τ : hy_S) (g : Nat → Int32), R τ → R (hy_sc τ j g)) (ri : ∀ j, j ∈ ([] : List Nat) → ∀ (τ : hy_S) (v : Int32), R τ → R (hy_si τ j v)) {Q : hy_S × Int32 → Prop} (hQ : ∀ (σ9 : hy_S) (v9 : Int32), hc_I R σ9 → Q (σ9, v9)) : ∀ (n : Nat) (σ : hy_S) (x1 : Int32) (x2 : Int32), hc_I R σ → 0 ≤ x2.toInt → x2.toInt ≤ 13 → 13 - x2.toInt < (n : Int) → hs_ok (fX8_setAll_n_2 n σ x1 x2) Q := by
  intro n
  induction n with
  | zero =>
    intro σ x1 x2 I p0 p1  hm
    exact absurd hm (by omega)
  | succ n ih =>
    intro σ x1 x2 I p0 p1  hm
    unfold fX8_setAll_n_2
    refine hs_ite (fun h_1 => ?_) (fun h_1 => ?_)
    · have : (13) ≤ (x2 : Int32).toInt := Int32.le_iff_toInt_le.mp h_1
      exact hs_some (hQ σ (0 : Int32) I )
    · have : ¬ (13) ≤ (x2 : Int32).toInt := fun z => h_1 (Int32.le_iff_toInt_le.mpr z)
      refine hs_pa (idx := x2) (v := _) I (by omega) (by omega) (hs_any _) (ra 29 (by decide) _ _) (fun σ2_2 eσ2_2 Iσ2_2 => ?_)
      obtain ⟨e_3, he_3⟩ : ∃ e9 : Int32, e9 = (x2 + 1) := ⟨_, rfl⟩
      try have : e_3.toInt = (x2 : Int32).toInt + (1) := by rw [he_3]; exact hs_addk (1) rfl (by omega) (by omega)
      try rw [← he_3]
      exact ih σ2_2 (x1 : Int32) (e_3 : Int32) Iσ2_2 (show 0 ≤ (e_3 : Int32).toInt by omega) (show (e_3 : Int32).toInt ≤ 13 by omega)  (by omega)
theorem s_fX8_setAll_n {R : hy_S → Prop} (ra : ∀ j, j ∈ ([29] : List Nat) → ∀ (τ : hy_S) (g : Nat → Int32), R τ → R (hy_sc τ j g)) (ri : ∀ j, j ∈ ([] : List Nat) → ∀ (τ : hy_S) (v : Int32), R τ → R (hy_si τ j v)) (σ : hy_S) (x1 : Int32) {P : hy_S → Int32 → Prop} (I : hc_I R σ) (hQ : ∀ (σ9 : hy_S) (v9 : Int32), hc_I R σ9 → P σ9 v9) : hs_ok2 (fX8_setAll_n σ x1) P := by
  unfold fX8_setAll_n
  show hs_ok _ _
  have hfu : ((hy_fu : Nat) : Int) = 5000 := rfl
  refine s_fX8_setAll_n_2 (fun j h => ra j (hs_inc (by decide) h)) (fun j h => ri j (hs_inc (by decide) h))  (fun τ_1 v_2 Iτ_1  => ?_)  hy_fu σ (x1 : Int32) (0 : Int32) I (show 0 ≤ (0) by omega) (show (0) ≤ 13 by omega)  (show 13 - (0) < ((hy_fu : Nat) : Int) by rw [hfu]; omega)
  exact (hQ τ_1 (v_2 : Int32) Iτ_1 )
theorem s_fX8_add {R : hy_S → Prop} (ra : ∀ j, j ∈ ([22, 23, 24, 25, 26] : List Nat) → ∀ (τ : hy_S) (g : Nat → Int32), R τ → R (hy_sc τ j g)) (ri : ∀ j, j ∈ ([8] : List Nat) → ∀ (τ : hy_S) (v : Int32), R τ → R (hy_si τ j v)) (σ : hy_S) (x1 : Int32) (x2 : Int32) (x3 : Int32) (x4 : Int32) {P : hy_S → Int32 → Prop} (I : hc_I R σ) (p0 : (σ.2 8).toInt < 60) (p1 : 0 ≤ x1.toInt) (p2 : x1.toInt ≤ 12) (p3 : 0 ≤ x2.toInt) (p4 : x2.toInt ≤ 12) (hQ : ∀ (σ9 : hy_S) (v9 : Int32), hc_I R σ9 → (σ9.2 8).toInt = (σ.2 8).toInt + 1 → v9.toInt = (σ.2 8).toInt → P σ9 v9) : hs_ok2 (fX8_add σ x1 x2 x3 x4) P := by
  unfold fX8_add
  show hs_ok _ _
  have : (0 : Int) ≤ (σ.2 8).toInt ∧ (σ.2 8).toInt ≤ 60 := I.2.1 8
  refine hs_pa (idx := (σ.2 8)) (v := x1) I (by omega) (by omega) ⟨(by omega : (0 : Int) ≤ (x1 : Int32).toInt), (by omega : (x1 : Int32).toInt ≤ 12)⟩ (ra 22 (by decide) _ _) (fun σ1_1 eσ1_1 Iσ1_1 => ?_)
  have : (σ1_1.2 8).toInt = (σ.2 8).toInt := by rw [eσ1_1]; rfl
  have : (0 : Int) ≤ (σ1_1.2 8).toInt ∧ (σ1_1.2 8).toInt ≤ 60 := Iσ1_1.2.1 8
  refine hs_pa (idx := (σ1_1.2 8)) (v := x2) Iσ1_1 (by omega) (by omega) ⟨(by omega : (0 : Int) ≤ (x2 : Int32).toInt), (by omega : (x2 : Int32).toInt ≤ 12)⟩ (ra 23 (by decide) _ _) (fun σ4_2 eσ4_2 Iσ4_2 => ?_)
  have : (σ4_2.2 8).toInt = (σ1_1.2 8).toInt := by rw [eσ4_2]; rfl
  have : (0 : Int) ≤ (σ4_2.2 8).toInt ∧ (σ4_2.2 8).toInt ≤ 60 := Iσ4_2.2.1 8
  refine hs_pa (idx := (σ4_2.2 8)) (v := _) Iσ4_2 (by omega) (by omega) (hs_any _) (ra 24 (by decide) _ _) (fun σ7_3 eσ7_3 Iσ7_3 => ?_)
  have : (σ7_3.2 8).toInt = (σ4_2.2 8).toInt := by rw [eσ7_3]; rfl
  have : (0 : Int) ≤ (σ7_3.2 8).toInt ∧ (σ7_3.2 8).toInt ≤ 60 := Iσ7_3.2.1 8
  refine hs_pa (idx := (σ7_3.2 8)) (v := _) Iσ7_3 (by omega) (by omega) (hs_any _) (ra 25 (by decide) _ _) (fun σ10_4 eσ10_4 Iσ10_4 => ?_)
  have : (σ10_4.2 8).toInt = (σ7_3.2 8).toInt := by rw [eσ10_4]; rfl
  have : (0 : Int) ≤ (σ10_4.2 8).toInt ∧ (σ10_4.2 8).toInt ≤ 60 := Iσ10_4.2.1 8
  refine hs_pa (idx := (σ10_4.2 8)) (v := _) Iσ10_4 (by omega) (by omega) (hs_any _) (ra 26 (by decide) _ _) (fun σ13_5 eσ13_5 Iσ13_5 => ?_)
  have : (σ13_5.2 8).toInt = (σ10_4.2 8).toInt := by rw [eσ13_5]; rfl
  have : (0 : Int) ≤ (σ13_5.2 8).toInt ∧ (σ13_5.2 8).toInt ≤ 60 := Iσ13_5.2.1 8
  obtain ⟨e_6, he_6⟩ : ∃ e9 : Int32, e9 = ((σ13_5.2 8) + 1) := ⟨_, rfl⟩
  try have : e_6.toInt = ((σ13_5.2 8) : Int32).toInt + (1) := by rw [he_6]; exact hs_addk (1) rfl (by omega) (by omega)
  try rw [← he_6]
  refine hs_pf (v := e_6) Iσ13_5 ⟨(by omega : (0 : Int) ≤ (e_6 : Int32).toInt), (by omega : (e_6 : Int32).toInt ≤ 60)⟩ (ri 8 (by decide) _ _) (fun σ16_7 eσ16_7 Iσ16_7 => ?_)
  have : (σ16_7.2 8).toInt = (e_6 : Int32).toInt := by rw [eσ16_7]; rfl
  have : (0 : Int) ≤ (σ16_7.2 8).toInt ∧ (σ16_7.2 8).toInt ≤ 60 := Iσ16_7.2.1 8
  obtain ⟨e_8, he_8⟩ : ∃ e9 : Int32, e9 = ((σ16_7.2 8) - 1) := ⟨_, rfl⟩
  try have : e_8.toInt = ((σ16_7.2 8) : Int32).toInt - (1) := by rw [he_8]; exact hs_subk (1) rfl (by omega) (by omega)
  try rw [← he_8]
  exact hs_some (hQ σ16_7 (e_8 : Int32) Iσ16_7 (show (σ16_7.2 8).toInt = (σ.2 8).toInt + 1 by omega) (show (e_8 : Int32).toInt = (σ.2 8).toInt by omega))
theorem s_fX8_takeBack {R : hy_S → Prop} (ra : ∀ j, j ∈ ([26] : List Nat) → ∀ (τ : hy_S) (g : Nat → Int32), R τ → R (hy_sc τ j g)) (ri : ∀ j, j ∈ ([] : List Nat) → ∀ (τ : hy_S) (v : Int32), R τ → R (hy_si τ j v)) (σ : hy_S) (x1 : Int32) (x2 : Int32) {P : hy_S → Int32 → Prop} (I : hc_I R σ) (p0 : 0 ≤ x1.toInt) (p1 : x1.toInt < 60) (hQ : ∀ (σ9 : hy_S) (v9 : Int32), hc_I R σ9 → 0 ≤ v9.toInt → v9.toInt ≤ 1 → P σ9 v9) : hs_ok2 (fX8_takeBack σ x1 x2) P := by
  unfold fX8_takeBack
  show hs_ok _ _
  refine hs_ga (j := 26) I (by omega) (by omega) (fun v1_1 ev1_1 (bv1_1 : (-2147483648 : Int) ≤ v1_1.toInt ∧ v1_1.toInt ≤ 2147483647) => ?_)
  refine hs_ite (fun h_2 => ?_) (fun h_2 => ?_)
  · have : (v1_1 : Int32).toInt = (-1) := congrArg Int32.toInt h_2
    refine hs_pa (idx := x1) (v := _) I (by omega) (by omega) (hs_any _) (ra 26 (by decide) _ _) (fun σ5_3 eσ5_3 Iσ5_3 => ?_)
    exact hs_some (hQ σ5_3 (1 : Int32) Iσ5_3 (show 0 ≤ (1) by omega) (show (1) ≤ 1 by omega))
  · have : ¬ (v1_1 : Int32).toInt = (-1) := fun z => h_2 (Int32.toInt_inj.mp z)
    exact hs_some (hQ σ (0 : Int32) I (show 0 ≤ (0) by omega) (show (0) ≤ 1 by omega))
theorem s_fX8_recall_7 {R : hy_S → Prop} (ra : ∀ j, j ∈ ([27] : List Nat) → ∀ (τ : hy_S) (g : Nat → Int32), R τ → R (hy_sc τ j g)) (ri : ∀ j, j ∈ ([9] : List Nat) → ∀ (τ : hy_S) (v : Int32), R τ → R (hy_si τ j v)) {Q : hy_S × Int32 → Prop} (hQ : ∀ (σ9 : hy_S) (v9 : Int32), hc_I R σ9 → Q (σ9, v9)) : ∀ (n : Nat) (σ : hy_S) (x1 : Int32) (x2 : Int32), hc_I R σ → 0 ≤ x2.toInt → x2.toInt ≤ 60 → (σ.2 9).toInt ≤ x2.toInt → 60 - x2.toInt < (n : Int) → hs_ok (fX8_recall_7 n σ x1 x2) Q := by
  intro n
  induction n with
  | zero =>
    intro σ x1 x2 I p0 p1 p2  hm
    have : (0 : Int) ≤ (σ.2 8).toInt ∧ (σ.2 8).toInt ≤ 60 := I.2.1 8
    have : (0 : Int) ≤ (σ.2 9).toInt ∧ (σ.2 9).toInt ≤ 60 := I.2.1 9
    exact absurd hm (by omega)
  | succ n ih =>
    intro σ x1 x2 I p0 p1 p2  hm
    unfold fX8_recall_7
    have : (0 : Int) ≤ (σ.2 8).toInt ∧ (σ.2 8).toInt ≤ 60 := I.2.1 8
    have : (0 : Int) ≤ (σ.2 9).toInt ∧ (σ.2 9).toInt ≤ 60 := I.2.1 9
    refine hs_ite (fun h_1 => ?_) (fun h_1 => ?_)
    · have : ((σ.2 8) : Int32).toInt ≤ (x2 : Int32).toInt := Int32.le_iff_toInt_le.mp h_1
      exact hs_some (hQ σ (0 : Int32) I )
    · have : ¬ ((σ.2 8) : Int32).toInt ≤ (x2 : Int32).toInt := fun z => h_1 (Int32.le_iff_toInt_le.mpr z)
      refine hs_ga (j := 26) I (by omega) (by omega) (fun v2_2 ev2_2 (bv2_2 : (-2147483648 : Int) ≤ v2_2.toInt ∧ v2_2.toInt ≤ 2147483647) => ?_)
      refine hs_ite (fun h_3 => ?_) (fun h_3 => ?_)
      · have : (v2_2 : Int32).toInt = (-1) := congrArg Int32.toInt h_3
        unfold fX8_recall_35
        unfold fX8_recall_40
        refine hs_ga (j := 25) I (by omega) (by omega) (fun v1_4 ev1_4 (bv1_4 : (-2147483648 : Int) ≤ v1_4.toInt ∧ v1_4.toInt ≤ 2147483647) => ?_)
        refine hs_ite (fun h_5 => ?_) (fun h_5 => ?_)
        · have : (x1 : Int32).toInt < (v1_4 : Int32).toInt := Int32.lt_iff_toInt_lt.mp h_5
          unfold fX8_recall_75
          obtain ⟨e_6, he_6⟩ : ∃ e9 : Int32, e9 = (x2 + 1) := ⟨_, rfl⟩
          try have : e_6.toInt = (x2 : Int32).toInt + (1) := by rw [he_6]; exact hs_addk (1) rfl (by omega) (by omega)
          try rw [← he_6]
          exact ih σ (x1 : Int32) (e_6 : Int32) I (show 0 ≤ (e_6 : Int32).toInt by omega) (show (e_6 : Int32).toInt ≤ 60 by omega) (show (σ.2 9).toInt ≤ (e_6 : Int32).toInt by omega)  (by omega)
        · have : ¬ (x1 : Int32).toInt < (v1_4 : Int32).toInt := fun z => h_5 (Int32.lt_iff_toInt_lt.mpr z)
          refine hs_ite (fun h_7 => ?_) (fun h_7 => ?_)
          · exact absurd h_7 (by decide)
          · skip
            refine hs_pa (idx := (σ.2 9)) (v := x2) I (by omega) (by omega) ⟨(by omega : (0 : Int) ≤ (x2 : Int32).toInt), (by omega : (x2 : Int32).toInt ≤ 59)⟩ (ra 27 (by decide) _ _) (fun σ6_8 eσ6_8 Iσ6_8 => ?_)
            have : (σ6_8.2 8).toInt = (σ.2 8).toInt := by rw [eσ6_8]; rfl
            have : (σ6_8.2 9).toInt = (σ.2 9).toInt := by rw [eσ6_8]; rfl
            have : (0 : Int) ≤ (σ6_8.2 8).toInt ∧ (σ6_8.2 8).toInt ≤ 60 := Iσ6_8.2.1 8
            have : (0 : Int) ≤ (σ6_8.2 9).toInt ∧ (σ6_8.2 9).toInt ≤ 60 := Iσ6_8.2.1 9
            obtain ⟨e_9, he_9⟩ : ∃ e9 : Int32, e9 = ((σ6_8.2 9) + 1) := ⟨_, rfl⟩
            try have : e_9.toInt = ((σ6_8.2 9) : Int32).toInt + (1) := by rw [he_9]; exact hs_addk (1) rfl (by omega) (by omega)
            try rw [← he_9]
            refine hs_pf (v := e_9) Iσ6_8 ⟨(by omega : (0 : Int) ≤ (e_9 : Int32).toInt), (by omega : (e_9 : Int32).toInt ≤ 60)⟩ (ri 9 (by decide) _ _) (fun σ9_10 eσ9_10 Iσ9_10 => ?_)
            have : (σ9_10.2 8).toInt = (σ6_8.2 8).toInt := by rw [eσ9_10]; rfl
            have : (σ9_10.2 9).toInt = (e_9 : Int32).toInt := by rw [eσ9_10]; rfl
            have : (0 : Int) ≤ (σ9_10.2 8).toInt ∧ (σ9_10.2 8).toInt ≤ 60 := Iσ9_10.2.1 8
            have : (0 : Int) ≤ (σ9_10.2 9).toInt ∧ (σ9_10.2 9).toInt ≤ 60 := Iσ9_10.2.1 9
            unfold fX8_recall_75
            obtain ⟨e_11, he_11⟩ : ∃ e9 : Int32, e9 = (x2 + 1) := ⟨_, rfl⟩
            try have : e_11.toInt = (x2 : Int32).toInt + (1) := by rw [he_11]; exact hs_addk (1) rfl (by omega) (by omega)
            try rw [← he_11]
            exact ih σ9_10 (x1 : Int32) (e_11 : Int32) Iσ9_10 (show 0 ≤ (e_11 : Int32).toInt by omega) (show (e_11 : Int32).toInt ≤ 60 by omega) (show (σ9_10.2 9).toInt ≤ (e_11 : Int32).toInt by omega)  (by omega)
      · have : ¬ (v2_2 : Int32).toInt = (-1) := fun z => h_3 (Int32.toInt_inj.mp z)
        refine hs_ga (j := 26) I (by omega) (by omega) (fun v6_12 ev6_12 (bv6_12 : (-2147483648 : Int) ≤ v6_12.toInt ∧ v6_12.toInt ≤ 2147483647) => ?_)
        refine hs_ite (fun h_13 => ?_) (fun h_13 => ?_)
        · have : (v6_12 : Int32).toInt ≤ (x1 : Int32).toInt := Int32.le_iff_toInt_le.mp h_13
          unfold fX8_recall_40
          refine hs_ga (j := 25) I (by omega) (by omega) (fun v1_14 ev1_14 (bv1_14 : (-2147483648 : Int) ≤ v1_14.toInt ∧ v1_14.toInt ≤ 2147483647) => ?_)
          refine hs_ite (fun h_15 => ?_) (fun h_15 => ?_)
          · have : (x1 : Int32).toInt < (v1_14 : Int32).toInt := Int32.lt_iff_toInt_lt.mp h_15
            unfold fX8_recall_75
            obtain ⟨e_16, he_16⟩ : ∃ e9 : Int32, e9 = (x2 + 1) := ⟨_, rfl⟩
            try have : e_16.toInt = (x2 : Int32).toInt + (1) := by rw [he_16]; exact hs_addk (1) rfl (by omega) (by omega)
            try rw [← he_16]
            exact ih σ (x1 : Int32) (e_16 : Int32) I (show 0 ≤ (e_16 : Int32).toInt by omega) (show (e_16 : Int32).toInt ≤ 60 by omega) (show (σ.2 9).toInt ≤ (e_16 : Int32).toInt by omega)  (by omega)
          · have : ¬ (x1 : Int32).toInt < (v1_14 : Int32).toInt := fun z => h_15 (Int32.lt_iff_toInt_lt.mpr z)
            refine hs_ite (fun h_17 => ?_) (fun h_17 => ?_)
            · skip
              unfold fX8_recall_75
              obtain ⟨e_18, he_18⟩ : ∃ e9 : Int32, e9 = (x2 + 1) := ⟨_, rfl⟩
              try have : e_18.toInt = (x2 : Int32).toInt + (1) := by rw [he_18]; exact hs_addk (1) rfl (by omega) (by omega)
              try rw [← he_18]
              exact ih σ (x1 : Int32) (e_18 : Int32) I (show 0 ≤ (e_18 : Int32).toInt by omega) (show (e_18 : Int32).toInt ≤ 60 by omega) (show (σ.2 9).toInt ≤ (e_18 : Int32).toInt by omega)  (by omega)
            · exact absurd (by decide) h_17
        · have : ¬ (v6_12 : Int32).toInt ≤ (x1 : Int32).toInt := fun z => h_13 (Int32.le_iff_toInt_le.mpr z)
          unfold fX8_recall_35
          unfold fX8_recall_40
          refine hs_ga (j := 25) I (by omega) (by omega) (fun v1_19 ev1_19 (bv1_19 : (-2147483648 : Int) ≤ v1_19.toInt ∧ v1_19.toInt ≤ 2147483647) => ?_)
          refine hs_ite (fun h_20 => ?_) (fun h_20 => ?_)
          · have : (x1 : Int32).toInt < (v1_19 : Int32).toInt := Int32.lt_iff_toInt_lt.mp h_20
            unfold fX8_recall_75
            obtain ⟨e_21, he_21⟩ : ∃ e9 : Int32, e9 = (x2 + 1) := ⟨_, rfl⟩
            try have : e_21.toInt = (x2 : Int32).toInt + (1) := by rw [he_21]; exact hs_addk (1) rfl (by omega) (by omega)
            try rw [← he_21]
            exact ih σ (x1 : Int32) (e_21 : Int32) I (show 0 ≤ (e_21 : Int32).toInt by omega) (show (e_21 : Int32).toInt ≤ 60 by omega) (show (σ.2 9).toInt ≤ (e_21 : Int32).toInt by omega)  (by omega)
          · have : ¬ (x1 : Int32).toInt < (v1_19 : Int32).toInt := fun z => h_20 (Int32.lt_iff_toInt_lt.mpr z)
            refine hs_ite (fun h_22 => ?_) (fun h_22 => ?_)
            · exact absurd h_22 (by decide)
            · skip
              refine hs_pa (idx := (σ.2 9)) (v := x2) I (by omega) (by omega) ⟨(by omega : (0 : Int) ≤ (x2 : Int32).toInt), (by omega : (x2 : Int32).toInt ≤ 59)⟩ (ra 27 (by decide) _ _) (fun σ6_23 eσ6_23 Iσ6_23 => ?_)
              have : (σ6_23.2 8).toInt = (σ.2 8).toInt := by rw [eσ6_23]; rfl
              have : (σ6_23.2 9).toInt = (σ.2 9).toInt := by rw [eσ6_23]; rfl
              have : (0 : Int) ≤ (σ6_23.2 8).toInt ∧ (σ6_23.2 8).toInt ≤ 60 := Iσ6_23.2.1 8
              have : (0 : Int) ≤ (σ6_23.2 9).toInt ∧ (σ6_23.2 9).toInt ≤ 60 := Iσ6_23.2.1 9
              obtain ⟨e_24, he_24⟩ : ∃ e9 : Int32, e9 = ((σ6_23.2 9) + 1) := ⟨_, rfl⟩
              try have : e_24.toInt = ((σ6_23.2 9) : Int32).toInt + (1) := by rw [he_24]; exact hs_addk (1) rfl (by omega) (by omega)
              try rw [← he_24]
              refine hs_pf (v := e_24) Iσ6_23 ⟨(by omega : (0 : Int) ≤ (e_24 : Int32).toInt), (by omega : (e_24 : Int32).toInt ≤ 60)⟩ (ri 9 (by decide) _ _) (fun σ9_25 eσ9_25 Iσ9_25 => ?_)
              have : (σ9_25.2 8).toInt = (σ6_23.2 8).toInt := by rw [eσ9_25]; rfl
              have : (σ9_25.2 9).toInt = (e_24 : Int32).toInt := by rw [eσ9_25]; rfl
              have : (0 : Int) ≤ (σ9_25.2 8).toInt ∧ (σ9_25.2 8).toInt ≤ 60 := Iσ9_25.2.1 8
              have : (0 : Int) ≤ (σ9_25.2 9).toInt ∧ (σ9_25.2 9).toInt ≤ 60 := Iσ9_25.2.1 9
              unfold fX8_recall_75
              obtain ⟨e_26, he_26⟩ : ∃ e9 : Int32, e9 = (x2 + 1) := ⟨_, rfl⟩
              try have : e_26.toInt = (x2 : Int32).toInt + (1) := by rw [he_26]; exact hs_addk (1) rfl (by omega) (by omega)
              try rw [← he_26]
              exact ih σ9_25 (x1 : Int32) (e_26 : Int32) Iσ9_25 (show 0 ≤ (e_26 : Int32).toInt by omega) (show (e_26 : Int32).toInt ≤ 60 by omega) (show (σ9_25.2 9).toInt ≤ (e_26 : Int32).toInt by omega)  (by omega)
theorem s_fX8_recall {R : hy_S → Prop} (ra : ∀ j, j ∈ ([27] : List Nat) → ∀ (τ : hy_S) (g : Nat → Int32), R τ → R (hy_sc τ j g)) (ri : ∀ j, j ∈ ([9] : List Nat) → ∀ (τ : hy_S) (v : Int32), R τ → R (hy_si τ j v)) (σ : hy_S) (x1 : Int32) {P : hy_S → Int32 → Prop} (I : hc_I R σ) (hQ : ∀ (σ9 : hy_S) (v9 : Int32), hc_I R σ9 → P σ9 v9) : hs_ok2 (fX8_recall σ x1) P := by
  unfold fX8_recall
  show hs_ok _ _
  have : (0 : Int) ≤ (σ.2 9).toInt ∧ (σ.2 9).toInt ≤ 60 := I.2.1 9
  refine hs_pf (v := 0) I ⟨by decide, by decide⟩ (ri 9 (by decide) _ _) (fun σ1_1 eσ1_1 Iσ1_1 => ?_)
  have : (σ1_1.2 9).toInt = (0) := by rw [eσ1_1]; rfl
  have : (0 : Int) ≤ (σ1_1.2 9).toInt ∧ (σ1_1.2 9).toInt ≤ 60 := Iσ1_1.2.1 9
  have hfu : ((hy_fu : Nat) : Int) = 5000 := rfl
  refine s_fX8_recall_7 (fun j h => ra j (hs_inc (by decide) h)) (fun j h => ri j (hs_inc (by decide) h))  (fun τ_2 v_3 Iτ_2  => ?_)  hy_fu σ1_1 (x1 : Int32) (0 : Int32) Iσ1_1 (show 0 ≤ (0) by omega) (show (0) ≤ 60 by omega) (show (σ1_1.2 9).toInt ≤ (0) by omega)  (show 60 - (0) < ((hy_fu : Nat) : Int) by rw [hfu]; omega)
  have : (0 : Int) ≤ (τ_2.2 9).toInt ∧ (τ_2.2 9).toInt ≤ 60 := Iτ_2.2.1 9
  exact (hQ τ_2 (v_3 : Int32) Iτ_2 )
theorem s_fX8_pushOn_4 {R : hy_S → Prop} (ra : ∀ j, j ∈ ([28] : List Nat) → ∀ (τ : hy_S) (g : Nat → Int32), R τ → R (hy_sc τ j g)) (ri : ∀ j, j ∈ ([] : List Nat) → ∀ (τ : hy_S) (v : Int32), R τ → R (hy_si τ j v)) {Q : hy_S × Int32 → Prop} (hQ : ∀ (σ9 : hy_S) (v9 : Int32), hc_I R σ9 → 0 ≤ v9.toInt → v9.toInt ≤ 1 → Q (σ9, v9)) : ∀ (n : Nat) (σ : hy_S) (x1 : Int32) (x2 : Int32), hc_I R σ → 0 ≤ x1.toInt → x1.toInt ≤ 1 → 0 ≤ x2.toInt → x2.toInt ≤ 60 → 60 - x2.toInt < (n : Int) → hs_ok (fX8_pushOn_4 n σ x1 x2) Q := by
  intro n
  induction n with
  | zero =>
    intro σ x1 x2 I p0 p1 p2 p3  hm
    have : (0 : Int) ≤ (σ.2 9).toInt ∧ (σ.2 9).toInt ≤ 60 := I.2.1 9
    exact absurd hm (by omega)
  | succ n ih =>
    intro σ x1 x2 I p0 p1 p2 p3  hm
    unfold fX8_pushOn_4
    have : (0 : Int) ≤ (σ.2 9).toInt ∧ (σ.2 9).toInt ≤ 60 := I.2.1 9
    refine hs_ite (fun h_1 => ?_) (fun h_1 => ?_)
    · have : ((σ.2 9) : Int32).toInt ≤ (x2 : Int32).toInt := Int32.le_iff_toInt_le.mp h_1
      refine hs_ck (hs_01 (by omega) (by omega)) ?_
      exact hs_some (hQ σ (x1 : Int32) I (show 0 ≤ (x1 : Int32).toInt by omega) (show (x1 : Int32).toInt ≤ 1 by omega))
    · have : ¬ ((σ.2 9) : Int32).toInt ≤ (x2 : Int32).toInt := fun z => h_1 (Int32.le_iff_toInt_le.mpr z)
      refine hs_ga (j := 27) I (by omega) (by omega) (fun v3_2 ev3_2 (bv3_2 : (0 : Int) ≤ v3_2.toInt ∧ v3_2.toInt ≤ 59) => ?_)
      refine hs_ga (j := 22) I (by omega) (by omega) (fun v6_3 ev6_3 (bv6_3 : (0 : Int) ≤ v6_3.toInt ∧ v6_3.toInt ≤ 12) => ?_)
      refine hs_ga (j := 28) I (by omega) (by omega) (fun v9_4 ev9_4 (bv9_4 : (-2147483648 : Int) ≤ v9_4.toInt ∧ v9_4.toInt ≤ 2147483647) => ?_)
      refine hs_ite (fun h_5 => ?_) (fun h_5 => ?_)
      · have : (v9_4 : Int32).toInt = (-1000000000) := congrArg Int32.toInt h_5
        unfold fX8_pushOn_84
        obtain ⟨e_6, he_6⟩ : ∃ e9 : Int32, e9 = (x2 + 1) := ⟨_, rfl⟩
        try have : e_6.toInt = (x2 : Int32).toInt + (1) := by rw [he_6]; exact hs_addk (1) rfl (by omega) (by omega)
        try rw [← he_6]
        exact ih σ (x1 : Int32) (e_6 : Int32) I (show 0 ≤ (x1 : Int32).toInt by omega) (show (x1 : Int32).toInt ≤ 1 by omega) (show 0 ≤ (e_6 : Int32).toInt by omega) (show (e_6 : Int32).toInt ≤ 60 by omega)  (by omega)
      · have : ¬ (v9_4 : Int32).toInt = (-1000000000) := fun z => h_5 (Int32.toInt_inj.mp z)
        refine hs_ga (j := 24) I (by omega) (by omega) (fun v13_7 ev13_7 (bv13_7 : (-2147483648 : Int) ≤ v13_7.toInt ∧ v13_7.toInt ≤ 2147483647) => ?_)
        refine hs_ga (j := 23) I (by omega) (by omega) (fun v16_8 ev16_8 (bv16_8 : (0 : Int) ≤ v16_8.toInt ∧ v16_8.toInt ≤ 12) => ?_)
        refine hs_ga (j := 28) I (by omega) (by omega) (fun v19_9 ev19_9 (bv19_9 : (-2147483648 : Int) ≤ v19_9.toInt ∧ v19_9.toInt ≤ 2147483647) => ?_)
        obtain ⟨e_10, he_10⟩ : ∃ e9 : Int32, e9 = (v9_4 + v13_7) := ⟨_, rfl⟩
        try have : e_10.toInt = (v9_4 : Int32).toInt + (v13_7 : Int32).toInt := by rw [he_10]; exact hs_add (by omega) (by omega)
        try rw [← he_10]
        refine hs_ite (fun h_11 => ?_) (fun h_11 => ?_)
        · have : (e_10 : Int32).toInt ≤ (v19_9 : Int32).toInt := Int32.le_iff_toInt_le.mp h_11
          unfold fX8_pushOn_84
          obtain ⟨e_12, he_12⟩ : ∃ e9 : Int32, e9 = (x2 + 1) := ⟨_, rfl⟩
          try have : e_12.toInt = (x2 : Int32).toInt + (1) := by rw [he_12]; exact hs_addk (1) rfl (by omega) (by omega)
          try rw [← he_12]
          exact ih σ (x1 : Int32) (e_12 : Int32) I (show 0 ≤ (x1 : Int32).toInt by omega) (show (x1 : Int32).toInt ≤ 1 by omega) (show 0 ≤ (e_12 : Int32).toInt by omega) (show (e_12 : Int32).toInt ≤ 60 by omega)  (by omega)
        · have : ¬ (e_10 : Int32).toInt ≤ (v19_9 : Int32).toInt := fun z => h_11 (Int32.le_iff_toInt_le.mpr z)
          refine hs_ga (j := 23) I (by omega) (by omega) (fun v23_13 ev23_13 (bv23_13 : (0 : Int) ≤ v23_13.toInt ∧ v23_13.toInt ≤ 12) => ?_)
          refine hs_ga (j := 24) I (by omega) (by omega) (fun v26_14 ev26_14 (bv26_14 : (-2147483648 : Int) ≤ v26_14.toInt ∧ v26_14.toInt ≤ 2147483647) => ?_)
          refine hs_pa (idx := v23_13) (v := _) I (by omega) (by omega) (hs_any _) (ra 28 (by decide) _ _) (fun σ29_15 eσ29_15 Iσ29_15 => ?_)
          have : (σ29_15.2 9).toInt = (σ.2 9).toInt := by rw [eσ29_15]; rfl
          have : (0 : Int) ≤ (σ29_15.2 9).toInt ∧ (σ29_15.2 9).toInt ≤ 60 := Iσ29_15.2.1 9
          unfold fX8_pushOn_84
          obtain ⟨e_16, he_16⟩ : ∃ e9 : Int32, e9 = (x2 + 1) := ⟨_, rfl⟩
          try have : e_16.toInt = (x2 : Int32).toInt + (1) := by rw [he_16]; exact hs_addk (1) rfl (by omega) (by omega)
          try rw [← he_16]
          exact ih σ29_15 (1 : Int32) (e_16 : Int32) Iσ29_15 (show 0 ≤ (1) by omega) (show (1) ≤ 1 by omega) (show 0 ≤ (e_16 : Int32).toInt by omega) (show (e_16 : Int32).toInt ≤ 60 by omega)  (by omega)
theorem s_fX8_pushOn {R : hy_S → Prop} (ra : ∀ j, j ∈ ([28] : List Nat) → ∀ (τ : hy_S) (g : Nat → Int32), R τ → R (hy_sc τ j g)) (ri : ∀ j, j ∈ ([] : List Nat) → ∀ (τ : hy_S) (v : Int32), R τ → R (hy_si τ j v)) (σ : hy_S) {P : hy_S → Int32 → Prop} (I : hc_I R σ) (hQ : ∀ (σ9 : hy_S) (v9 : Int32), hc_I R σ9 → 0 ≤ v9.toInt → v9.toInt ≤ 1 → P σ9 v9) : hs_ok2 (fX8_pushOn σ ) P := by
  unfold fX8_pushOn
  show hs_ok _ _
  have hfu : ((hy_fu : Nat) : Int) = 5000 := rfl
  refine s_fX8_pushOn_4 (fun j h => ra j (hs_inc (by decide) h)) (fun j h => ri j (hs_inc (by decide) h))  (fun τ_1 v_2 Iτ_1 gv_2_0 gv_2_1 => ?_)  hy_fu σ (0 : Int32) (0 : Int32) I (show 0 ≤ (0) by omega) (show (0) ≤ 1 by omega) (show 0 ≤ (0) by omega) (show (0) ≤ 60 by omega)  (show 60 - (0) < ((hy_fu : Nat) : Int) by rw [hfu]; omega)
  exact (hQ τ_1 (v_2 : Int32) Iτ_1 (show 0 ≤ (v_2 : Int32).toInt by omega) (show (v_2 : Int32).toInt ≤ 1 by omega))
theorem s_fX8_settles_2 {R : hy_S → Prop} (ra : ∀ j, j ∈ ([28] : List Nat) → ∀ (τ : hy_S) (g : Nat → Int32), R τ → R (hy_sc τ j g)) (ri : ∀ j, j ∈ ([] : List Nat) → ∀ (τ : hy_S) (v : Int32), R τ → R (hy_si τ j v)) {Q : hy_S × Int32 → Prop} (hQ : ∀ (σ9 : hy_S) (v9 : Int32), hc_I R σ9 → 0 ≤ v9.toInt → v9.toInt ≤ 1 → Q (σ9, v9)) : ∀ (n : Nat) (σ : hy_S) (x1 : Int32), hc_I R σ → 0 ≤ x1.toInt → x1.toInt ≤ 13 → 13 - x1.toInt < (n : Int) → hs_ok (fX8_settles_2 n σ x1) Q := by
  intro n
  induction n with
  | zero =>
    intro σ x1 I p0 p1  hm
    exact absurd hm (by omega)
  | succ n ih =>
    intro σ x1 I p0 p1  hm
    unfold fX8_settles_2
    refine hs_ite (fun h_1 => ?_) (fun h_1 => ?_)
    · have : (13) ≤ (x1 : Int32).toInt := Int32.le_iff_toInt_le.mp h_1
      exact hs_some (hQ σ (0 : Int32) I (show 0 ≤ (0) by omega) (show (0) ≤ 1 by omega))
    · have : ¬ (13) ≤ (x1 : Int32).toInt := fun z => h_1 (Int32.le_iff_toInt_le.mpr z)
      refine hs_bd (s_fX8_pushOn (fun j h => ra j (hs_inc (by decide) h)) (fun j h => ri j (hs_inc (by decide) h)) σ  I  (fun σ2_3 v3_2 Iσ2_3 (gv3_2_0 : 0 ≤ v3_2.toInt) (gv3_2_1 : v3_2.toInt ≤ 1) => ?_))
      refine hs_ite (fun h_4 => ?_) (fun h_4 => ?_)
      · have : (v3_2 : Int32).toInt = (0) := congrArg Int32.toInt h_4
        exact hs_some (hQ σ2_3 (1 : Int32) Iσ2_3 (show 0 ≤ (1) by omega) (show (1) ≤ 1 by omega))
      · have : ¬ (v3_2 : Int32).toInt = (0) := fun z => h_4 (Int32.toInt_inj.mp z)
        obtain ⟨e_5, he_5⟩ : ∃ e9 : Int32, e9 = (x1 + 1) := ⟨_, rfl⟩
        try have : e_5.toInt = (x1 : Int32).toInt + (1) := by rw [he_5]; exact hs_addk (1) rfl (by omega) (by omega)
        try rw [← he_5]
        exact ih σ2_3 (e_5 : Int32) Iσ2_3 (show 0 ≤ (e_5 : Int32).toInt by omega) (show (e_5 : Int32).toInt ≤ 13 by omega)  (by omega)
theorem s_fX8_settles {R : hy_S → Prop} (ra : ∀ j, j ∈ ([28] : List Nat) → ∀ (τ : hy_S) (g : Nat → Int32), R τ → R (hy_sc τ j g)) (ri : ∀ j, j ∈ ([] : List Nat) → ∀ (τ : hy_S) (v : Int32), R τ → R (hy_si τ j v)) (σ : hy_S) {P : hy_S → Int32 → Prop} (I : hc_I R σ) (hQ : ∀ (σ9 : hy_S) (v9 : Int32), hc_I R σ9 → 0 ≤ v9.toInt → v9.toInt ≤ 1 → P σ9 v9) : hs_ok2 (fX8_settles σ ) P := by
  unfold fX8_settles
  show hs_ok _ _
  have hfu : ((hy_fu : Nat) : Int) = 5000 := rfl
  refine s_fX8_settles_2 (fun j h => ra j (hs_inc (by decide) h)) (fun j h => ri j (hs_inc (by decide) h))  (fun τ_1 v_2 Iτ_1 gv_2_0 gv_2_1 => ?_)  hy_fu σ (0 : Int32) I (show 0 ≤ (0) by omega) (show (0) ≤ 13 by omega)  (show 13 - (0) < ((hy_fu : Nat) : Int) by rw [hfu]; omega)
  exact (hQ τ_1 (v_2 : Int32) Iτ_1 (show 0 ≤ (v_2 : Int32).toInt by omega) (show (v_2 : Int32).toInt ≤ 1 by omega))
theorem s_fX8_canAllHold {R : hy_S → Prop} (ra : ∀ j, j ∈ ([28] : List Nat) → ∀ (τ : hy_S) (g : Nat → Int32), R τ → R (hy_sc τ j g)) (ri : ∀ j, j ∈ ([] : List Nat) → ∀ (τ : hy_S) (v : Int32), R τ → R (hy_si τ j v)) (σ : hy_S) {P : hy_S → Int32 → Prop} (I : hc_I R σ) (hQ : ∀ (σ9 : hy_S) (v9 : Int32), hc_I R σ9 → 0 ≤ v9.toInt → v9.toInt ≤ 1 → P σ9 v9) : hs_ok2 (fX8_canAllHold σ ) P := by
  unfold fX8_canAllHold
  show hs_ok _ _
  refine hs_bd (s_fX8_setAll_a (fun j h => ra j (hs_inc (by decide) h)) (fun j h => ri j (hs_inc (by decide) h)) σ (0 : Int32) I  (fun σ1_2 v2_1 Iσ1_2  => ?_))
  refine hs_bd (s_fX8_settles (fun j h => ra j (hs_inc (by decide) h)) (fun j h => ri j (hs_inc (by decide) h)) σ1_2  Iσ1_2  (fun σ4_4 v5_3 Iσ4_4 (gv5_3_0 : 0 ≤ v5_3.toInt) (gv5_3_1 : v5_3.toInt ≤ 1) => ?_))
  refine hs_ck (hs_01 (by omega) (by omega)) ?_
  exact hs_some (hQ σ4_4 (v5_3 : Int32) Iσ4_4 (show 0 ≤ (v5_3 : Int32).toInt by omega) (show (v5_3 : Int32).toInt ≤ 1 by omega))
theorem s_fX8_yearsBetween {R : hy_S → Prop} (ra : ∀ j, j ∈ ([28] : List Nat) → ∀ (τ : hy_S) (g : Nat → Int32), R τ → R (hy_sc τ j g)) (ri : ∀ j, j ∈ ([] : List Nat) → ∀ (τ : hy_S) (v : Int32), R τ → R (hy_si τ j v)) (σ : hy_S) (x1 : Int32) (x2 : Int32) {P : hy_S → Int32 → Prop} (I : hc_I R σ) (p0 : 0 ≤ x1.toInt) (p1 : x1.toInt < 13) (p2 : 0 ≤ x2.toInt) (p3 : x2.toInt < 13) (hQ : ∀ (σ9 : hy_S) (v9 : Int32), hc_I R σ9 → P σ9 v9) : hs_ok2 (fX8_yearsBetween σ x1 x2) P := by
  unfold fX8_yearsBetween
  show hs_ok _ _
  refine hs_bd (s_fX8_setAll_a (fun j h => ra j (hs_inc (by decide) h)) (fun j h => ri j (hs_inc (by decide) h)) σ ((-1000000000) : Int32) I  (fun σ1_2 v2_1 Iσ1_2  => ?_))
  refine hs_pa (idx := x1) (v := _) Iσ1_2 (by omega) (by omega) (hs_any _) (ra 28 (by decide) _ _) (fun σ4_3 eσ4_3 Iσ4_3 => ?_)
  refine hs_bd (s_fX8_settles (fun j h => ra j (hs_inc (by decide) h)) (fun j h => ri j (hs_inc (by decide) h)) σ4_3  Iσ4_3  (fun σ7_5 v8_4 Iσ7_5 (gv8_4_0 : 0 ≤ v8_4.toInt) (gv8_4_1 : v8_4.toInt ≤ 1) => ?_))
  refine hs_ga (j := 28) Iσ7_5 (by omega) (by omega) (fun v10_6 ev10_6 (bv10_6 : (-2147483648 : Int) ≤ v10_6.toInt ∧ v10_6.toInt ≤ 2147483647) => ?_)
  exact hs_some (hQ σ7_5 (v10_6 : Int32) Iσ7_5 )
theorem s_fX8_stepOn_11 {R : hy_S → Prop} (ra : ∀ j, j ∈ ([28, 29] : List Nat) → ∀ (τ : hy_S) (g : Nat → Int32), R τ → R (hy_sc τ j g)) (ri : ∀ j, j ∈ ([] : List Nat) → ∀ (τ : hy_S) (v : Int32), R τ → R (hy_si τ j v)) {Q : hy_S × Int32 → Prop} (hQ : ∀ (σ9 : hy_S) (v9 : Int32), hc_I R σ9 → Q (σ9, v9)) : ∀ (n : Nat) (σ : hy_S) (x1 : Int32), hc_I R σ → 0 ≤ x1.toInt → x1.toInt ≤ 60 → 60 - x1.toInt < (n : Int) → hs_ok (fX8_stepOn_11 n σ x1) Q := by
  intro n
  induction n with
  | zero =>
    intro σ x1 I p0 p1  hm
    have : (0 : Int) ≤ (σ.2 9).toInt ∧ (σ.2 9).toInt ≤ 60 := I.2.1 9
    exact absurd hm (by omega)
  | succ n ih =>
    intro σ x1 I p0 p1  hm
    unfold fX8_stepOn_11
    have : (0 : Int) ≤ (σ.2 9).toInt ∧ (σ.2 9).toInt ≤ 60 := I.2.1 9
    refine hs_ite (fun h_1 => ?_) (fun h_1 => ?_)
    · have : ((σ.2 9) : Int32).toInt ≤ (x1 : Int32).toInt := Int32.le_iff_toInt_le.mp h_1
      refine hs_cp I (fun _ => hs_any _) (fun g => ra 28 (by decide) _ g) (fun σ2_2 eσ2_2 Iσ2_2 => ?_)
      have : (σ2_2.2 9).toInt = (σ.2 9).toInt := by rw [eσ2_2]
      have : (0 : Int) ≤ (σ2_2.2 9).toInt ∧ (σ2_2.2 9).toInt ≤ 60 := Iσ2_2.2.1 9
      exact hs_some (hQ σ2_2 (0 : Int32) Iσ2_2 )
    · have : ¬ ((σ.2 9) : Int32).toInt ≤ (x1 : Int32).toInt := fun z => h_1 (Int32.le_iff_toInt_le.mpr z)
      refine hs_ga (j := 27) I (by omega) (by omega) (fun v4_3 ev4_3 (bv4_3 : (0 : Int) ≤ v4_3.toInt ∧ v4_3.toInt ≤ 59) => ?_)
      refine hs_ga (j := 22) I (by omega) (by omega) (fun v7_4 ev7_4 (bv7_4 : (0 : Int) ≤ v7_4.toInt ∧ v7_4.toInt ≤ 12) => ?_)
      refine hs_ga (j := 28) I (by omega) (by omega) (fun v10_5 ev10_5 (bv10_5 : (-2147483648 : Int) ≤ v10_5.toInt ∧ v10_5.toInt ≤ 2147483647) => ?_)
      refine hs_ite (fun h_6 => ?_) (fun h_6 => ?_)
      · have : (v10_5 : Int32).toInt = (-1000000000) := congrArg Int32.toInt h_6
        unfold fX8_stepOn_85
        obtain ⟨e_7, he_7⟩ : ∃ e9 : Int32, e9 = (x1 + 1) := ⟨_, rfl⟩
        try have : e_7.toInt = (x1 : Int32).toInt + (1) := by rw [he_7]; exact hs_addk (1) rfl (by omega) (by omega)
        try rw [← he_7]
        exact ih σ (e_7 : Int32) I (show 0 ≤ (e_7 : Int32).toInt by omega) (show (e_7 : Int32).toInt ≤ 60 by omega)  (by omega)
      · have : ¬ (v10_5 : Int32).toInt = (-1000000000) := fun z => h_6 (Int32.toInt_inj.mp z)
        refine hs_ga (j := 24) I (by omega) (by omega) (fun v14_8 ev14_8 (bv14_8 : (-2147483648 : Int) ≤ v14_8.toInt ∧ v14_8.toInt ≤ 2147483647) => ?_)
        refine hs_ga (j := 23) I (by omega) (by omega) (fun v17_9 ev17_9 (bv17_9 : (0 : Int) ≤ v17_9.toInt ∧ v17_9.toInt ≤ 12) => ?_)
        refine hs_ga (j := 29) I (by omega) (by omega) (fun v20_10 ev20_10 (bv20_10 : (-2147483648 : Int) ≤ v20_10.toInt ∧ v20_10.toInt ≤ 2147483647) => ?_)
        obtain ⟨e_11, he_11⟩ : ∃ e9 : Int32, e9 = (v10_5 + v14_8) := ⟨_, rfl⟩
        try have : e_11.toInt = (v10_5 : Int32).toInt + (v14_8 : Int32).toInt := by rw [he_11]; exact hs_add (by omega) (by omega)
        try rw [← he_11]
        refine hs_ite (fun h_12 => ?_) (fun h_12 => ?_)
        · have : (e_11 : Int32).toInt ≤ (v20_10 : Int32).toInt := Int32.le_iff_toInt_le.mp h_12
          unfold fX8_stepOn_85
          obtain ⟨e_13, he_13⟩ : ∃ e9 : Int32, e9 = (x1 + 1) := ⟨_, rfl⟩
          try have : e_13.toInt = (x1 : Int32).toInt + (1) := by rw [he_13]; exact hs_addk (1) rfl (by omega) (by omega)
          try rw [← he_13]
          exact ih σ (e_13 : Int32) I (show 0 ≤ (e_13 : Int32).toInt by omega) (show (e_13 : Int32).toInt ≤ 60 by omega)  (by omega)
        · have : ¬ (e_11 : Int32).toInt ≤ (v20_10 : Int32).toInt := fun z => h_12 (Int32.le_iff_toInt_le.mpr z)
          refine hs_ga (j := 23) I (by omega) (by omega) (fun v24_14 ev24_14 (bv24_14 : (0 : Int) ≤ v24_14.toInt ∧ v24_14.toInt ≤ 12) => ?_)
          refine hs_ga (j := 24) I (by omega) (by omega) (fun v27_15 ev27_15 (bv27_15 : (-2147483648 : Int) ≤ v27_15.toInt ∧ v27_15.toInt ≤ 2147483647) => ?_)
          refine hs_pa (idx := v24_14) (v := _) I (by omega) (by omega) (hs_any _) (ra 29 (by decide) _ _) (fun σ30_16 eσ30_16 Iσ30_16 => ?_)
          have : (σ30_16.2 9).toInt = (σ.2 9).toInt := by rw [eσ30_16]; rfl
          have : (0 : Int) ≤ (σ30_16.2 9).toInt ∧ (σ30_16.2 9).toInt ≤ 60 := Iσ30_16.2.1 9
          unfold fX8_stepOn_85
          obtain ⟨e_17, he_17⟩ : ∃ e9 : Int32, e9 = (x1 + 1) := ⟨_, rfl⟩
          try have : e_17.toInt = (x1 : Int32).toInt + (1) := by rw [he_17]; exact hs_addk (1) rfl (by omega) (by omega)
          try rw [← he_17]
          exact ih σ30_16 (e_17 : Int32) Iσ30_16 (show 0 ≤ (e_17 : Int32).toInt by omega) (show (e_17 : Int32).toInt ≤ 60 by omega)  (by omega)
theorem s_fX8_stepOn {R : hy_S → Prop} (ra : ∀ j, j ∈ ([28, 29] : List Nat) → ∀ (τ : hy_S) (g : Nat → Int32), R τ → R (hy_sc τ j g)) (ri : ∀ j, j ∈ ([] : List Nat) → ∀ (τ : hy_S) (v : Int32), R τ → R (hy_si τ j v)) (σ : hy_S) {P : hy_S → Int32 → Prop} (I : hc_I R σ) (hQ : ∀ (σ9 : hy_S) (v9 : Int32), hc_I R σ9 → P σ9 v9) : hs_ok2 (fX8_stepOn σ ) P := by
  unfold fX8_stepOn
  show hs_ok _ _
  refine hs_bd (s_fX8_setAll_n (fun j h => ra j (hs_inc (by decide) h)) (fun j h => ri j (hs_inc (by decide) h)) σ ((-1000000000) : Int32) I  (fun σ1_2 v2_1 Iσ1_2  => ?_))
  have hfu : ((hy_fu : Nat) : Int) = 5000 := rfl
  refine s_fX8_stepOn_11 (fun j h => ra j (hs_inc (by decide) h)) (fun j h => ri j (hs_inc (by decide) h))  (fun τ_3 v_4 Iτ_3  => ?_)  hy_fu σ1_2 (0 : Int32) Iσ1_2 (show 0 ≤ (0) by omega) (show (0) ≤ 60 by omega)  (show 60 - (0) < ((hy_fu : Nat) : Int) by rw [hfu]; omega)
  exact (hQ τ_3 (v_4 : Int32) Iτ_3 )
theorem s_fX8_ringThrough_18 {R : hy_S → Prop} (ra : ∀ j, j ∈ ([28, 29] : List Nat) → ∀ (τ : hy_S) (g : Nat → Int32), R τ → R (hy_sc τ j g)) (ri : ∀ j, j ∈ ([] : List Nat) → ∀ (τ : hy_S) (v : Int32), R τ → R (hy_si τ j v)) {Q : hy_S × Int32 → Prop} (hQ : ∀ (σ9 : hy_S) (v9 : Int32), hc_I R σ9 → v9.toInt ≤ 14 → Q (σ9, v9)) : ∀ (n : Nat) (σ : hy_S) (x1 : Int32) (x2 : Int32) (x3 : Int32), hc_I R σ → 0 ≤ x1.toInt → x1.toInt < 13 → x2.toInt ≤ 14 → 1 ≤ x3.toInt → x3.toInt ≤ 14 → 14 - x3.toInt < (n : Int) → hs_ok (fX8_ringThrough_18 n σ x1 x2 x3) Q := by
  intro n
  induction n with
  | zero =>
    intro σ x1 x2 x3 I p0 p1 p2 p3 p4  hm
    exact absurd hm (by omega)
  | succ n ih =>
    intro σ x1 x2 x3 I p0 p1 p2 p3 p4  hm
    unfold fX8_ringThrough_18
    refine hs_ite (fun h_1 => ?_) (fun h_1 => ?_)
    · have : (x2 : Int32).toInt ≤ (x3 : Int32).toInt := Int32.le_iff_toInt_le.mp h_1
      exact hs_some (hQ σ (x2 : Int32) I (show (x2 : Int32).toInt ≤ 14 by omega))
    · have : ¬ (x2 : Int32).toInt ≤ (x3 : Int32).toInt := fun z => h_1 (Int32.le_iff_toInt_le.mpr z)
      refine hs_bd (s_fX8_stepOn (fun j h => ra j (hs_inc (by decide) h)) (fun j h => ri j (hs_inc (by decide) h)) σ  I  (fun σ2_3 v3_2 Iσ2_3  => ?_))
      refine hs_ga (j := 28) Iσ2_3 (by omega) (by omega) (fun v5_4 ev5_4 (bv5_4 : (-2147483648 : Int) ≤ v5_4.toInt ∧ v5_4.toInt ≤ 2147483647) => ?_)
      refine hs_ite (fun h_5 => ?_) (fun h_5 => ?_)
      · have : (v5_4 : Int32).toInt ≤ (0) := Int32.le_iff_toInt_le.mp h_5
        obtain ⟨e_6, he_6⟩ : ∃ e9 : Int32, e9 = (x3 + 1) := ⟨_, rfl⟩
        try have : e_6.toInt = (x3 : Int32).toInt + (1) := by rw [he_6]; exact hs_addk (1) rfl (by omega) (by omega)
        try rw [← he_6]
        exact ih σ2_3 (x1 : Int32) (x2 : Int32) (e_6 : Int32) Iσ2_3 (show 0 ≤ (x1 : Int32).toInt by omega) (show (x1 : Int32).toInt < 13 by omega) (show (x2 : Int32).toInt ≤ 14 by omega) (show 1 ≤ (e_6 : Int32).toInt by omega) (show (e_6 : Int32).toInt ≤ 14 by omega)  (by omega)
      · have : ¬ (v5_4 : Int32).toInt ≤ (0) := fun z => h_5 (Int32.le_iff_toInt_le.mpr z)
        exact hs_some (hQ σ2_3 (x3 : Int32) Iσ2_3 (show (x3 : Int32).toInt ≤ 14 by omega))
theorem s_fX8_ringThrough {R : hy_S → Prop} (ra : ∀ j, j ∈ ([28, 29] : List Nat) → ∀ (τ : hy_S) (g : Nat → Int32), R τ → R (hy_sc τ j g)) (ri : ∀ j, j ∈ ([] : List Nat) → ∀ (τ : hy_S) (v : Int32), R τ → R (hy_si τ j v)) (σ : hy_S) (x1 : Int32) (x2 : Int32) {P : hy_S → Int32 → Prop} (I : hc_I R σ) (p0 : 0 ≤ x1.toInt) (p1 : x1.toInt < 13) (p2 : x2.toInt ≤ 14) (hQ : ∀ (σ9 : hy_S) (v9 : Int32), hc_I R σ9 → v9.toInt ≤ 14 → P σ9 v9) : hs_ok2 (fX8_ringThrough σ x1 x2) P := by
  unfold fX8_ringThrough
  show hs_ok _ _
  refine hs_bd (s_fX8_setAll_a (fun j h => ra j (hs_inc (by decide) h)) (fun j h => ri j (hs_inc (by decide) h)) σ ((-1000000000) : Int32) I  (fun σ1_2 v2_1 Iσ1_2  => ?_))
  refine hs_pa (idx := x1) (v := _) Iσ1_2 (by omega) (by omega) (hs_any _) (ra 28 (by decide) _ _) (fun σ4_3 eσ4_3 Iσ4_3 => ?_)
  have hfu : ((hy_fu : Nat) : Int) = 5000 := rfl
  refine s_fX8_ringThrough_18 (fun j h => ra j (hs_inc (by decide) h)) (fun j h => ri j (hs_inc (by decide) h))  (fun τ_4 v_5 Iτ_4 gv_5_0 => ?_)  hy_fu σ4_3 (x1 : Int32) (x2 : Int32) (1 : Int32) Iσ4_3 (show 0 ≤ (x1 : Int32).toInt by omega) (show (x1 : Int32).toInt < 13 by omega) (show (x2 : Int32).toInt ≤ 14 by omega) (show 1 ≤ (1) by omega) (show (1) ≤ 14 by omega)  (show 14 - (1) < ((hy_fu : Nat) : Int) by rw [hfu]; omega)
  exact (hQ τ_4 (v_5 : Int32) Iτ_4 (show (v_5 : Int32).toInt ≤ 14 by omega))
