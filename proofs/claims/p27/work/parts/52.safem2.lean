theorem s_fX10_vessels {R : hy_S → Prop} (ra : ∀ j, j ∈ ([] : List Nat) → ∀ (τ : hy_S) (g : Nat → Int32), R τ → R (hy_sc τ j g)) (ri : ∀ j, j ∈ ([0] : List Nat) → ∀ (τ : hy_S) (v : Int32), R τ → R (hy_si τ j v)) (σ : hy_S) (x1 : Int32) {P : hy_S → Int32 → Prop} (I : hm_I R σ) (hQ : ∀ (σ9 : hy_S) (v9 : Int32), hm_I R σ9 → P σ9 v9) : hs_ok2 (fX10_vessels σ x1) P := by
  unfold fX10_vessels
  show hs_ok _ _
  have : (-2147483648 : Int) ≤ (σ.2 0).toInt ∧ (σ.2 0).toInt ≤ 2147483647 := I.2.1 0
  refine hs_pf (v := 0) I (hs_any _) (fun r => ⟨hm_Ri (by decide) r.1, ri 0 (by decide) _ _ r.2⟩) (fun σ1_1 eσ1_1 Iσ1_1 => ?_)
  have : (σ1_1.2 0).toInt = (0) := by rw [eσ1_1]; rfl
  have : (-2147483648 : Int) ≤ (σ1_1.2 0).toInt ∧ (σ1_1.2 0).toInt ≤ 2147483647 := Iσ1_1.2.1 0
  refine hs_ite (fun h_2 => ?_) (fun h_2 => ?_)
  · have : (x1 : Int32).toInt = (-1) := congrArg Int32.toInt h_2
    unfold fX10_vessels_22
    unfold fX10_vessels_23
    refine hs_th0 ?_
    refine hs_ite (fun h_3 => ?_) (fun h_3 => ?_)
    · skip
      have hfu : ((hy_fu : Nat) : Int) = 5000 := rfl
      refine s_fX10_vessels_36 (fun j h => ra j (hs_inc (by decide) h)) (fun j h => ri j (hs_inc (by decide) h))  (fun τ_4 v_5 Iτ_4  => ?_)  hy_fu σ1_1 (x1 : Int32) (0 : Int32) (0 : Int32) Iσ1_1 (show 0 ≤ (0) by omega) (show (0) ≤ 60 by omega)  (show 60 - (0) < ((hy_fu : Nat) : Int) by rw [hfu]; omega)
      have : (-2147483648 : Int) ≤ (τ_4.2 0).toInt ∧ (τ_4.2 0).toInt ≤ 2147483647 := Iτ_4.2.1 0
      exact (hQ τ_4 (v_5 : Int32) Iτ_4 )
    · exact absurd (by decide) h_3
  · have : ¬ (x1 : Int32).toInt = (-1) := fun z => h_2 (Int32.toInt_inj.mp z)
    refine hs_noT (fun (u_6_0 : (0 : Int) ≤ (x1 : Int32).toInt) (u_6_1 : (x1 : Int32).toInt < 12) => ?_) (fun (u_6_0 : (x1 : Int32).toInt < 0 ∨ 12 ≤ (x1 : Int32).toInt) => ?_)
    · skip
      refine hs_ite (fun h_7 => ?_) (fun h_7 => ?_)
      · skip
        unfold fX10_vessels_22
        unfold fX10_vessels_23
        refine hs_th0 ?_
        refine hs_ite (fun h_8 => ?_) (fun h_8 => ?_)
        · skip
          have hfu : ((hy_fu : Nat) : Int) = 5000 := rfl
          refine s_fX10_vessels_36 (fun j h => ra j (hs_inc (by decide) h)) (fun j h => ri j (hs_inc (by decide) h))  (fun τ_9 v_10 Iτ_9  => ?_)  hy_fu σ1_1 (x1 : Int32) (0 : Int32) (0 : Int32) Iσ1_1 (show 0 ≤ (0) by omega) (show (0) ≤ 60 by omega)  (show 60 - (0) < ((hy_fu : Nat) : Int) by rw [hfu]; omega)
          have : (-2147483648 : Int) ≤ (τ_9.2 0).toInt ∧ (τ_9.2 0).toInt ≤ 2147483647 := Iτ_9.2.1 0
          exact (hQ τ_9 (v_10 : Int32) Iτ_9 )
        · exact absurd (by decide) h_8
      · exact absurd (by decide) h_7
    · skip
      refine hs_ite (fun h_11 => ?_) (fun h_11 => ?_)
      · exact absurd h_11 (by decide)
      · skip
        unfold fX10_vessels_23
        refine hs_th1 Iσ1_1 (hs_any _) (fun r => ⟨hm_Ri (by decide) r.1, ri 0 (by decide) _ _ r.2⟩) (fun σ1_12 eσ1_12 Iσ1_12 => ?_)
        have : (σ1_12.2 0).toInt = (1) := by rw [eσ1_12]; rfl
        have : (-2147483648 : Int) ≤ (σ1_12.2 0).toInt ∧ (σ1_12.2 0).toInt ≤ 2147483647 := Iσ1_12.2.1 0
        refine hs_ite (fun h_13 => ?_) (fun h_13 => ?_)
        · exact absurd h_13 (by decide)
        · skip
          exact hs_some (hQ σ1_12 (0 : Int32) Iσ1_12 )
theorem s_fX10_vessel_53 {R : hy_S → Prop} (ra : ∀ j, j ∈ ([] : List Nat) → ∀ (τ : hy_S) (g : Nat → Int32), R τ → R (hy_sc τ j g)) (ri : ∀ j, j ∈ ([] : List Nat) → ∀ (τ : hy_S) (v : Int32), R τ → R (hy_si τ j v)) {Q : hy_S × Int32 → Prop} (hQ : ∀ (σ9 : hy_S) (v9 : Int32), hm_I R σ9 → Q (σ9, v9)) : ∀ (n : Nat) (σ : hy_S) (x1 : Int32) (x3 : Int32) (x4 : Int32), hm_I R σ → 0 ≤ x1.toInt → x1.toInt < 60 → 0 ≤ x4.toInt → x4.toInt ≤ 60 → 60 - x4.toInt < (n : Int) → hs_ok (fX10_vessel_53 n σ x1 x3 x4) Q := by
  intro n
  induction n with
  | zero =>
    intro σ x1 x3 x4 I p0 p1 p2 p3  hm
    have : (0 : Int) ≤ (σ.2 9).toInt ∧ (σ.2 9).toInt ≤ 60 := I.2.1 9
    exact absurd hm (by omega)
  | succ n ih =>
    intro σ x1 x3 x4 I p0 p1 p2 p3  hm
    unfold fX10_vessel_53
    have : (0 : Int) ≤ (σ.2 9).toInt ∧ (σ.2 9).toInt ≤ 60 := I.2.1 9
    refine hs_ite (fun h_1 => ?_) (fun h_1 => ?_)
    · have : ((σ.2 9) : Int32).toInt ≤ (x4 : Int32).toInt := Int32.le_iff_toInt_le.mp h_1
      exact hs_some (hQ σ (x3 : Int32) I )
    · have : ¬ ((σ.2 9) : Int32).toInt ≤ (x4 : Int32).toInt := fun z => h_1 (Int32.le_iff_toInt_le.mpr z)
      refine hs_ga (j := 22) I (by omega) (by omega) (fun v2_2 ev2_2 (bv2_2 : (0 : Int) ≤ v2_2.toInt ∧ v2_2.toInt ≤ 59) => ?_)
      refine hs_ga (j := 22) I (by omega) (by omega) (fun v5_3 ev5_3 (bv5_3 : (0 : Int) ≤ v5_3.toInt ∧ v5_3.toInt ≤ 59) => ?_)
      refine hs_ite (fun h_4 => ?_) (fun h_4 => ?_)
      · have : (v2_2 : Int32).toInt = (v5_3 : Int32).toInt := congrArg Int32.toInt h_4
        unfold fX10_vessel_84
        obtain ⟨e_5, he_5⟩ : ∃ e9 : Int32, e9 = (x3 + 1) := ⟨_, rfl⟩
        try have : e_5.toInt = (x3 : Int32).toInt + (1) := by rw [he_5]; exact hs_addk (1) rfl (by omega) (by omega)
        try rw [← he_5]
        obtain ⟨e_6, he_6⟩ : ∃ e9 : Int32, e9 = (x4 + 1) := ⟨_, rfl⟩
        try have : e_6.toInt = (x4 : Int32).toInt + (1) := by rw [he_6]; exact hs_addk (1) rfl (by omega) (by omega)
        try rw [← he_6]
        exact ih σ (x1 : Int32) (e_5 : Int32) (e_6 : Int32) I (show 0 ≤ (x1 : Int32).toInt by omega) (show (x1 : Int32).toInt < 60 by omega) (show 0 ≤ (e_6 : Int32).toInt by omega) (show (e_6 : Int32).toInt ≤ 60 by omega)  (by omega)
      · have : ¬ (v2_2 : Int32).toInt = (v5_3 : Int32).toInt := fun z => h_4 (Int32.toInt_inj.mp z)
        unfold fX10_vessel_84
        obtain ⟨e_7, he_7⟩ : ∃ e9 : Int32, e9 = (x3 + 0) := ⟨_, rfl⟩
        try have : e_7.toInt = (x3 : Int32).toInt + (0) := by rw [he_7]; exact hs_addk (0) rfl (by omega) (by omega)
        try rw [← he_7]
        obtain ⟨e_8, he_8⟩ : ∃ e9 : Int32, e9 = (x4 + 1) := ⟨_, rfl⟩
        try have : e_8.toInt = (x4 : Int32).toInt + (1) := by rw [he_8]; exact hs_addk (1) rfl (by omega) (by omega)
        try rw [← he_8]
        exact ih σ (x1 : Int32) (e_7 : Int32) (e_8 : Int32) I (show 0 ≤ (x1 : Int32).toInt by omega) (show (x1 : Int32).toInt < 60 by omega) (show 0 ≤ (e_8 : Int32).toInt by omega) (show (e_8 : Int32).toInt ≤ 60 by omega)  (by omega)
theorem s_fX10_vessel {R : hy_S → Prop} (ra : ∀ j, j ∈ ([] : List Nat) → ∀ (τ : hy_S) (g : Nat → Int32), R τ → R (hy_sc τ j g)) (ri : ∀ j, j ∈ ([0] : List Nat) → ∀ (τ : hy_S) (v : Int32), R τ → R (hy_si τ j v)) (σ : hy_S) (x1 : Int32) (x2 : Int32) {P : hy_S → Int32 → Prop} (I : hm_I R σ) (hQ : ∀ (σ9 : hy_S) (v9 : Int32), hm_I R σ9 → P σ9 v9) : hs_ok2 (fX10_vessel σ x1 x2) P := by
  unfold fX10_vessel
  show hs_ok _ _
  have : (-2147483648 : Int) ≤ (σ.2 0).toInt ∧ (σ.2 0).toInt ≤ 2147483647 := I.2.1 0
  have : (0 : Int) ≤ (σ.2 9).toInt ∧ (σ.2 9).toInt ≤ 60 := I.2.1 9
  refine hs_pf (v := 0) I (hs_any _) (fun r => ⟨hm_Ri (by decide) r.1, ri 0 (by decide) _ _ r.2⟩) (fun σ1_1 eσ1_1 Iσ1_1 => ?_)
  have : (σ1_1.2 0).toInt = (0) := by rw [eσ1_1]; rfl
  have : (σ1_1.2 9).toInt = (σ.2 9).toInt := by rw [eσ1_1]; rfl
  have : (-2147483648 : Int) ≤ (σ1_1.2 0).toInt ∧ (σ1_1.2 0).toInt ≤ 2147483647 := Iσ1_1.2.1 0
  have : (0 : Int) ≤ (σ1_1.2 9).toInt ∧ (σ1_1.2 9).toInt ≤ 60 := Iσ1_1.2.1 9
  refine hs_noS (by omega) (fun (u_2_0 : (0 : Int) ≤ (x1 : Int32).toInt) (u_2_1 : (x1 : Int32).toInt < (σ1_1.2 9).toInt) => ?_) (fun (u_2_0 : (x1 : Int32).toInt < 0 ∨ (σ1_1.2 9).toInt ≤ (x1 : Int32).toInt) => ?_)
  · skip
    refine hs_th0 ?_
    refine hs_ite (fun h_3 => ?_) (fun h_3 => ?_)
    · skip
      refine hs_ite (fun h_4 => ?_) (fun h_4 => ?_)
      · have : (x2 : Int32).toInt = (0) := congrArg Int32.toInt h_4
        have hfu : ((hy_fu : Nat) : Int) = 5000 := rfl
        refine s_fX10_vessel_53 (fun j h => ra j (hs_inc (by decide) h)) (fun j h => ri j (hs_inc (by decide) h))  (fun τ_5 v_6 Iτ_5  => ?_)  hy_fu σ1_1 (x1 : Int32) (0 : Int32) (0 : Int32) Iσ1_1 (show 0 ≤ (x1 : Int32).toInt by omega) (show (x1 : Int32).toInt < 60 by omega) (show 0 ≤ (0) by omega) (show (0) ≤ 60 by omega)  (show 60 - (0) < ((hy_fu : Nat) : Int) by rw [hfu]; omega)
        have : (-2147483648 : Int) ≤ (τ_5.2 0).toInt ∧ (τ_5.2 0).toInt ≤ 2147483647 := Iτ_5.2.1 0
        have : (0 : Int) ≤ (τ_5.2 9).toInt ∧ (τ_5.2 9).toInt ≤ 60 := Iτ_5.2.1 9
        exact (hQ τ_5 (v_6 : Int32) Iτ_5 )
      · have : ¬ (x2 : Int32).toInt = (0) := fun z => h_4 (Int32.toInt_inj.mp z)
        refine hs_ite (fun h_7 => ?_) (fun h_7 => ?_)
        · have : (x2 : Int32).toInt = (1) := congrArg Int32.toInt h_7
          refine hs_ga (j := 22) Iσ1_1 (by omega) (by omega) (fun v12_8 ev12_8 (bv12_8 : (0 : Int) ≤ v12_8.toInt ∧ v12_8.toInt ≤ 59) => ?_)
          refine hs_bd (s_fX10_stampOf σ1_1 v12_8 Iσ1_1  (fun v16_9  => ?_))
          exact hs_some (hQ σ1_1 (v16_9 : Int32) Iσ1_1 )
        · have : ¬ (x2 : Int32).toInt = (1) := fun z => h_7 (Int32.toInt_inj.mp z)
          refine hs_ite (fun h_10 => ?_) (fun h_10 => ?_)
          · have : (x2 : Int32).toInt = (2) := congrArg Int32.toInt h_10
            refine hs_ga (j := 22) Iσ1_1 (by omega) (by omega) (fun v19_11 ev19_11 (bv19_11 : (0 : Int) ≤ v19_11.toInt ∧ v19_11.toInt ≤ 59) => ?_)
            exact hs_some (hQ σ1_1 (v19_11 : Int32) Iσ1_1 )
          · have : ¬ (x2 : Int32).toInt = (2) := fun z => h_10 (Int32.toInt_inj.mp z)
            refine hs_pf (v := 2) Iσ1_1 (hs_any _) (fun r => ⟨hm_Ri (by decide) r.1, ri 0 (by decide) _ _ r.2⟩) (fun σ22_12 eσ22_12 Iσ22_12 => ?_)
            have : (σ22_12.2 0).toInt = (2) := by rw [eσ22_12]; rfl
            have : (σ22_12.2 9).toInt = (σ1_1.2 9).toInt := by rw [eσ22_12]; rfl
            have : (-2147483648 : Int) ≤ (σ22_12.2 0).toInt ∧ (σ22_12.2 0).toInt ≤ 2147483647 := Iσ22_12.2.1 0
            have : (0 : Int) ≤ (σ22_12.2 9).toInt ∧ (σ22_12.2 9).toInt ≤ 60 := Iσ22_12.2.1 9
            exact hs_some (hQ σ22_12 (0 : Int32) Iσ22_12 )
    · exact absurd (by decide) h_3
  · skip
    refine hs_th1 Iσ1_1 (hs_any _) (fun r => ⟨hm_Ri (by decide) r.1, ri 0 (by decide) _ _ r.2⟩) (fun σ6_13 eσ6_13 Iσ6_13 => ?_)
    have : (σ6_13.2 0).toInt = (1) := by rw [eσ6_13]; rfl
    have : (σ6_13.2 9).toInt = (σ1_1.2 9).toInt := by rw [eσ6_13]; rfl
    have : (-2147483648 : Int) ≤ (σ6_13.2 0).toInt ∧ (σ6_13.2 0).toInt ≤ 2147483647 := Iσ6_13.2.1 0
    have : (0 : Int) ≤ (σ6_13.2 9).toInt ∧ (σ6_13.2 9).toInt ≤ 60 := Iσ6_13.2.1 9
    refine hs_ite (fun h_14 => ?_) (fun h_14 => ?_)
    · exact absurd h_14 (by decide)
    · skip
      exact hs_some (hQ σ6_13 (0 : Int32) Iσ6_13 )
theorem s_fX10_tells {R : hy_S → Prop} (ra : ∀ j, j ∈ ([23, 24, 25, 26, 27] : List Nat) → ∀ (τ : hy_S) (g : Nat → Int32), R τ → R (hy_sc τ j g)) (ri : ∀ j, j ∈ ([0, 10] : List Nat) → ∀ (τ : hy_S) (v : Int32), R τ → R (hy_si τ j v)) (σ : hy_S) (x1 : Int32) (x2 : Int32) (x3 : Int32) {P : hy_S → Int32 → Prop} (I : hm_I R σ) (p0 : 0 ≤ x1.toInt) (p1 : x1.toInt ≤ 12) (p2 : 0 ≤ x2.toInt) (p3 : x2.toInt ≤ 12) (hQ : ∀ (σ9 : hy_S) (v9 : Int32), hm_I R σ9 → ((σ.2 10).toInt < 60 ∧ (σ9.2 0).toInt = (σ.2 0).toInt ∧ (σ9.2 10).toInt = (σ.2 10).toInt + 1 ∧ v9.toInt = (σ.2 10).toInt) ∨ (60 ≤ (σ.2 10).toInt ∧ (σ9.2 0).toInt = 3 ∧ (σ9.2 10).toInt = (σ.2 10).toInt) → P σ9 v9) : hs_ok2 (fX10_tells σ x1 x2 x3) P := by
  unfold fX10_tells
  show hs_ok _ _
  have : (-2147483648 : Int) ≤ (σ.2 0).toInt ∧ (σ.2 0).toInt ≤ 2147483647 := I.2.1 0
  have : (0 : Int) ≤ (σ.2 10).toInt ∧ (σ.2 10).toInt ≤ 60 := I.2.1 10
  have : (-2147483648 : Int) ≤ (σ.2 11).toInt ∧ (σ.2 11).toInt ≤ 2147483647 := I.2.1 11
  refine hs_ite (fun h_1 => ?_) (fun h_1 => ?_)
  · have : ((σ.2 10) : Int32).toInt = (60) := congrArg Int32.toInt h_1
    unfold fX10_tells_15
    refine hs_th1 I (hs_any _) (fun r => ⟨hm_Ri (by decide) r.1, ri 0 (by decide) _ _ r.2⟩) (fun σ1_2 eσ1_2 Iσ1_2 => ?_)
    have : (σ1_2.2 0).toInt = (3) := by rw [eσ1_2]; rfl
    have : (σ1_2.2 10).toInt = (σ.2 10).toInt := by rw [eσ1_2]; rfl
    have : (σ1_2.2 11).toInt = (σ.2 11).toInt := by rw [eσ1_2]; rfl
    have : (-2147483648 : Int) ≤ (σ1_2.2 0).toInt ∧ (σ1_2.2 0).toInt ≤ 2147483647 := Iσ1_2.2.1 0
    have : (0 : Int) ≤ (σ1_2.2 10).toInt ∧ (σ1_2.2 10).toInt ≤ 60 := Iσ1_2.2.1 10
    have : (-2147483648 : Int) ≤ (σ1_2.2 11).toInt ∧ (σ1_2.2 11).toInt ≤ 2147483647 := Iσ1_2.2.1 11
    refine hs_ite (fun h_3 => ?_) (fun h_3 => ?_)
    · exact absurd h_3 (by decide)
    · skip
      exact hs_some (hQ σ1_2 (0 : Int32) Iσ1_2 (show ((σ.2 10).toInt < 60 ∧ (σ1_2.2 0).toInt = (σ.2 0).toInt ∧ (σ1_2.2 10).toInt = (σ.2 10).toInt + 1 ∧ (0) = (σ.2 10).toInt) ∨ (60 ≤ (σ.2 10).toInt ∧ (σ1_2.2 0).toInt = 3 ∧ (σ1_2.2 10).toInt = (σ.2 10).toInt) by omega))
  · have : ¬ ((σ.2 10) : Int32).toInt = (60) := fun z => h_1 (Int32.toInt_inj.mp z)
    unfold fX10_tells_15
    refine hs_th0 ?_
    refine hs_ite (fun h_4 => ?_) (fun h_4 => ?_)
    · skip
      refine hs_pa (idx := (σ.2 10)) (v := x1) I (by omega) (by omega) ⟨(by omega : (0 : Int) ≤ (x1 : Int32).toInt), (by omega : (x1 : Int32).toInt ≤ 12)⟩ (fun r => ⟨hm_Ra (by decide) r.1, ra 23 (by decide) _ _ r.2⟩) (fun σ5_5 eσ5_5 Iσ5_5 => ?_)
      have : (σ5_5.2 0).toInt = (σ.2 0).toInt := by rw [eσ5_5]; rfl
      have : (σ5_5.2 10).toInt = (σ.2 10).toInt := by rw [eσ5_5]; rfl
      have : (σ5_5.2 11).toInt = (σ.2 11).toInt := by rw [eσ5_5]; rfl
      have : (-2147483648 : Int) ≤ (σ5_5.2 0).toInt ∧ (σ5_5.2 0).toInt ≤ 2147483647 := Iσ5_5.2.1 0
      have : (0 : Int) ≤ (σ5_5.2 10).toInt ∧ (σ5_5.2 10).toInt ≤ 60 := Iσ5_5.2.1 10
      have : (-2147483648 : Int) ≤ (σ5_5.2 11).toInt ∧ (σ5_5.2 11).toInt ≤ 2147483647 := Iσ5_5.2.1 11
      refine hs_pa (idx := (σ5_5.2 10)) (v := x2) Iσ5_5 (by omega) (by omega) ⟨(by omega : (0 : Int) ≤ (x2 : Int32).toInt), (by omega : (x2 : Int32).toInt ≤ 12)⟩ (fun r => ⟨hm_Ra (by decide) r.1, ra 24 (by decide) _ _ r.2⟩) (fun σ8_6 eσ8_6 Iσ8_6 => ?_)
      have : (σ8_6.2 0).toInt = (σ5_5.2 0).toInt := by rw [eσ8_6]; rfl
      have : (σ8_6.2 10).toInt = (σ5_5.2 10).toInt := by rw [eσ8_6]; rfl
      have : (σ8_6.2 11).toInt = (σ5_5.2 11).toInt := by rw [eσ8_6]; rfl
      have : (-2147483648 : Int) ≤ (σ8_6.2 0).toInt ∧ (σ8_6.2 0).toInt ≤ 2147483647 := Iσ8_6.2.1 0
      have : (0 : Int) ≤ (σ8_6.2 10).toInt ∧ (σ8_6.2 10).toInt ≤ 60 := Iσ8_6.2.1 10
      have : (-2147483648 : Int) ≤ (σ8_6.2 11).toInt ∧ (σ8_6.2 11).toInt ≤ 2147483647 := Iσ8_6.2.1 11
      refine hs_pa (idx := (σ8_6.2 10)) (v := _) Iσ8_6 (by omega) (by omega) (hs_any _) (fun r => ⟨hm_Ra (by decide) r.1, ra 25 (by decide) _ _ r.2⟩) (fun σ11_7 eσ11_7 Iσ11_7 => ?_)
      have : (σ11_7.2 0).toInt = (σ8_6.2 0).toInt := by rw [eσ11_7]; rfl
      have : (σ11_7.2 10).toInt = (σ8_6.2 10).toInt := by rw [eσ11_7]; rfl
      have : (σ11_7.2 11).toInt = (σ8_6.2 11).toInt := by rw [eσ11_7]; rfl
      have : (-2147483648 : Int) ≤ (σ11_7.2 0).toInt ∧ (σ11_7.2 0).toInt ≤ 2147483647 := Iσ11_7.2.1 0
      have : (0 : Int) ≤ (σ11_7.2 10).toInt ∧ (σ11_7.2 10).toInt ≤ 60 := Iσ11_7.2.1 10
      have : (-2147483648 : Int) ≤ (σ11_7.2 11).toInt ∧ (σ11_7.2 11).toInt ≤ 2147483647 := Iσ11_7.2.1 11
      refine hs_pa (idx := (σ11_7.2 10)) (v := _) Iσ11_7 (by omega) (by omega) (hs_any _) (fun r => ⟨hm_Ra (by decide) r.1, ra 26 (by decide) _ _ r.2⟩) (fun σ14_8 eσ14_8 Iσ14_8 => ?_)
      have : (σ14_8.2 0).toInt = (σ11_7.2 0).toInt := by rw [eσ14_8]; rfl
      have : (σ14_8.2 10).toInt = (σ11_7.2 10).toInt := by rw [eσ14_8]; rfl
      have : (σ14_8.2 11).toInt = (σ11_7.2 11).toInt := by rw [eσ14_8]; rfl
      have : (-2147483648 : Int) ≤ (σ14_8.2 0).toInt ∧ (σ14_8.2 0).toInt ≤ 2147483647 := Iσ14_8.2.1 0
      have : (0 : Int) ≤ (σ14_8.2 10).toInt ∧ (σ14_8.2 10).toInt ≤ 60 := Iσ14_8.2.1 10
      have : (-2147483648 : Int) ≤ (σ14_8.2 11).toInt ∧ (σ14_8.2 11).toInt ≤ 2147483647 := Iσ14_8.2.1 11
      refine hs_pa (idx := (σ14_8.2 10)) (v := _) Iσ14_8 (by omega) (by omega) (hs_any _) (fun r => ⟨hm_Ra (by decide) r.1, ra 27 (by decide) _ _ r.2⟩) (fun σ17_9 eσ17_9 Iσ17_9 => ?_)
      have : (σ17_9.2 0).toInt = (σ14_8.2 0).toInt := by rw [eσ17_9]; rfl
      have : (σ17_9.2 10).toInt = (σ14_8.2 10).toInt := by rw [eσ17_9]; rfl
      have : (σ17_9.2 11).toInt = (σ14_8.2 11).toInt := by rw [eσ17_9]; rfl
      have : (-2147483648 : Int) ≤ (σ17_9.2 0).toInt ∧ (σ17_9.2 0).toInt ≤ 2147483647 := Iσ17_9.2.1 0
      have : (0 : Int) ≤ (σ17_9.2 10).toInt ∧ (σ17_9.2 10).toInt ≤ 60 := Iσ17_9.2.1 10
      have : (-2147483648 : Int) ≤ (σ17_9.2 11).toInt ∧ (σ17_9.2 11).toInt ≤ 2147483647 := Iσ17_9.2.1 11
      obtain ⟨e_10, he_10⟩ : ∃ e9 : Int32, e9 = ((σ17_9.2 10) + 1) := ⟨_, rfl⟩
      try have : e_10.toInt = ((σ17_9.2 10) : Int32).toInt + (1) := by rw [he_10]; exact hs_addk (1) rfl (by omega) (by omega)
      try rw [← he_10]
      refine hs_pf (v := e_10) Iσ17_9 ⟨(by omega : (0 : Int) ≤ (e_10 : Int32).toInt), (by omega : (e_10 : Int32).toInt ≤ 60)⟩ (fun r => ⟨hm_Ri (by decide) r.1, ri 10 (by decide) _ _ r.2⟩) (fun σ20_11 eσ20_11 Iσ20_11 => ?_)
      have : (σ20_11.2 0).toInt = (σ17_9.2 0).toInt := by rw [eσ20_11]; rfl
      have : (σ20_11.2 10).toInt = (e_10 : Int32).toInt := by rw [eσ20_11]; rfl
      have : (σ20_11.2 11).toInt = (σ17_9.2 11).toInt := by rw [eσ20_11]; rfl
      have : (-2147483648 : Int) ≤ (σ20_11.2 0).toInt ∧ (σ20_11.2 0).toInt ≤ 2147483647 := Iσ20_11.2.1 0
      have : (0 : Int) ≤ (σ20_11.2 10).toInt ∧ (σ20_11.2 10).toInt ≤ 60 := Iσ20_11.2.1 10
      have : (-2147483648 : Int) ≤ (σ20_11.2 11).toInt ∧ (σ20_11.2 11).toInt ≤ 2147483647 := Iσ20_11.2.1 11
      obtain ⟨e_12, he_12⟩ : ∃ e9 : Int32, e9 = ((σ20_11.2 10) - 1) := ⟨_, rfl⟩
      try have : e_12.toInt = ((σ20_11.2 10) : Int32).toInt - (1) := by rw [he_12]; exact hs_subk (1) rfl (by omega) (by omega)
      try rw [← he_12]
      exact hs_some (hQ σ20_11 (e_12 : Int32) Iσ20_11 (show ((σ.2 10).toInt < 60 ∧ (σ20_11.2 0).toInt = (σ.2 0).toInt ∧ (σ20_11.2 10).toInt = (σ.2 10).toInt + 1 ∧ (e_12 : Int32).toInt = (σ.2 10).toInt) ∨ (60 ≤ (σ.2 10).toInt ∧ (σ20_11.2 0).toInt = 3 ∧ (σ20_11.2 10).toInt = (σ.2 10).toInt) by omega))
    · exact absurd (by decide) h_4
theorem s_fX10_tell {R : hy_S → Prop} (ra : ∀ j, j ∈ ([23, 24, 25, 26, 27] : List Nat) → ∀ (τ : hy_S) (g : Nat → Int32), R τ → R (hy_sc τ j g)) (ri : ∀ j, j ∈ ([0, 10] : List Nat) → ∀ (τ : hy_S) (v : Int32), R τ → R (hy_si τ j v)) (σ : hy_S) (x1 : Int32) (x2 : Int32) (x3 : Int32) {P : hy_S → Int32 → Prop} (I : hm_I R σ) (hQ : ∀ (σ9 : hy_S) (v9 : Int32), hm_I R σ9 → ((σ9.2 0).toInt = 0 ∧ ¬ (x1.toInt < 0 ∨ 12 ≤ x1.toInt ∨ x2.toInt < 0 ∨ 12 ≤ x2.toInt) ∧ ¬ (x1.toInt = x2.toInt ∨ x3.toInt < -500 ∨ 500 < x3.toInt) ∧ (σ.2 10).toInt < 60 ∧ (σ9.2 10).toInt = (σ.2 10).toInt + 1 ∧ v9.toInt = (σ.2 10).toInt) ∨ ((σ9.2 0).toInt = 1 ∧ (x1.toInt < 0 ∨ 12 ≤ x1.toInt ∨ x2.toInt < 0 ∨ 12 ≤ x2.toInt) ∧ (σ9.2 10).toInt = (σ.2 10).toInt) ∨ ((σ9.2 0).toInt = 2 ∧ ¬ (x1.toInt < 0 ∨ 12 ≤ x1.toInt ∨ x2.toInt < 0 ∨ 12 ≤ x2.toInt) ∧ (x1.toInt = x2.toInt ∨ x3.toInt < -500 ∨ 500 < x3.toInt) ∧ (σ9.2 10).toInt = (σ.2 10).toInt) ∨ ((σ9.2 0).toInt = 3 ∧ ¬ (x1.toInt < 0 ∨ 12 ≤ x1.toInt ∨ x2.toInt < 0 ∨ 12 ≤ x2.toInt) ∧ ¬ (x1.toInt = x2.toInt ∨ x3.toInt < -500 ∨ 500 < x3.toInt) ∧ 60 ≤ (σ.2 10).toInt ∧ (σ9.2 10).toInt = (σ.2 10).toInt) → P σ9 v9) : hs_ok2 (fX10_tell σ x1 x2 x3) P := by
  unfold fX10_tell
  show hs_ok _ _
  have : (-2147483648 : Int) ≤ (σ.2 0).toInt ∧ (σ.2 0).toInt ≤ 2147483647 := I.2.1 0
  have : (0 : Int) ≤ (σ.2 10).toInt ∧ (σ.2 10).toInt ≤ 60 := I.2.1 10
  refine hs_pf (v := 0) I (hs_any _) (fun r => ⟨hm_Ri (by decide) r.1, ri 0 (by decide) _ _ r.2⟩) (fun σ1_1 eσ1_1 Iσ1_1 => ?_)
  have : (σ1_1.2 0).toInt = (0) := by rw [eσ1_1]; rfl
  have : (σ1_1.2 10).toInt = (σ.2 10).toInt := by rw [eσ1_1]; rfl
  have : (-2147483648 : Int) ≤ (σ1_1.2 0).toInt ∧ (σ1_1.2 0).toInt ≤ 2147483647 := Iσ1_1.2.1 0
  have : (0 : Int) ≤ (σ1_1.2 10).toInt ∧ (σ1_1.2 10).toInt ≤ 60 := Iσ1_1.2.1 10
  refine hs_noT (fun (u_2_0 : (0 : Int) ≤ (x1 : Int32).toInt) (u_2_1 : (x1 : Int32).toInt < 12) => ?_) (fun (u_2_0 : (x1 : Int32).toInt < 0 ∨ 12 ≤ (x1 : Int32).toInt) => ?_)
  · skip
    refine hs_ite (fun h_3 => ?_) (fun h_3 => ?_)
    · skip
      refine hs_noT (fun (u_4_0 : (0 : Int) ≤ (x2 : Int32).toInt) (u_4_1 : (x2 : Int32).toInt < 12) => ?_) (fun (u_4_0 : (x2 : Int32).toInt < 0 ∨ 12 ≤ (x2 : Int32).toInt) => ?_)
      · skip
        refine hs_ite (fun h_5 => ?_) (fun h_5 => ?_)
        · skip
          unfold fX10_tell_25
          refine hs_th0 ?_
          refine hs_ite (fun h_6 => ?_) (fun h_6 => ?_)
          · skip
            refine hs_ite (fun h_7 => ?_) (fun h_7 => ?_)
            · have : (x1 : Int32).toInt = (x2 : Int32).toInt := congrArg Int32.toInt h_7
              unfold fX10_tell_51
              unfold fX10_tell_56
              refine hs_th1 Iσ1_1 (hs_any _) (fun r => ⟨hm_Ri (by decide) r.1, ri 0 (by decide) _ _ r.2⟩) (fun σ1_8 eσ1_8 Iσ1_8 => ?_)
              have : (σ1_8.2 0).toInt = (2) := by rw [eσ1_8]; rfl
              have : (σ1_8.2 10).toInt = (σ1_1.2 10).toInt := by rw [eσ1_8]; rfl
              have : (-2147483648 : Int) ≤ (σ1_8.2 0).toInt ∧ (σ1_8.2 0).toInt ≤ 2147483647 := Iσ1_8.2.1 0
              have : (0 : Int) ≤ (σ1_8.2 10).toInt ∧ (σ1_8.2 10).toInt ≤ 60 := Iσ1_8.2.1 10
              refine hs_ite (fun h_9 => ?_) (fun h_9 => ?_)
              · exact absurd h_9 (by decide)
              · skip
                exact hs_some (hQ σ1_8 (0 : Int32) Iσ1_8 (show ((σ1_8.2 0).toInt = 0 ∧ ¬ (x1.toInt < 0 ∨ 12 ≤ x1.toInt ∨ x2.toInt < 0 ∨ 12 ≤ x2.toInt) ∧ ¬ (x1.toInt = x2.toInt ∨ x3.toInt < -500 ∨ 500 < x3.toInt) ∧ (σ.2 10).toInt < 60 ∧ (σ1_8.2 10).toInt = (σ.2 10).toInt + 1 ∧ (0) = (σ.2 10).toInt) ∨ ((σ1_8.2 0).toInt = 1 ∧ (x1.toInt < 0 ∨ 12 ≤ x1.toInt ∨ x2.toInt < 0 ∨ 12 ≤ x2.toInt) ∧ (σ1_8.2 10).toInt = (σ.2 10).toInt) ∨ ((σ1_8.2 0).toInt = 2 ∧ ¬ (x1.toInt < 0 ∨ 12 ≤ x1.toInt ∨ x2.toInt < 0 ∨ 12 ≤ x2.toInt) ∧ (x1.toInt = x2.toInt ∨ x3.toInt < -500 ∨ 500 < x3.toInt) ∧ (σ1_8.2 10).toInt = (σ.2 10).toInt) ∨ ((σ1_8.2 0).toInt = 3 ∧ ¬ (x1.toInt < 0 ∨ 12 ≤ x1.toInt ∨ x2.toInt < 0 ∨ 12 ≤ x2.toInt) ∧ ¬ (x1.toInt = x2.toInt ∨ x3.toInt < -500 ∨ 500 < x3.toInt) ∧ 60 ≤ (σ.2 10).toInt ∧ (σ1_8.2 10).toInt = (σ.2 10).toInt) by omega))
            · have : ¬ (x1 : Int32).toInt = (x2 : Int32).toInt := fun z => h_7 (Int32.toInt_inj.mp z)
              refine hs_bIn (fun (u_10_0 : (-500) ≤ (x3 : Int32).toInt) (u_10_1 : (x3 : Int32).toInt ≤ (500)) => ?_) (fun (u_10_0 : (x3 : Int32).toInt < (-500) ∨ (500) < (x3 : Int32).toInt) => ?_)
              · skip
                refine hs_ite (fun h_11 => ?_) (fun h_11 => ?_)
                · exact absurd h_11 (by decide)
                · skip
                  unfold fX10_tell_56
                  refine hs_th0 ?_
                  refine hs_ite (fun h_12 => ?_) (fun h_12 => ?_)
                  · skip
                    refine hs_bd (s_fX10_tells (fun j h => ra j (hs_inc (by decide) h)) (fun j h => ri j (hs_inc (by decide) h)) σ1_1 x1 x2 x3 Iσ1_1 (show 0 ≤ (x1 : Int32).toInt by omega) (show (x1 : Int32).toInt ≤ 12 by omega) (show 0 ≤ (x2 : Int32).toInt by omega) (show (x2 : Int32).toInt ≤ 12 by omega) (fun σ5_14 v6_13 Iσ5_14 (gv6_13_0 : ((σ1_1.2 10).toInt < 60 ∧ (σ5_14.2 0).toInt = (σ1_1.2 0).toInt ∧ (σ5_14.2 10).toInt = (σ1_1.2 10).toInt + 1 ∧ v6_13.toInt = (σ1_1.2 10).toInt) ∨ (60 ≤ (σ1_1.2 10).toInt ∧ (σ5_14.2 0).toInt = 3 ∧ (σ5_14.2 10).toInt = (σ1_1.2 10).toInt)) => ?_))
                    have : (-2147483648 : Int) ≤ (σ5_14.2 0).toInt ∧ (σ5_14.2 0).toInt ≤ 2147483647 := Iσ5_14.2.1 0
                    have : (0 : Int) ≤ (σ5_14.2 10).toInt ∧ (σ5_14.2 10).toInt ≤ 60 := Iσ5_14.2.1 10
                    exact hs_some (hQ σ5_14 (v6_13 : Int32) Iσ5_14 (show ((σ5_14.2 0).toInt = 0 ∧ ¬ (x1.toInt < 0 ∨ 12 ≤ x1.toInt ∨ x2.toInt < 0 ∨ 12 ≤ x2.toInt) ∧ ¬ (x1.toInt = x2.toInt ∨ x3.toInt < -500 ∨ 500 < x3.toInt) ∧ (σ.2 10).toInt < 60 ∧ (σ5_14.2 10).toInt = (σ.2 10).toInt + 1 ∧ (v6_13 : Int32).toInt = (σ.2 10).toInt) ∨ ((σ5_14.2 0).toInt = 1 ∧ (x1.toInt < 0 ∨ 12 ≤ x1.toInt ∨ x2.toInt < 0 ∨ 12 ≤ x2.toInt) ∧ (σ5_14.2 10).toInt = (σ.2 10).toInt) ∨ ((σ5_14.2 0).toInt = 2 ∧ ¬ (x1.toInt < 0 ∨ 12 ≤ x1.toInt ∨ x2.toInt < 0 ∨ 12 ≤ x2.toInt) ∧ (x1.toInt = x2.toInt ∨ x3.toInt < -500 ∨ 500 < x3.toInt) ∧ (σ5_14.2 10).toInt = (σ.2 10).toInt) ∨ ((σ5_14.2 0).toInt = 3 ∧ ¬ (x1.toInt < 0 ∨ 12 ≤ x1.toInt ∨ x2.toInt < 0 ∨ 12 ≤ x2.toInt) ∧ ¬ (x1.toInt = x2.toInt ∨ x3.toInt < -500 ∨ 500 < x3.toInt) ∧ 60 ≤ (σ.2 10).toInt ∧ (σ5_14.2 10).toInt = (σ.2 10).toInt) by omega))
                  · exact absurd (by decide) h_12
              · skip
                refine hs_ite (fun h_15 => ?_) (fun h_15 => ?_)
                · skip
                  unfold fX10_tell_51
                  unfold fX10_tell_56
                  refine hs_th1 Iσ1_1 (hs_any _) (fun r => ⟨hm_Ri (by decide) r.1, ri 0 (by decide) _ _ r.2⟩) (fun σ1_16 eσ1_16 Iσ1_16 => ?_)
                  have : (σ1_16.2 0).toInt = (2) := by rw [eσ1_16]; rfl
                  have : (σ1_16.2 10).toInt = (σ1_1.2 10).toInt := by rw [eσ1_16]; rfl
                  have : (-2147483648 : Int) ≤ (σ1_16.2 0).toInt ∧ (σ1_16.2 0).toInt ≤ 2147483647 := Iσ1_16.2.1 0
                  have : (0 : Int) ≤ (σ1_16.2 10).toInt ∧ (σ1_16.2 10).toInt ≤ 60 := Iσ1_16.2.1 10
                  refine hs_ite (fun h_17 => ?_) (fun h_17 => ?_)
                  · exact absurd h_17 (by decide)
                  · skip
                    exact hs_some (hQ σ1_16 (0 : Int32) Iσ1_16 (show ((σ1_16.2 0).toInt = 0 ∧ ¬ (x1.toInt < 0 ∨ 12 ≤ x1.toInt ∨ x2.toInt < 0 ∨ 12 ≤ x2.toInt) ∧ ¬ (x1.toInt = x2.toInt ∨ x3.toInt < -500 ∨ 500 < x3.toInt) ∧ (σ.2 10).toInt < 60 ∧ (σ1_16.2 10).toInt = (σ.2 10).toInt + 1 ∧ (0) = (σ.2 10).toInt) ∨ ((σ1_16.2 0).toInt = 1 ∧ (x1.toInt < 0 ∨ 12 ≤ x1.toInt ∨ x2.toInt < 0 ∨ 12 ≤ x2.toInt) ∧ (σ1_16.2 10).toInt = (σ.2 10).toInt) ∨ ((σ1_16.2 0).toInt = 2 ∧ ¬ (x1.toInt < 0 ∨ 12 ≤ x1.toInt ∨ x2.toInt < 0 ∨ 12 ≤ x2.toInt) ∧ (x1.toInt = x2.toInt ∨ x3.toInt < -500 ∨ 500 < x3.toInt) ∧ (σ1_16.2 10).toInt = (σ.2 10).toInt) ∨ ((σ1_16.2 0).toInt = 3 ∧ ¬ (x1.toInt < 0 ∨ 12 ≤ x1.toInt ∨ x2.toInt < 0 ∨ 12 ≤ x2.toInt) ∧ ¬ (x1.toInt = x2.toInt ∨ x3.toInt < -500 ∨ 500 < x3.toInt) ∧ 60 ≤ (σ.2 10).toInt ∧ (σ1_16.2 10).toInt = (σ.2 10).toInt) by omega))
                · exact absurd (by decide) h_15
          · exact absurd (by decide) h_6
        · exact absurd (by decide) h_5
      · skip
        refine hs_ite (fun h_18 => ?_) (fun h_18 => ?_)
        · exact absurd h_18 (by decide)
        · skip
          unfold fX10_tell_20
          unfold fX10_tell_25
          refine hs_th1 Iσ1_1 (hs_any _) (fun r => ⟨hm_Ri (by decide) r.1, ri 0 (by decide) _ _ r.2⟩) (fun σ1_19 eσ1_19 Iσ1_19 => ?_)
          have : (σ1_19.2 0).toInt = (1) := by rw [eσ1_19]; rfl
          have : (σ1_19.2 10).toInt = (σ1_1.2 10).toInt := by rw [eσ1_19]; rfl
          have : (-2147483648 : Int) ≤ (σ1_19.2 0).toInt ∧ (σ1_19.2 0).toInt ≤ 2147483647 := Iσ1_19.2.1 0
          have : (0 : Int) ≤ (σ1_19.2 10).toInt ∧ (σ1_19.2 10).toInt ≤ 60 := Iσ1_19.2.1 10
          refine hs_ite (fun h_20 => ?_) (fun h_20 => ?_)
          · exact absurd h_20 (by decide)
          · skip
            exact hs_some (hQ σ1_19 (0 : Int32) Iσ1_19 (show ((σ1_19.2 0).toInt = 0 ∧ ¬ (x1.toInt < 0 ∨ 12 ≤ x1.toInt ∨ x2.toInt < 0 ∨ 12 ≤ x2.toInt) ∧ ¬ (x1.toInt = x2.toInt ∨ x3.toInt < -500 ∨ 500 < x3.toInt) ∧ (σ.2 10).toInt < 60 ∧ (σ1_19.2 10).toInt = (σ.2 10).toInt + 1 ∧ (0) = (σ.2 10).toInt) ∨ ((σ1_19.2 0).toInt = 1 ∧ (x1.toInt < 0 ∨ 12 ≤ x1.toInt ∨ x2.toInt < 0 ∨ 12 ≤ x2.toInt) ∧ (σ1_19.2 10).toInt = (σ.2 10).toInt) ∨ ((σ1_19.2 0).toInt = 2 ∧ ¬ (x1.toInt < 0 ∨ 12 ≤ x1.toInt ∨ x2.toInt < 0 ∨ 12 ≤ x2.toInt) ∧ (x1.toInt = x2.toInt ∨ x3.toInt < -500 ∨ 500 < x3.toInt) ∧ (σ1_19.2 10).toInt = (σ.2 10).toInt) ∨ ((σ1_19.2 0).toInt = 3 ∧ ¬ (x1.toInt < 0 ∨ 12 ≤ x1.toInt ∨ x2.toInt < 0 ∨ 12 ≤ x2.toInt) ∧ ¬ (x1.toInt = x2.toInt ∨ x3.toInt < -500 ∨ 500 < x3.toInt) ∧ 60 ≤ (σ.2 10).toInt ∧ (σ1_19.2 10).toInt = (σ.2 10).toInt) by omega))
    · exact absurd (by decide) h_3
  · skip
    refine hs_ite (fun h_21 => ?_) (fun h_21 => ?_)
    · exact absurd h_21 (by decide)
    · skip
      unfold fX10_tell_20
      unfold fX10_tell_25
      refine hs_th1 Iσ1_1 (hs_any _) (fun r => ⟨hm_Ri (by decide) r.1, ri 0 (by decide) _ _ r.2⟩) (fun σ1_22 eσ1_22 Iσ1_22 => ?_)
      have : (σ1_22.2 0).toInt = (1) := by rw [eσ1_22]; rfl
      have : (σ1_22.2 10).toInt = (σ1_1.2 10).toInt := by rw [eσ1_22]; rfl
      have : (-2147483648 : Int) ≤ (σ1_22.2 0).toInt ∧ (σ1_22.2 0).toInt ≤ 2147483647 := Iσ1_22.2.1 0
      have : (0 : Int) ≤ (σ1_22.2 10).toInt ∧ (σ1_22.2 10).toInt ≤ 60 := Iσ1_22.2.1 10
      refine hs_ite (fun h_23 => ?_) (fun h_23 => ?_)
      · exact absurd h_23 (by decide)
      · skip
        exact hs_some (hQ σ1_22 (0 : Int32) Iσ1_22 (show ((σ1_22.2 0).toInt = 0 ∧ ¬ (x1.toInt < 0 ∨ 12 ≤ x1.toInt ∨ x2.toInt < 0 ∨ 12 ≤ x2.toInt) ∧ ¬ (x1.toInt = x2.toInt ∨ x3.toInt < -500 ∨ 500 < x3.toInt) ∧ (σ.2 10).toInt < 60 ∧ (σ1_22.2 10).toInt = (σ.2 10).toInt + 1 ∧ (0) = (σ.2 10).toInt) ∨ ((σ1_22.2 0).toInt = 1 ∧ (x1.toInt < 0 ∨ 12 ≤ x1.toInt ∨ x2.toInt < 0 ∨ 12 ≤ x2.toInt) ∧ (σ1_22.2 10).toInt = (σ.2 10).toInt) ∨ ((σ1_22.2 0).toInt = 2 ∧ ¬ (x1.toInt < 0 ∨ 12 ≤ x1.toInt ∨ x2.toInt < 0 ∨ 12 ≤ x2.toInt) ∧ (x1.toInt = x2.toInt ∨ x3.toInt < -500 ∨ 500 < x3.toInt) ∧ (σ1_22.2 10).toInt = (σ.2 10).toInt) ∨ ((σ1_22.2 0).toInt = 3 ∧ ¬ (x1.toInt < 0 ∨ 12 ≤ x1.toInt ∨ x2.toInt < 0 ∨ 12 ≤ x2.toInt) ∧ ¬ (x1.toInt = x2.toInt ∨ x3.toInt < -500 ∨ 500 < x3.toInt) ∧ 60 ≤ (σ.2 10).toInt ∧ (σ1_22.2 10).toInt = (σ.2 10).toInt) by omega))
theorem s_fX10_bound {R : hy_S → Prop} (ra : ∀ j, j ∈ ([23, 24, 25, 26, 27] : List Nat) → ∀ (τ : hy_S) (g : Nat → Int32), R τ → R (hy_sc τ j g)) (ri : ∀ j, j ∈ ([0, 10] : List Nat) → ∀ (τ : hy_S) (v : Int32), R τ → R (hy_si τ j v)) (σ : hy_S) (x1 : Int32) (x2 : Int32) (x3 : Int32) {P : hy_S → Int32 → Prop} (I : hm_I R σ) (hQ : ∀ (σ9 : hy_S) (v9 : Int32), hm_I R σ9 → ((σ9.2 0).toInt = 0 ∧ ¬ (x1.toInt < 0 ∨ 12 ≤ x1.toInt) ∧ ¬ (x2.toInt < 0 ∨ 1000 < x2.toInt) ∧ (σ.2 10).toInt < 60 ∧ (σ9.2 10).toInt = (σ.2 10).toInt + 1 ∧ v9.toInt = (σ.2 10).toInt) ∨ ((σ9.2 0).toInt = 1 ∧ (x1.toInt < 0 ∨ 12 ≤ x1.toInt) ∧ (σ9.2 10).toInt = (σ.2 10).toInt) ∨ ((σ9.2 0).toInt = 2 ∧ ¬ (x1.toInt < 0 ∨ 12 ≤ x1.toInt) ∧ (x2.toInt < 0 ∨ 1000 < x2.toInt) ∧ (σ9.2 10).toInt = (σ.2 10).toInt) ∨ ((σ9.2 0).toInt = 3 ∧ ¬ (x1.toInt < 0 ∨ 12 ≤ x1.toInt) ∧ ¬ (x2.toInt < 0 ∨ 1000 < x2.toInt) ∧ 60 ≤ (σ.2 10).toInt ∧ (σ9.2 10).toInt = (σ.2 10).toInt) → P σ9 v9) : hs_ok2 (fX10_bound σ x1 x2 x3) P := by
  unfold fX10_bound
  show hs_ok _ _
  have : (-2147483648 : Int) ≤ (σ.2 0).toInt ∧ (σ.2 0).toInt ≤ 2147483647 := I.2.1 0
  have : (0 : Int) ≤ (σ.2 10).toInt ∧ (σ.2 10).toInt ≤ 60 := I.2.1 10
  refine hs_pf (v := 0) I (hs_any _) (fun r => ⟨hm_Ri (by decide) r.1, ri 0 (by decide) _ _ r.2⟩) (fun σ1_1 eσ1_1 Iσ1_1 => ?_)
  have : (σ1_1.2 0).toInt = (0) := by rw [eσ1_1]; rfl
  have : (σ1_1.2 10).toInt = (σ.2 10).toInt := by rw [eσ1_1]; rfl
  have : (-2147483648 : Int) ≤ (σ1_1.2 0).toInt ∧ (σ1_1.2 0).toInt ≤ 2147483647 := Iσ1_1.2.1 0
  have : (0 : Int) ≤ (σ1_1.2 10).toInt ∧ (σ1_1.2 10).toInt ≤ 60 := Iσ1_1.2.1 10
  refine hs_noT (fun (u_2_0 : (0 : Int) ≤ (x1 : Int32).toInt) (u_2_1 : (x1 : Int32).toInt < 12) => ?_) (fun (u_2_0 : (x1 : Int32).toInt < 0 ∨ 12 ≤ (x1 : Int32).toInt) => ?_)
  · skip
    refine hs_th0 ?_
    refine hs_ite (fun h_3 => ?_) (fun h_3 => ?_)
    · skip
      refine hs_bIn (fun (u_4_0 : (0) ≤ (x2 : Int32).toInt) (u_4_1 : (x2 : Int32).toInt ≤ (1000)) => ?_) (fun (u_4_0 : (x2 : Int32).toInt < (0) ∨ (1000) < (x2 : Int32).toInt) => ?_)
      · skip
        refine hs_ite (fun h_5 => ?_) (fun h_5 => ?_)
        · exact absurd h_5 (by decide)
        · skip
          unfold fX10_bound_34
          refine hs_th0 ?_
          refine hs_ite (fun h_6 => ?_) (fun h_6 => ?_)
          · skip
            refine hs_ite (fun h_7 => ?_) (fun h_7 => ?_)
            · have : (x3 : Int32).toInt = (0) := congrArg Int32.toInt h_7
              refine hs_bd (s_fX10_tells (fun j h => ra j (hs_inc (by decide) h)) (fun j h => ri j (hs_inc (by decide) h)) σ1_1 (12 : Int32) x1 x2 Iσ1_1 (show 0 ≤ (12) by omega) (show (12) ≤ 12 by omega) (show 0 ≤ (x1 : Int32).toInt by omega) (show (x1 : Int32).toInt ≤ 12 by omega) (fun σ6_9 v7_8 Iσ6_9 (gv7_8_0 : ((σ1_1.2 10).toInt < 60 ∧ (σ6_9.2 0).toInt = (σ1_1.2 0).toInt ∧ (σ6_9.2 10).toInt = (σ1_1.2 10).toInt + 1 ∧ v7_8.toInt = (σ1_1.2 10).toInt) ∨ (60 ≤ (σ1_1.2 10).toInt ∧ (σ6_9.2 0).toInt = 3 ∧ (σ6_9.2 10).toInt = (σ1_1.2 10).toInt)) => ?_))
              have : (-2147483648 : Int) ≤ (σ6_9.2 0).toInt ∧ (σ6_9.2 0).toInt ≤ 2147483647 := Iσ6_9.2.1 0
              have : (0 : Int) ≤ (σ6_9.2 10).toInt ∧ (σ6_9.2 10).toInt ≤ 60 := Iσ6_9.2.1 10
              exact hs_some (hQ σ6_9 (v7_8 : Int32) Iσ6_9 (show ((σ6_9.2 0).toInt = 0 ∧ ¬ (x1.toInt < 0 ∨ 12 ≤ x1.toInt) ∧ ¬ (x2.toInt < 0 ∨ 1000 < x2.toInt) ∧ (σ.2 10).toInt < 60 ∧ (σ6_9.2 10).toInt = (σ.2 10).toInt + 1 ∧ (v7_8 : Int32).toInt = (σ.2 10).toInt) ∨ ((σ6_9.2 0).toInt = 1 ∧ (x1.toInt < 0 ∨ 12 ≤ x1.toInt) ∧ (σ6_9.2 10).toInt = (σ.2 10).toInt) ∨ ((σ6_9.2 0).toInt = 2 ∧ ¬ (x1.toInt < 0 ∨ 12 ≤ x1.toInt) ∧ (x2.toInt < 0 ∨ 1000 < x2.toInt) ∧ (σ6_9.2 10).toInt = (σ.2 10).toInt) ∨ ((σ6_9.2 0).toInt = 3 ∧ ¬ (x1.toInt < 0 ∨ 12 ≤ x1.toInt) ∧ ¬ (x2.toInt < 0 ∨ 1000 < x2.toInt) ∧ 60 ≤ (σ.2 10).toInt ∧ (σ6_9.2 10).toInt = (σ.2 10).toInt) by omega))
            · have : ¬ (x3 : Int32).toInt = (0) := fun z => h_7 (Int32.toInt_inj.mp z)
              obtain ⟨e_10, he_10⟩ : ∃ e9 : Int32, e9 = (-x2) := ⟨_, rfl⟩
              try have : e_10.toInt = -(x2 : Int32).toInt := by rw [he_10]; exact hs_neg (by omega) (by omega)
              try rw [← he_10]
              refine hs_bd (s_fX10_tells (fun j h => ra j (hs_inc (by decide) h)) (fun j h => ri j (hs_inc (by decide) h)) σ1_1 x1 (12 : Int32) e_10 Iσ1_1 (show 0 ≤ (x1 : Int32).toInt by omega) (show (x1 : Int32).toInt ≤ 12 by omega) (show 0 ≤ (12) by omega) (show (12) ≤ 12 by omega) (fun σ9_12 v10_11 Iσ9_12 (gv10_11_0 : ((σ1_1.2 10).toInt < 60 ∧ (σ9_12.2 0).toInt = (σ1_1.2 0).toInt ∧ (σ9_12.2 10).toInt = (σ1_1.2 10).toInt + 1 ∧ v10_11.toInt = (σ1_1.2 10).toInt) ∨ (60 ≤ (σ1_1.2 10).toInt ∧ (σ9_12.2 0).toInt = 3 ∧ (σ9_12.2 10).toInt = (σ1_1.2 10).toInt)) => ?_))
              have : (-2147483648 : Int) ≤ (σ9_12.2 0).toInt ∧ (σ9_12.2 0).toInt ≤ 2147483647 := Iσ9_12.2.1 0
              have : (0 : Int) ≤ (σ9_12.2 10).toInt ∧ (σ9_12.2 10).toInt ≤ 60 := Iσ9_12.2.1 10
              exact hs_some (hQ σ9_12 (v10_11 : Int32) Iσ9_12 (show ((σ9_12.2 0).toInt = 0 ∧ ¬ (x1.toInt < 0 ∨ 12 ≤ x1.toInt) ∧ ¬ (x2.toInt < 0 ∨ 1000 < x2.toInt) ∧ (σ.2 10).toInt < 60 ∧ (σ9_12.2 10).toInt = (σ.2 10).toInt + 1 ∧ (v10_11 : Int32).toInt = (σ.2 10).toInt) ∨ ((σ9_12.2 0).toInt = 1 ∧ (x1.toInt < 0 ∨ 12 ≤ x1.toInt) ∧ (σ9_12.2 10).toInt = (σ.2 10).toInt) ∨ ((σ9_12.2 0).toInt = 2 ∧ ¬ (x1.toInt < 0 ∨ 12 ≤ x1.toInt) ∧ (x2.toInt < 0 ∨ 1000 < x2.toInt) ∧ (σ9_12.2 10).toInt = (σ.2 10).toInt) ∨ ((σ9_12.2 0).toInt = 3 ∧ ¬ (x1.toInt < 0 ∨ 12 ≤ x1.toInt) ∧ ¬ (x2.toInt < 0 ∨ 1000 < x2.toInt) ∧ 60 ≤ (σ.2 10).toInt ∧ (σ9_12.2 10).toInt = (σ.2 10).toInt) by omega))
          · exact absurd (by decide) h_6
      · skip
        refine hs_ite (fun h_13 => ?_) (fun h_13 => ?_)
        · skip
          unfold fX10_bound_34
          refine hs_th1 Iσ1_1 (hs_any _) (fun r => ⟨hm_Ri (by decide) r.1, ri 0 (by decide) _ _ r.2⟩) (fun σ1_14 eσ1_14 Iσ1_14 => ?_)
          have : (σ1_14.2 0).toInt = (2) := by rw [eσ1_14]; rfl
          have : (σ1_14.2 10).toInt = (σ1_1.2 10).toInt := by rw [eσ1_14]; rfl
          have : (-2147483648 : Int) ≤ (σ1_14.2 0).toInt ∧ (σ1_14.2 0).toInt ≤ 2147483647 := Iσ1_14.2.1 0
          have : (0 : Int) ≤ (σ1_14.2 10).toInt ∧ (σ1_14.2 10).toInt ≤ 60 := Iσ1_14.2.1 10
          refine hs_ite (fun h_15 => ?_) (fun h_15 => ?_)
          · exact absurd h_15 (by decide)
          · skip
            exact hs_some (hQ σ1_14 (0 : Int32) Iσ1_14 (show ((σ1_14.2 0).toInt = 0 ∧ ¬ (x1.toInt < 0 ∨ 12 ≤ x1.toInt) ∧ ¬ (x2.toInt < 0 ∨ 1000 < x2.toInt) ∧ (σ.2 10).toInt < 60 ∧ (σ1_14.2 10).toInt = (σ.2 10).toInt + 1 ∧ (0) = (σ.2 10).toInt) ∨ ((σ1_14.2 0).toInt = 1 ∧ (x1.toInt < 0 ∨ 12 ≤ x1.toInt) ∧ (σ1_14.2 10).toInt = (σ.2 10).toInt) ∨ ((σ1_14.2 0).toInt = 2 ∧ ¬ (x1.toInt < 0 ∨ 12 ≤ x1.toInt) ∧ (x2.toInt < 0 ∨ 1000 < x2.toInt) ∧ (σ1_14.2 10).toInt = (σ.2 10).toInt) ∨ ((σ1_14.2 0).toInt = 3 ∧ ¬ (x1.toInt < 0 ∨ 12 ≤ x1.toInt) ∧ ¬ (x2.toInt < 0 ∨ 1000 < x2.toInt) ∧ 60 ≤ (σ.2 10).toInt ∧ (σ1_14.2 10).toInt = (σ.2 10).toInt) by omega))
        · exact absurd (by decide) h_13
    · exact absurd (by decide) h_3
  · skip
    refine hs_th1 Iσ1_1 (hs_any _) (fun r => ⟨hm_Ri (by decide) r.1, ri 0 (by decide) _ _ r.2⟩) (fun σ6_16 eσ6_16 Iσ6_16 => ?_)
    have : (σ6_16.2 0).toInt = (1) := by rw [eσ6_16]; rfl
    have : (σ6_16.2 10).toInt = (σ1_1.2 10).toInt := by rw [eσ6_16]; rfl
    have : (-2147483648 : Int) ≤ (σ6_16.2 0).toInt ∧ (σ6_16.2 0).toInt ≤ 2147483647 := Iσ6_16.2.1 0
    have : (0 : Int) ≤ (σ6_16.2 10).toInt ∧ (σ6_16.2 10).toInt ≤ 60 := Iσ6_16.2.1 10
    refine hs_ite (fun h_17 => ?_) (fun h_17 => ?_)
    · exact absurd h_17 (by decide)
    · skip
      exact hs_some (hQ σ6_16 (0 : Int32) Iσ6_16 (show ((σ6_16.2 0).toInt = 0 ∧ ¬ (x1.toInt < 0 ∨ 12 ≤ x1.toInt) ∧ ¬ (x2.toInt < 0 ∨ 1000 < x2.toInt) ∧ (σ.2 10).toInt < 60 ∧ (σ6_16.2 10).toInt = (σ.2 10).toInt + 1 ∧ (0) = (σ.2 10).toInt) ∨ ((σ6_16.2 0).toInt = 1 ∧ (x1.toInt < 0 ∨ 12 ≤ x1.toInt) ∧ (σ6_16.2 10).toInt = (σ.2 10).toInt) ∨ ((σ6_16.2 0).toInt = 2 ∧ ¬ (x1.toInt < 0 ∨ 12 ≤ x1.toInt) ∧ (x2.toInt < 0 ∨ 1000 < x2.toInt) ∧ (σ6_16.2 10).toInt = (σ.2 10).toInt) ∨ ((σ6_16.2 0).toInt = 3 ∧ ¬ (x1.toInt < 0 ∨ 12 ≤ x1.toInt) ∧ ¬ (x2.toInt < 0 ∨ 1000 < x2.toInt) ∧ 60 ≤ (σ.2 10).toInt ∧ (σ6_16.2 10).toInt = (σ.2 10).toInt) by omega))
theorem s_fX10_undo {R : hy_S → Prop} (ra : ∀ j, j ∈ ([27] : List Nat) → ∀ (τ : hy_S) (g : Nat → Int32), R τ → R (hy_sc τ j g)) (ri : ∀ j, j ∈ ([0] : List Nat) → ∀ (τ : hy_S) (v : Int32), R τ → R (hy_si τ j v)) (σ : hy_S) (x1 : Int32) {P : hy_S → Int32 → Prop} (I : hm_I R σ) (hQ : ∀ (σ9 : hy_S) (v9 : Int32), hm_I R σ9 → P σ9 v9) : hs_ok2 (fX10_undo σ x1) P := by
  unfold fX10_undo
  show hs_ok _ _
  have : (-2147483648 : Int) ≤ (σ.2 0).toInt ∧ (σ.2 0).toInt ≤ 2147483647 := I.2.1 0
  have : (0 : Int) ≤ (σ.2 10).toInt ∧ (σ.2 10).toInt ≤ 60 := I.2.1 10
  have : (-2147483648 : Int) ≤ (σ.2 11).toInt ∧ (σ.2 11).toInt ≤ 2147483647 := I.2.1 11
  refine hs_pf (v := 0) I (hs_any _) (fun r => ⟨hm_Ri (by decide) r.1, ri 0 (by decide) _ _ r.2⟩) (fun σ1_1 eσ1_1 Iσ1_1 => ?_)
  have : (σ1_1.2 0).toInt = (0) := by rw [eσ1_1]; rfl
  have : (σ1_1.2 10).toInt = (σ.2 10).toInt := by rw [eσ1_1]; rfl
  have : (σ1_1.2 11).toInt = (σ.2 11).toInt := by rw [eσ1_1]; rfl
  have : (-2147483648 : Int) ≤ (σ1_1.2 0).toInt ∧ (σ1_1.2 0).toInt ≤ 2147483647 := Iσ1_1.2.1 0
  have : (0 : Int) ≤ (σ1_1.2 10).toInt ∧ (σ1_1.2 10).toInt ≤ 60 := Iσ1_1.2.1 10
  have : (-2147483648 : Int) ≤ (σ1_1.2 11).toInt ∧ (σ1_1.2 11).toInt ≤ 2147483647 := Iσ1_1.2.1 11
  obtain ⟨e_2, he_2⟩ : ∃ e9 : Int32, e9 = ((σ1_1.2 10) - 1) := ⟨_, rfl⟩
  try have : e_2.toInt = ((σ1_1.2 10) : Int32).toInt - (1) := by rw [he_2]; exact hs_subk (1) rfl (by omega) (by omega)
  try rw [← he_2]
  refine hs_bIn (fun (u_3_0 : (0) ≤ (x1 : Int32).toInt) (u_3_1 : (x1 : Int32).toInt ≤ (e_2 : Int32).toInt) => ?_) (fun (u_3_0 : (x1 : Int32).toInt < (0) ∨ (e_2 : Int32).toInt < (x1 : Int32).toInt) => ?_)
  · skip
    refine hs_ite (fun h_4 => ?_) (fun h_4 => ?_)
    · exact absurd h_4 (by decide)
    · skip
      unfold fX10_undo_25
      refine hs_th0 ?_
      refine hs_ite (fun h_5 => ?_) (fun h_5 => ?_)
      · skip
        refine hs_ga (j := 27) Iσ1_1 (by omega) (by omega) (fun v5_6 ev5_6 (bv5_6 : (-2147483648 : Int) ≤ v5_6.toInt ∧ v5_6.toInt ≤ 2147483647) => ?_)
        refine hs_ite (fun h_7 => ?_) (fun h_7 => ?_)
        · have : (v5_6 : Int32).toInt < (0) := Int32.lt_iff_toInt_lt.mp h_7
          refine hs_pa (idx := x1) (v := _) Iσ1_1 (by omega) (by omega) (hs_any _) (fun r => ⟨hm_Ra (by decide) r.1, ra 27 (by decide) _ _ r.2⟩) (fun σ9_8 eσ9_8 Iσ9_8 => ?_)
          have : (σ9_8.2 0).toInt = (σ1_1.2 0).toInt := by rw [eσ9_8]; rfl
          have : (σ9_8.2 10).toInt = (σ1_1.2 10).toInt := by rw [eσ9_8]; rfl
          have : (σ9_8.2 11).toInt = (σ1_1.2 11).toInt := by rw [eσ9_8]; rfl
          have : (-2147483648 : Int) ≤ (σ9_8.2 0).toInt ∧ (σ9_8.2 0).toInt ≤ 2147483647 := Iσ9_8.2.1 0
          have : (0 : Int) ≤ (σ9_8.2 10).toInt ∧ (σ9_8.2 10).toInt ≤ 60 := Iσ9_8.2.1 10
          have : (-2147483648 : Int) ≤ (σ9_8.2 11).toInt ∧ (σ9_8.2 11).toInt ≤ 2147483647 := Iσ9_8.2.1 11
          exact hs_some (hQ σ9_8 (1 : Int32) Iσ9_8 )
        · have : ¬ (v5_6 : Int32).toInt < (0) := fun z => h_7 (Int32.lt_iff_toInt_lt.mpr z)
          exact hs_some (hQ σ1_1 (0 : Int32) Iσ1_1 )
      · exact absurd (by decide) h_5
  · skip
    refine hs_ite (fun h_9 => ?_) (fun h_9 => ?_)
    · skip
      unfold fX10_undo_25
      refine hs_th1 Iσ1_1 (hs_any _) (fun r => ⟨hm_Ri (by decide) r.1, ri 0 (by decide) _ _ r.2⟩) (fun σ1_10 eσ1_10 Iσ1_10 => ?_)
      have : (σ1_10.2 0).toInt = (1) := by rw [eσ1_10]; rfl
      have : (σ1_10.2 10).toInt = (σ1_1.2 10).toInt := by rw [eσ1_10]; rfl
      have : (σ1_10.2 11).toInt = (σ1_1.2 11).toInt := by rw [eσ1_10]; rfl
      have : (-2147483648 : Int) ≤ (σ1_10.2 0).toInt ∧ (σ1_10.2 0).toInt ≤ 2147483647 := Iσ1_10.2.1 0
      have : (0 : Int) ≤ (σ1_10.2 10).toInt ∧ (σ1_10.2 10).toInt ≤ 60 := Iσ1_10.2.1 10
      have : (-2147483648 : Int) ≤ (σ1_10.2 11).toInt ∧ (σ1_10.2 11).toInt ≤ 2147483647 := Iσ1_10.2.1 11
      refine hs_ite (fun h_11 => ?_) (fun h_11 => ?_)
      · exact absurd h_11 (by decide)
      · skip
        exact hs_some (hQ σ1_10 (0 : Int32) Iσ1_10 )
    · exact absurd (by decide) h_9
theorem s_fX10_days {R : hy_S → Prop} (ra : ∀ j, j ∈ ([] : List Nat) → ∀ (τ : hy_S) (g : Nat → Int32), R τ → R (hy_sc τ j g)) (ri : ∀ j, j ∈ ([0, 11] : List Nat) → ∀ (τ : hy_S) (v : Int32), R τ → R (hy_si τ j v)) (σ : hy_S) (x1 : Int32) {P : hy_S → Int32 → Prop} (I : hm_I R σ) (p0 : 0 ≤ (σ.2 11).toInt) (p1 : (σ.2 11).toInt ≤ 600000) (hQ : ∀ (σ9 : hy_S) (v9 : Int32), hm_I R σ9 → ((σ9.2 0).toInt = 0 ∧ 0 ≤ x1.toInt ∧ x1.toInt ≤ 1000 ∧ (σ9.2 11).toInt = (σ.2 11).toInt + x1.toInt ∧ v9.toInt = (σ.2 11).toInt + x1.toInt) ∨ ((σ9.2 0).toInt = 1 ∧ (x1.toInt < 0 ∨ 1000 < x1.toInt) ∧ (σ9.2 11).toInt = (σ.2 11).toInt) → P σ9 v9) : hs_ok2 (fX10_days σ x1) P := by
  unfold fX10_days
  show hs_ok _ _
  have : (-2147483648 : Int) ≤ (σ.2 0).toInt ∧ (σ.2 0).toInt ≤ 2147483647 := I.2.1 0
  have : (-2147483648 : Int) ≤ (σ.2 11).toInt ∧ (σ.2 11).toInt ≤ 2147483647 := I.2.1 11
  refine hs_pf (v := 0) I (hs_any _) (fun r => ⟨hm_Ri (by decide) r.1, ri 0 (by decide) _ _ r.2⟩) (fun σ1_1 eσ1_1 Iσ1_1 => ?_)
  have : (σ1_1.2 0).toInt = (0) := by rw [eσ1_1]; rfl
  have : (σ1_1.2 11).toInt = (σ.2 11).toInt := by rw [eσ1_1]; rfl
  have : (-2147483648 : Int) ≤ (σ1_1.2 0).toInt ∧ (σ1_1.2 0).toInt ≤ 2147483647 := Iσ1_1.2.1 0
  have : (-2147483648 : Int) ≤ (σ1_1.2 11).toInt ∧ (σ1_1.2 11).toInt ≤ 2147483647 := Iσ1_1.2.1 11
  refine hs_bIn (fun (u_2_0 : (0) ≤ (x1 : Int32).toInt) (u_2_1 : (x1 : Int32).toInt ≤ (1000)) => ?_) (fun (u_2_0 : (x1 : Int32).toInt < (0) ∨ (1000) < (x1 : Int32).toInt) => ?_)
  · skip
    refine hs_ite (fun h_3 => ?_) (fun h_3 => ?_)
    · exact absurd h_3 (by decide)
    · skip
      unfold fX10_days_22
      refine hs_th0 ?_
      refine hs_ite (fun h_4 => ?_) (fun h_4 => ?_)
      · skip
        obtain ⟨e_5, he_5⟩ : ∃ e9 : Int32, e9 = ((σ1_1.2 11) + x1) := ⟨_, rfl⟩
        try have : e_5.toInt = ((σ1_1.2 11) : Int32).toInt + (x1 : Int32).toInt := by rw [he_5]; exact hs_add (by omega) (by omega)
        try rw [← he_5]
        refine hs_pf (v := e_5) Iσ1_1 (hs_any _) (fun r => ⟨hm_Ri (by decide) r.1, ri 11 (by decide) _ _ r.2⟩) (fun σ5_6 eσ5_6 Iσ5_6 => ?_)
        have : (σ5_6.2 0).toInt = (σ1_1.2 0).toInt := by rw [eσ5_6]; rfl
        have : (σ5_6.2 11).toInt = (e_5 : Int32).toInt := by rw [eσ5_6]; rfl
        have : (-2147483648 : Int) ≤ (σ5_6.2 0).toInt ∧ (σ5_6.2 0).toInt ≤ 2147483647 := Iσ5_6.2.1 0
        have : (-2147483648 : Int) ≤ (σ5_6.2 11).toInt ∧ (σ5_6.2 11).toInt ≤ 2147483647 := Iσ5_6.2.1 11
        exact hs_some (hQ σ5_6 ((σ5_6.2 11) : Int32) Iσ5_6 (show ((σ5_6.2 0).toInt = 0 ∧ 0 ≤ x1.toInt ∧ x1.toInt ≤ 1000 ∧ (σ5_6.2 11).toInt = (σ.2 11).toInt + x1.toInt ∧ ((σ5_6.2 11) : Int32).toInt = (σ.2 11).toInt + x1.toInt) ∨ ((σ5_6.2 0).toInt = 1 ∧ (x1.toInt < 0 ∨ 1000 < x1.toInt) ∧ (σ5_6.2 11).toInt = (σ.2 11).toInt) by omega))
      · exact absurd (by decide) h_4
  · skip
    refine hs_ite (fun h_7 => ?_) (fun h_7 => ?_)
    · skip
      unfold fX10_days_22
      refine hs_th1 Iσ1_1 (hs_any _) (fun r => ⟨hm_Ri (by decide) r.1, ri 0 (by decide) _ _ r.2⟩) (fun σ1_8 eσ1_8 Iσ1_8 => ?_)
      have : (σ1_8.2 0).toInt = (1) := by rw [eσ1_8]; rfl
      have : (σ1_8.2 11).toInt = (σ1_1.2 11).toInt := by rw [eσ1_8]; rfl
      have : (-2147483648 : Int) ≤ (σ1_8.2 0).toInt ∧ (σ1_8.2 0).toInt ≤ 2147483647 := Iσ1_8.2.1 0
      have : (-2147483648 : Int) ≤ (σ1_8.2 11).toInt ∧ (σ1_8.2 11).toInt ≤ 2147483647 := Iσ1_8.2.1 11
      refine hs_ite (fun h_9 => ?_) (fun h_9 => ?_)
      · exact absurd h_9 (by decide)
      · skip
        exact hs_some (hQ σ1_8 (0 : Int32) Iσ1_8 (show ((σ1_8.2 0).toInt = 0 ∧ 0 ≤ x1.toInt ∧ x1.toInt ≤ 1000 ∧ (σ1_8.2 11).toInt = (σ.2 11).toInt + x1.toInt ∧ (0) = (σ.2 11).toInt + x1.toInt) ∨ ((σ1_8.2 0).toInt = 1 ∧ (x1.toInt < 0 ∨ 1000 < x1.toInt) ∧ (σ1_8.2 11).toInt = (σ.2 11).toInt) by omega))
    · exact absurd (by decide) h_7
theorem s_fX10_steps_25 {R : hy_S → Prop} (ra : ∀ j, j ∈ ([28] : List Nat) → ∀ (τ : hy_S) (g : Nat → Int32), R τ → R (hy_sc τ j g)) (ri : ∀ j, j ∈ ([] : List Nat) → ∀ (τ : hy_S) (v : Int32), R τ → R (hy_si τ j v)) {Q : hy_S × Int32 → Prop} (hQ : ∀ (σ9 : hy_S) (v9 : Int32), hm_I R σ9 → Q (σ9, v9)) : ∀ (n : Nat) (σ : hy_S) (x1 : Int32) (x2 : Int32), hm_I R σ → 0 ≤ x2.toInt → x2.toInt ≤ 60 → 60 - x2.toInt < (n : Int) → hs_ok (fX10_steps_25 n σ x1 x2) Q := by
  intro n
  induction n with
  | zero =>
    intro σ x1 x2 I p0 p1  hm
    have : (0 : Int) ≤ (σ.2 10).toInt ∧ (σ.2 10).toInt ≤ 60 := I.2.1 10
    exact absurd hm (by omega)
  | succ n ih =>
    intro σ x1 x2 I p0 p1  hm
    unfold fX10_steps_25
    have : (0 : Int) ≤ (σ.2 10).toInt ∧ (σ.2 10).toInt ≤ 60 := I.2.1 10
    refine hs_ite (fun h_1 => ?_) (fun h_1 => ?_)
    · have : ((σ.2 10) : Int32).toInt ≤ (x2 : Int32).toInt := Int32.le_iff_toInt_le.mp h_1
      exact hs_some (hQ σ (0 : Int32) I )
    · have : ¬ ((σ.2 10) : Int32).toInt ≤ (x2 : Int32).toInt := fun z => h_1 (Int32.le_iff_toInt_le.mpr z)
      refine hs_ga (j := 26) I (by omega) (by omega) (fun v2_2 ev2_2 (bv2_2 : (-2147483648 : Int) ≤ v2_2.toInt ∧ v2_2.toInt ≤ 2147483647) => ?_)
      refine hs_ite (fun h_3 => ?_) (fun h_3 => ?_)
      · have : (x1 : Int32).toInt < (v2_2 : Int32).toInt := Int32.lt_iff_toInt_lt.mp h_3
        unfold fX10_steps_103
        obtain ⟨e_4, he_4⟩ : ∃ e9 : Int32, e9 = (x2 + 1) := ⟨_, rfl⟩
        try have : e_4.toInt = (x2 : Int32).toInt + (1) := by rw [he_4]; exact hs_addk (1) rfl (by omega) (by omega)
        try rw [← he_4]
        exact ih σ (x1 : Int32) (e_4 : Int32) I (show 0 ≤ (e_4 : Int32).toInt by omega) (show (e_4 : Int32).toInt ≤ 60 by omega)  (by omega)
      · have : ¬ (x1 : Int32).toInt < (v2_2 : Int32).toInt := fun z => h_3 (Int32.lt_iff_toInt_lt.mpr z)
        refine hs_ga (j := 27) I (by omega) (by omega) (fun v6_5 ev6_5 (bv6_5 : (-2147483648 : Int) ≤ v6_5.toInt ∧ v6_5.toInt ≤ 2147483647) => ?_)
        refine hs_ite (fun h_6 => ?_) (fun h_6 => ?_)
        · have : (v6_5 : Int32).toInt < (0) := Int32.lt_iff_toInt_lt.mp h_6
          unfold fX10_steps_65
          refine hs_ga (j := 23) I (by omega) (by omega) (fun v1_7 ev1_7 (bv1_7 : (0 : Int) ≤ v1_7.toInt ∧ v1_7.toInt ≤ 12) => ?_)
          refine hs_ga (j := 24) I (by omega) (by omega) (fun v4_8 ev4_8 (bv4_8 : (0 : Int) ≤ v4_8.toInt ∧ v4_8.toInt ≤ 12) => ?_)
          obtain ⟨e_9, he_9⟩ : ∃ e9 : Int32, e9 = (13 * v1_7) := ⟨_, rfl⟩
          try have : e_9.toInt = (13) * (v1_7 : Int32).toInt := by rw [he_9]; exact hs_mull (13) rfl (by omega) (by omega)
          try rw [← he_9]
          obtain ⟨e_10, he_10⟩ : ∃ e9 : Int32, e9 = (e_9 + v4_8) := ⟨_, rfl⟩
          try have : e_10.toInt = (e_9 : Int32).toInt + (v4_8 : Int32).toInt := by rw [he_10]; exact hs_add (by omega) (by omega)
          try rw [← he_10]
          refine hs_ga (j := 28) I (by omega) (by omega) (fun v7_11 ev7_11 (bv7_11 : (-2147483648 : Int) ≤ v7_11.toInt ∧ v7_11.toInt ≤ 2147483647) => ?_)
          refine hs_ga (j := 25) I (by omega) (by omega) (fun v10_12 ev10_12 (bv10_12 : (-2147483648 : Int) ≤ v10_12.toInt ∧ v10_12.toInt ≤ 2147483647) => ?_)
          try rw [← he_9]
          try rw [← he_10]
          refine hs_pa (idx := e_10) (v := _) I (by omega) (by omega) (hs_any _) (fun r => ⟨hm_Ra (by decide) r.1, ra 28 (by decide) _ _ r.2⟩) (fun σ15_13 eσ15_13 Iσ15_13 => ?_)
          have : (σ15_13.2 10).toInt = (σ.2 10).toInt := by rw [eσ15_13]; rfl
          have : (0 : Int) ≤ (σ15_13.2 10).toInt ∧ (σ15_13.2 10).toInt ≤ 60 := Iσ15_13.2.1 10
          unfold fX10_steps_103
          obtain ⟨e_14, he_14⟩ : ∃ e9 : Int32, e9 = (x2 + 1) := ⟨_, rfl⟩
          try have : e_14.toInt = (x2 : Int32).toInt + (1) := by rw [he_14]; exact hs_addk (1) rfl (by omega) (by omega)
          try rw [← he_14]
          exact ih σ15_13 (x1 : Int32) (e_14 : Int32) Iσ15_13 (show 0 ≤ (e_14 : Int32).toInt by omega) (show (e_14 : Int32).toInt ≤ 60 by omega)  (by omega)
        · have : ¬ (v6_5 : Int32).toInt < (0) := fun z => h_6 (Int32.lt_iff_toInt_lt.mpr z)
          refine hs_ga (j := 27) I (by omega) (by omega) (fun v10_15 ev10_15 (bv10_15 : (-2147483648 : Int) ≤ v10_15.toInt ∧ v10_15.toInt ≤ 2147483647) => ?_)
          refine hs_ite (fun h_16 => ?_) (fun h_16 => ?_)
          · have : (x1 : Int32).toInt < (v10_15 : Int32).toInt := Int32.lt_iff_toInt_lt.mp h_16
            unfold fX10_steps_65
            refine hs_ga (j := 23) I (by omega) (by omega) (fun v1_17 ev1_17 (bv1_17 : (0 : Int) ≤ v1_17.toInt ∧ v1_17.toInt ≤ 12) => ?_)
            refine hs_ga (j := 24) I (by omega) (by omega) (fun v4_18 ev4_18 (bv4_18 : (0 : Int) ≤ v4_18.toInt ∧ v4_18.toInt ≤ 12) => ?_)
            obtain ⟨e_19, he_19⟩ : ∃ e9 : Int32, e9 = (13 * v1_17) := ⟨_, rfl⟩
            try have : e_19.toInt = (13) * (v1_17 : Int32).toInt := by rw [he_19]; exact hs_mull (13) rfl (by omega) (by omega)
            try rw [← he_19]
            obtain ⟨e_20, he_20⟩ : ∃ e9 : Int32, e9 = (e_19 + v4_18) := ⟨_, rfl⟩
            try have : e_20.toInt = (e_19 : Int32).toInt + (v4_18 : Int32).toInt := by rw [he_20]; exact hs_add (by omega) (by omega)
            try rw [← he_20]
            refine hs_ga (j := 28) I (by omega) (by omega) (fun v7_21 ev7_21 (bv7_21 : (-2147483648 : Int) ≤ v7_21.toInt ∧ v7_21.toInt ≤ 2147483647) => ?_)
            refine hs_ga (j := 25) I (by omega) (by omega) (fun v10_22 ev10_22 (bv10_22 : (-2147483648 : Int) ≤ v10_22.toInt ∧ v10_22.toInt ≤ 2147483647) => ?_)
            try rw [← he_19]
            try rw [← he_20]
            refine hs_pa (idx := e_20) (v := _) I (by omega) (by omega) (hs_any _) (fun r => ⟨hm_Ra (by decide) r.1, ra 28 (by decide) _ _ r.2⟩) (fun σ15_23 eσ15_23 Iσ15_23 => ?_)
            have : (σ15_23.2 10).toInt = (σ.2 10).toInt := by rw [eσ15_23]; rfl
            have : (0 : Int) ≤ (σ15_23.2 10).toInt ∧ (σ15_23.2 10).toInt ≤ 60 := Iσ15_23.2.1 10
            unfold fX10_steps_103
            obtain ⟨e_24, he_24⟩ : ∃ e9 : Int32, e9 = (x2 + 1) := ⟨_, rfl⟩
            try have : e_24.toInt = (x2 : Int32).toInt + (1) := by rw [he_24]; exact hs_addk (1) rfl (by omega) (by omega)
            try rw [← he_24]
            exact ih σ15_23 (x1 : Int32) (e_24 : Int32) Iσ15_23 (show 0 ≤ (e_24 : Int32).toInt by omega) (show (e_24 : Int32).toInt ≤ 60 by omega)  (by omega)
          · have : ¬ (x1 : Int32).toInt < (v10_15 : Int32).toInt := fun z => h_16 (Int32.lt_iff_toInt_lt.mpr z)
            unfold fX10_steps_103
            obtain ⟨e_25, he_25⟩ : ∃ e9 : Int32, e9 = (x2 + 1) := ⟨_, rfl⟩
            try have : e_25.toInt = (x2 : Int32).toInt + (1) := by rw [he_25]; exact hs_addk (1) rfl (by omega) (by omega)
            try rw [← he_25]
            exact ih σ (x1 : Int32) (e_25 : Int32) I (show 0 ≤ (e_25 : Int32).toInt by omega) (show (e_25 : Int32).toInt ≤ 60 by omega)  (by omega)
theorem s_fX10_steps_2 {R : hy_S → Prop} (ra : ∀ j, j ∈ ([28] : List Nat) → ∀ (τ : hy_S) (g : Nat → Int32), R τ → R (hy_sc τ j g)) (ri : ∀ j, j ∈ ([] : List Nat) → ∀ (τ : hy_S) (v : Int32), R τ → R (hy_si τ j v)) {Q : hy_S × Int32 → Prop} (hQ : ∀ (σ9 : hy_S) (v9 : Int32), hm_I R σ9 → Q (σ9, v9)) : ∀ (n : Nat) (σ : hy_S) (x1 : Int32) (x2 : Int32), hm_I R σ → 0 ≤ x2.toInt → x2.toInt ≤ 169 → 169 - x2.toInt < (n : Int) → hs_ok (fX10_steps_2 n σ x1 x2) Q := by
  intro n
  induction n with
  | zero =>
    intro σ x1 x2 I p0 p1  hm
    exact absurd hm (by omega)
  | succ n ih =>
    intro σ x1 x2 I p0 p1  hm
    unfold fX10_steps_2
    refine hs_ite (fun h_1 => ?_) (fun h_1 => ?_)
    · have : (169) ≤ (x2 : Int32).toInt := Int32.le_iff_toInt_le.mp h_1
      have hfu : ((hy_fu : Nat) : Int) = 5000 := rfl
      refine s_fX10_steps_25 (fun j h => ra j (hs_inc (by decide) h)) (fun j h => ri j (hs_inc (by decide) h))  hQ  hy_fu σ (x1 : Int32) (0 : Int32) I (show 0 ≤ (0) by omega) (show (0) ≤ 60 by omega)  (show 60 - (0) < ((hy_fu : Nat) : Int) by rw [hfu]; omega)
    · have : ¬ (169) ≤ (x2 : Int32).toInt := fun z => h_1 (Int32.le_iff_toInt_le.mpr z)
      refine hs_pa (idx := x2) (v := _) I (by omega) (by omega) (hs_any _) (fun r => ⟨hm_Ra (by decide) r.1, ra 28 (by decide) _ _ r.2⟩) (fun σ2_2 eσ2_2 Iσ2_2 => ?_)
      obtain ⟨e_3, he_3⟩ : ∃ e9 : Int32, e9 = (x2 + 1) := ⟨_, rfl⟩
      try have : e_3.toInt = (x2 : Int32).toInt + (1) := by rw [he_3]; exact hs_addk (1) rfl (by omega) (by omega)
      try rw [← he_3]
      exact ih σ2_2 (x1 : Int32) (e_3 : Int32) Iσ2_2 (show 0 ≤ (e_3 : Int32).toInt by omega) (show (e_3 : Int32).toInt ≤ 169 by omega)  (by omega)
theorem s_fX10_steps {R : hy_S → Prop} (ra : ∀ j, j ∈ ([28] : List Nat) → ∀ (τ : hy_S) (g : Nat → Int32), R τ → R (hy_sc τ j g)) (ri : ∀ j, j ∈ ([] : List Nat) → ∀ (τ : hy_S) (v : Int32), R τ → R (hy_si τ j v)) (σ : hy_S) (x1 : Int32) {P : hy_S → Int32 → Prop} (I : hm_I R σ) (hQ : ∀ (σ9 : hy_S) (v9 : Int32), hm_I R σ9 → P σ9 v9) : hs_ok2 (fX10_steps σ x1) P := by
  unfold fX10_steps
  show hs_ok _ _
  have hfu : ((hy_fu : Nat) : Int) = 5000 := rfl
  refine s_fX10_steps_2 (fun j h => ra j (hs_inc (by decide) h)) (fun j h => ri j (hs_inc (by decide) h))  (fun τ_1 v_2 Iτ_1  => ?_)  hy_fu σ (x1 : Int32) (0 : Int32) I (show 0 ≤ (0) by omega) (show (0) ≤ 169 by omega)  (show 169 - (0) < ((hy_fu : Nat) : Int) by rw [hfu]; omega)
  exact (hQ τ_1 (v_2 : Int32) Iτ_1 )
theorem s_fX10_round_201 {R : hy_S → Prop} (ra : ∀ j, j ∈ ([] : List Nat) → ∀ (τ : hy_S) (g : Nat → Int32), R τ → R (hy_sc τ j g)) (ri : ∀ j, j ∈ ([] : List Nat) → ∀ (τ : hy_S) (v : Int32), R τ → R (hy_si τ j v)) (g : Int) {k34 : hy_S → Int32 → Option (hy_S × Int32)} {Q : hy_S × Int32 → Prop} (hQ : ∀ (σ9 : hy_S) (v9 : Int32), hm_I R σ9 → Q (σ9, v9)) (hk34 : ∀ (σ : hy_S) (y2 : Int32), hm_I R σ → y2.toInt = g + 1 → hs_ok (k34 σ y2) Q) : ∀ (n : Nat) (σ : hy_S) (x2 : Int32) (x3 : Int32), hm_I R σ → 0 ≤ x2.toInt → x2.toInt ≤ 13 → 0 ≤ x3.toInt → x3.toInt ≤ 13 → x2.toInt = g → 13 - x3.toInt < (n : Int) → hs_ok (fX10_round_201 k34 n σ x2 x3) Q := by
  intro n
  induction n with
  | zero =>
    intro σ x2 x3 I p0 p1 p2 p3 p4  hm
    exact absurd hm (by omega)
  | succ n ih =>
    intro σ x2 x3 I p0 p1 p2 p3 p4  hm
    unfold fX10_round_201
    refine hs_ite (fun h_1 => ?_) (fun h_1 => ?_)
    · have : (13) ≤ (x3 : Int32).toInt := Int32.le_iff_toInt_le.mp h_1
      obtain ⟨e_2, he_2⟩ : ∃ e9 : Int32, e9 = (x2 + 1) := ⟨_, rfl⟩
      try have : e_2.toInt = (x2 : Int32).toInt + (1) := by rw [he_2]; exact hs_addk (1) rfl (by omega) (by omega)
      try rw [← he_2]
      exact hk34 σ (e_2 : Int32) I (show (e_2 : Int32).toInt = g + 1 by omega)
    · have : ¬ (13) ≤ (x3 : Int32).toInt := fun z => h_1 (Int32.le_iff_toInt_le.mpr z)
      obtain ⟨e_3, he_3⟩ : ∃ e9 : Int32, e9 = (13 * x3) := ⟨_, rfl⟩
      try have : e_3.toInt = (13) * (x3 : Int32).toInt := by rw [he_3]; exact hs_mull (13) rfl (by omega) (by omega)
      try rw [← he_3]
      obtain ⟨e_4, he_4⟩ : ∃ e9 : Int32, e9 = (e_3 + x3) := ⟨_, rfl⟩
      try have : e_4.toInt = (e_3 : Int32).toInt + (x3 : Int32).toInt := by rw [he_4]; exact hs_add (by omega) (by omega)
      try rw [← he_4]
      refine hs_ga (j := 29) I (by omega) (by omega) (fun v2_5 ev2_5 (bv2_5 : (-2147483648 : Int) ≤ v2_5.toInt ∧ v2_5.toInt ≤ 2147483647) => ?_)
      refine hs_ite (fun h_6 => ?_) (fun h_6 => ?_)
      · have : (v2_5 : Int32).toInt ≤ (0) := Int32.le_iff_toInt_le.mp h_6
        obtain ⟨e_7, he_7⟩ : ∃ e9 : Int32, e9 = (x3 + 1) := ⟨_, rfl⟩
        try have : e_7.toInt = (x3 : Int32).toInt + (1) := by rw [he_7]; exact hs_addk (1) rfl (by omega) (by omega)
        try rw [← he_7]
        exact ih σ (x2 : Int32) (e_7 : Int32) I (show 0 ≤ (x2 : Int32).toInt by omega) (show (x2 : Int32).toInt ≤ 13 by omega) (show 0 ≤ (e_7 : Int32).toInt by omega) (show (e_7 : Int32).toInt ≤ 13 by omega) (show (x2 : Int32).toInt = g by omega)  (by omega)
      · have : ¬ (v2_5 : Int32).toInt ≤ (0) := fun z => h_6 (Int32.le_iff_toInt_le.mpr z)
        exact hs_some (hQ σ (x2 : Int32) I )
theorem s_fX10_round_174 {R : hy_S → Prop} (ra : ∀ j, j ∈ ([29] : List Nat) → ∀ (τ : hy_S) (g : Nat → Int32), R τ → R (hy_sc τ j g)) (ri : ∀ j, j ∈ ([] : List Nat) → ∀ (τ : hy_S) (v : Int32), R τ → R (hy_si τ j v)) (g : Int) {k34 : hy_S → Int32 → Option (hy_S × Int32)} {Q : hy_S × Int32 → Prop} (hQ : ∀ (σ9 : hy_S) (v9 : Int32), hm_I R σ9 → Q (σ9, v9)) (hk34 : ∀ (σ : hy_S) (y2 : Int32), hm_I R σ → y2.toInt = g + 1 → hs_ok (k34 σ y2) Q) : ∀ (n : Nat) (σ : hy_S) (x2 : Int32) (x3 : Int32), hm_I R σ → 0 ≤ x2.toInt → x2.toInt ≤ 13 → 0 ≤ x3.toInt → x3.toInt ≤ 169 → x2.toInt = g → 169 - x3.toInt < (n : Int) → hs_ok (fX10_round_174 k34 n σ x2 x3) Q := by
  intro n
  induction n with
  | zero =>
    intro σ x2 x3 I p0 p1 p2 p3 p4  hm
    exact absurd hm (by omega)
  | succ n ih =>
    intro σ x2 x3 I p0 p1 p2 p3 p4  hm
    unfold fX10_round_174
    refine hs_ite (fun h_1 => ?_) (fun h_1 => ?_)
    · have : (169) ≤ (x3 : Int32).toInt := Int32.le_iff_toInt_le.mp h_1
      have hfu : ((hy_fu : Nat) : Int) = 5000 := rfl
      refine s_fX10_round_201 (fun j h => ra j (hs_inc (by decide) h)) (fun j h => ri j (hs_inc (by decide) h)) ((x2 : Int32).toInt) hQ (fun τ_5 y_2 I_3 h_4 => hk34 τ_5 y_2 I_3 (by omega)) hy_fu σ (x2 : Int32) (0 : Int32) I (show 0 ≤ (x2 : Int32).toInt by omega) (show (x2 : Int32).toInt ≤ 13 by omega) (show 0 ≤ (0) by omega) (show (0) ≤ 13 by omega) (show (x2 : Int32).toInt = ((x2 : Int32).toInt) by omega)  (show 13 - (0) < ((hy_fu : Nat) : Int) by rw [hfu]; omega)
    · have : ¬ (169) ≤ (x3 : Int32).toInt := fun z => h_1 (Int32.le_iff_toInt_le.mpr z)
      refine hs_ga (j := 30) I (by omega) (by omega) (fun v2_6 ev2_6 (bv2_6 : (-2147483648 : Int) ≤ v2_6.toInt ∧ v2_6.toInt ≤ 2147483647) => ?_)
      refine hs_pa (idx := x3) (v := _) I (by omega) (by omega) (hs_any _) (fun r => ⟨hm_Ra (by decide) r.1, ra 29 (by decide) _ _ r.2⟩) (fun σ5_7 eσ5_7 Iσ5_7 => ?_)
      obtain ⟨e_8, he_8⟩ : ∃ e9 : Int32, e9 = (x3 + 1) := ⟨_, rfl⟩
      try have : e_8.toInt = (x3 : Int32).toInt + (1) := by rw [he_8]; exact hs_addk (1) rfl (by omega) (by omega)
      try rw [← he_8]
      exact ih σ5_7 (x2 : Int32) (e_8 : Int32) Iσ5_7 (show 0 ≤ (x2 : Int32).toInt by omega) (show (x2 : Int32).toInt ≤ 13 by omega) (show 0 ≤ (e_8 : Int32).toInt by omega) (show (e_8 : Int32).toInt ≤ 169 by omega) (show (x2 : Int32).toInt = g by omega)  (by omega)
theorem s_fX10_round_65 {R : hy_S → Prop} (ra : ∀ j, j ∈ ([30] : List Nat) → ∀ (τ : hy_S) (g : Nat → Int32), R τ → R (hy_sc τ j g)) (ri : ∀ j, j ∈ ([] : List Nat) → ∀ (τ : hy_S) (v : Int32), R τ → R (hy_si τ j v)) (g : Int) (a : Int) (d : Int) {k34 : hy_S → Int32 → Option (hy_S × Int32)} {k42 : hy_S → Int32 → Int32 → Option (hy_S × Int32)} {k51 : hy_S → Int32 → Int32 → Int32 → Option (hy_S × Int32)} {Q : hy_S × Int32 → Prop} (hQ : ∀ (σ9 : hy_S) (v9 : Int32), hm_I R σ9 → Q (σ9, v9)) (hk51 : ∀ (σ : hy_S) (y2 : Int32) (y3 : Int32) (y4 : Int32), hm_I R σ → y2.toInt = g → y3.toInt = a → y4.toInt = d + 1 → hs_ok (k51 σ y2 y3 y4) Q) : ∀ (n : Nat) (σ : hy_S) (x2 : Int32) (x3 : Int32) (x4 : Int32) (x5 : Int32) (x6 : Int32), hm_I R σ → 0 ≤ x3.toInt → x3.toInt ≤ 12 → 0 ≤ x4.toInt → x4.toInt ≤ 12 → 0 ≤ x6.toInt → x6.toInt ≤ 13 → x2.toInt = g → x3.toInt = a → x4.toInt = d → 13 - x6.toInt < (n : Int) → hs_ok (fX10_round_65 k34 k42 k51 n σ x2 x3 x4 x5 x6) Q := by
  intro n
  induction n with
  | zero =>
    intro σ x2 x3 x4 x5 x6 I p0 p1 p2 p3 p4 p5 p6 p7 p8  hm
    exact absurd hm (by omega)
  | succ n ih =>
    intro σ x2 x3 x4 x5 x6 I p0 p1 p2 p3 p4 p5 p6 p7 p8  hm
    unfold fX10_round_65
    refine hs_ite (fun h_1 => ?_) (fun h_1 => ?_)
    · have : (13) ≤ (x6 : Int32).toInt := Int32.le_iff_toInt_le.mp h_1
      obtain ⟨e_2, he_2⟩ : ∃ e9 : Int32, e9 = (13 * x3) := ⟨_, rfl⟩
      try have : e_2.toInt = (13) * (x3 : Int32).toInt := by rw [he_2]; exact hs_mull (13) rfl (by omega) (by omega)
      try rw [← he_2]
      obtain ⟨e_3, he_3⟩ : ∃ e9 : Int32, e9 = (e_2 + x4) := ⟨_, rfl⟩
      try have : e_3.toInt = (e_2 : Int32).toInt + (x4 : Int32).toInt := by rw [he_3]; exact hs_add (by omega) (by omega)
      try rw [← he_3]
      refine hs_pa (idx := e_3) (v := _) I (by omega) (by omega) (hs_any _) (fun r => ⟨hm_Ra (by decide) r.1, ra 30 (by decide) _ _ r.2⟩) (fun σ2_4 eσ2_4 Iσ2_4 => ?_)
      obtain ⟨e_5, he_5⟩ : ∃ e9 : Int32, e9 = (x4 + 1) := ⟨_, rfl⟩
      try have : e_5.toInt = (x4 : Int32).toInt + (1) := by rw [he_5]; exact hs_addk (1) rfl (by omega) (by omega)
      try rw [← he_5]
      exact hk51 σ2_4 (x2 : Int32) (x3 : Int32) (e_5 : Int32) Iσ2_4 (show (x2 : Int32).toInt = g by omega) (show (x3 : Int32).toInt = a by omega) (show (e_5 : Int32).toInt = d + 1 by omega)
    · have : ¬ (13) ≤ (x6 : Int32).toInt := fun z => h_1 (Int32.le_iff_toInt_le.mpr z)
      obtain ⟨e_6, he_6⟩ : ∃ e9 : Int32, e9 = (13 * x3) := ⟨_, rfl⟩
      try have : e_6.toInt = (13) * (x3 : Int32).toInt := by rw [he_6]; exact hs_mull (13) rfl (by omega) (by omega)
      try rw [← he_6]
      obtain ⟨e_7, he_7⟩ : ∃ e9 : Int32, e9 = (e_6 + x6) := ⟨_, rfl⟩
      try have : e_7.toInt = (e_6 : Int32).toInt + (x6 : Int32).toInt := by rw [he_7]; exact hs_add (by omega) (by omega)
      try rw [← he_7]
      refine hs_ga (j := 29) I (by omega) (by omega) (fun v5_8 ev5_8 (bv5_8 : (-2147483648 : Int) ≤ v5_8.toInt ∧ v5_8.toInt ≤ 2147483647) => ?_)
      refine hs_ite (fun h_9 => ?_) (fun h_9 => ?_)
      · have : (v5_8 : Int32).toInt ≤ (-100000000) := Int32.le_iff_toInt_le.mp h_9
        unfold fX10_round_140
        obtain ⟨e_10, he_10⟩ : ∃ e9 : Int32, e9 = (x6 + 1) := ⟨_, rfl⟩
        try have : e_10.toInt = (x6 : Int32).toInt + (1) := by rw [he_10]; exact hs_addk (1) rfl (by omega) (by omega)
        try rw [← he_10]
        exact ih σ (x2 : Int32) (x3 : Int32) (x4 : Int32) (x5 : Int32) (e_10 : Int32) I (show 0 ≤ (x3 : Int32).toInt by omega) (show (x3 : Int32).toInt ≤ 12 by omega) (show 0 ≤ (x4 : Int32).toInt by omega) (show (x4 : Int32).toInt ≤ 12 by omega) (show 0 ≤ (e_10 : Int32).toInt by omega) (show (e_10 : Int32).toInt ≤ 13 by omega) (show (x2 : Int32).toInt = g by omega) (show (x3 : Int32).toInt = a by omega) (show (x4 : Int32).toInt = d by omega)  (by omega)
      · have : ¬ (v5_8 : Int32).toInt ≤ (-100000000) := fun z => h_9 (Int32.le_iff_toInt_le.mpr z)
        obtain ⟨e_11, he_11⟩ : ∃ e9 : Int32, e9 = (13 * x6) := ⟨_, rfl⟩
        try have : e_11.toInt = (13) * (x6 : Int32).toInt := by rw [he_11]; exact hs_mull (13) rfl (by omega) (by omega)
        try rw [← he_11]
        obtain ⟨e_12, he_12⟩ : ∃ e9 : Int32, e9 = (e_11 + x4) := ⟨_, rfl⟩
        try have : e_12.toInt = (e_11 : Int32).toInt + (x4 : Int32).toInt := by rw [he_12]; exact hs_add (by omega) (by omega)
        try rw [← he_12]
        refine hs_ga (j := 28) I (by omega) (by omega) (fun v9_13 ev9_13 (bv9_13 : (-2147483648 : Int) ≤ v9_13.toInt ∧ v9_13.toInt ≤ 2147483647) => ?_)
        refine hs_ite (fun h_14 => ?_) (fun h_14 => ?_)
        · have : (v9_13 : Int32).toInt ≤ (-100000000) := Int32.le_iff_toInt_le.mp h_14
          unfold fX10_round_140
          obtain ⟨e_15, he_15⟩ : ∃ e9 : Int32, e9 = (x6 + 1) := ⟨_, rfl⟩
          try have : e_15.toInt = (x6 : Int32).toInt + (1) := by rw [he_15]; exact hs_addk (1) rfl (by omega) (by omega)
          try rw [← he_15]
          exact ih σ (x2 : Int32) (x3 : Int32) (x4 : Int32) (x5 : Int32) (e_15 : Int32) I (show 0 ≤ (x3 : Int32).toInt by omega) (show (x3 : Int32).toInt ≤ 12 by omega) (show 0 ≤ (x4 : Int32).toInt by omega) (show (x4 : Int32).toInt ≤ 12 by omega) (show 0 ≤ (e_15 : Int32).toInt by omega) (show (e_15 : Int32).toInt ≤ 13 by omega) (show (x2 : Int32).toInt = g by omega) (show (x3 : Int32).toInt = a by omega) (show (x4 : Int32).toInt = d by omega)  (by omega)
        · have : ¬ (v9_13 : Int32).toInt ≤ (-100000000) := fun z => h_14 (Int32.le_iff_toInt_le.mpr z)
          try rw [← he_6]
          try rw [← he_7]
          refine hs_ga (j := 29) I (by omega) (by omega) (fun v13_16 ev13_16 (bv13_16 : (-2147483648 : Int) ≤ v13_16.toInt ∧ v13_16.toInt ≤ 2147483647) => ?_)
          try rw [← he_11]
          try rw [← he_12]
          refine hs_ga (j := 28) I (by omega) (by omega) (fun v16_17 ev16_17 (bv16_17 : (-2147483648 : Int) ≤ v16_17.toInt ∧ v16_17.toInt ≤ 2147483647) => ?_)
          unfold fX10_round_140
          obtain ⟨e_18, he_18⟩ : ∃ e9 : Int32, e9 = (v13_16 + v16_17) := ⟨_, rfl⟩
          try have : e_18.toInt = (v13_16 : Int32).toInt + (v16_17 : Int32).toInt := by rw [he_18]; exact hs_add (by omega) (by omega)
          try rw [← he_18]
          try rw [← he_18]
          obtain ⟨e_19, he_19⟩ : ∃ e9 : Int32, e9 = (if (x5 < e_18) then e_18 else x5) := ⟨_, rfl⟩
          have : e_19.toInt = (e_18 : Int32).toInt ∨ e_19.toInt = (x5 : Int32).toInt := by rw [he_19]; split <;> first | exact Or.inl rfl | exact Or.inr rfl
          try rw [← he_19]
          obtain ⟨e_20, he_20⟩ : ∃ e9 : Int32, e9 = (x6 + 1) := ⟨_, rfl⟩
          try have : e_20.toInt = (x6 : Int32).toInt + (1) := by rw [he_20]; exact hs_addk (1) rfl (by omega) (by omega)
          try rw [← he_20]
          exact ih σ (x2 : Int32) (x3 : Int32) (x4 : Int32) (e_19 : Int32) (e_20 : Int32) I (show 0 ≤ (x3 : Int32).toInt by omega) (show (x3 : Int32).toInt ≤ 12 by omega) (show 0 ≤ (x4 : Int32).toInt by omega) (show (x4 : Int32).toInt ≤ 12 by omega) (show 0 ≤ (e_20 : Int32).toInt by omega) (show (e_20 : Int32).toInt ≤ 13 by omega) (show (x2 : Int32).toInt = g by omega) (show (x3 : Int32).toInt = a by omega) (show (x4 : Int32).toInt = d by omega)  (by omega)
theorem s_fX10_round_51 {R : hy_S → Prop} (ra : ∀ j, j ∈ ([30] : List Nat) → ∀ (τ : hy_S) (g : Nat → Int32), R τ → R (hy_sc τ j g)) (ri : ∀ j, j ∈ ([] : List Nat) → ∀ (τ : hy_S) (v : Int32), R τ → R (hy_si τ j v)) (g : Int) (a : Int) {k34 : hy_S → Int32 → Option (hy_S × Int32)} {k42 : hy_S → Int32 → Int32 → Option (hy_S × Int32)} {Q : hy_S × Int32 → Prop} (hQ : ∀ (σ9 : hy_S) (v9 : Int32), hm_I R σ9 → Q (σ9, v9)) (hk42 : ∀ (σ : hy_S) (y2 : Int32) (y3 : Int32), hm_I R σ → y2.toInt = g → y3.toInt = a + 1 → hs_ok (k42 σ y2 y3) Q) : ∀ (n : Nat) (σ : hy_S) (x2 : Int32) (x3 : Int32) (x4 : Int32), hm_I R σ → 0 ≤ x3.toInt → x3.toInt ≤ 12 → 0 ≤ x4.toInt → x4.toInt ≤ 13 → x2.toInt = g → x3.toInt = a → 13 - x4.toInt < (n : Int) → hs_ok (fX10_round_51 k34 k42 n σ x2 x3 x4) Q := by
  intro n
  induction n with
  | zero =>
    intro σ x2 x3 x4 I p0 p1 p2 p3 p4 p5  hm
    exact absurd hm (by omega)
  | succ n ih =>
    intro σ x2 x3 x4 I p0 p1 p2 p3 p4 p5  hm
    unfold fX10_round_51
    refine hs_ite (fun h_1 => ?_) (fun h_1 => ?_)
    · have : (13) ≤ (x4 : Int32).toInt := Int32.le_iff_toInt_le.mp h_1
      obtain ⟨e_2, he_2⟩ : ∃ e9 : Int32, e9 = (x3 + 1) := ⟨_, rfl⟩
      try have : e_2.toInt = (x3 : Int32).toInt + (1) := by rw [he_2]; exact hs_addk (1) rfl (by omega) (by omega)
      try rw [← he_2]
      exact hk42 σ (x2 : Int32) (e_2 : Int32) I (show (x2 : Int32).toInt = g by omega) (show (e_2 : Int32).toInt = a + 1 by omega)
    · have : ¬ (13) ≤ (x4 : Int32).toInt := fun z => h_1 (Int32.le_iff_toInt_le.mpr z)
      have hfu : ((hy_fu : Nat) : Int) = 5000 := rfl
      refine s_fX10_round_65 (fun j h => ra j (hs_inc (by decide) h)) (fun j h => ri j (hs_inc (by decide) h)) ((x2 : Int32).toInt) ((x3 : Int32).toInt) ((x4 : Int32).toInt) hQ (fun τ_10 y_3 y_4 y_5 I_6 h_7 h_8 h_9 => by exact ih τ_10 y_3 y_4 y_5 I_6 (by omega) (by omega) (by omega) (by omega) (by omega) (by omega) (by omega)) hy_fu σ (x2 : Int32) (x3 : Int32) (x4 : Int32) ((-100000000) : Int32) (0 : Int32) I (show 0 ≤ (x3 : Int32).toInt by omega) (show (x3 : Int32).toInt ≤ 12 by omega) (show 0 ≤ (x4 : Int32).toInt by omega) (show (x4 : Int32).toInt ≤ 12 by omega) (show 0 ≤ (0) by omega) (show (0) ≤ 13 by omega) (show (x2 : Int32).toInt = ((x2 : Int32).toInt) by omega) (show (x3 : Int32).toInt = ((x3 : Int32).toInt) by omega) (show (x4 : Int32).toInt = ((x4 : Int32).toInt) by omega)  (show 13 - (0) < ((hy_fu : Nat) : Int) by rw [hfu]; omega)
theorem s_fX10_round_42 {R : hy_S → Prop} (ra : ∀ j, j ∈ ([29, 30] : List Nat) → ∀ (τ : hy_S) (g : Nat → Int32), R τ → R (hy_sc τ j g)) (ri : ∀ j, j ∈ ([] : List Nat) → ∀ (τ : hy_S) (v : Int32), R τ → R (hy_si τ j v)) (g : Int) {k34 : hy_S → Int32 → Option (hy_S × Int32)} {Q : hy_S × Int32 → Prop} (hQ : ∀ (σ9 : hy_S) (v9 : Int32), hm_I R σ9 → Q (σ9, v9)) (hk34 : ∀ (σ : hy_S) (y2 : Int32), hm_I R σ → y2.toInt = g + 1 → hs_ok (k34 σ y2) Q) : ∀ (n : Nat) (σ : hy_S) (x2 : Int32) (x3 : Int32), hm_I R σ → 0 ≤ x2.toInt → x2.toInt ≤ 13 → 0 ≤ x3.toInt → x3.toInt ≤ 13 → x2.toInt = g → 13 - x3.toInt < (n : Int) → hs_ok (fX10_round_42 k34 n σ x2 x3) Q := by
  intro n
  induction n with
  | zero =>
    intro σ x2 x3 I p0 p1 p2 p3 p4  hm
    exact absurd hm (by omega)
  | succ n ih =>
    intro σ x2 x3 I p0 p1 p2 p3 p4  hm
    unfold fX10_round_42
    refine hs_ite (fun h_1 => ?_) (fun h_1 => ?_)
    · have : (13) ≤ (x3 : Int32).toInt := Int32.le_iff_toInt_le.mp h_1
      have hfu : ((hy_fu : Nat) : Int) = 5000 := rfl
      refine s_fX10_round_174 (fun j h => ra j (hs_inc (by decide) h)) (fun j h => ri j (hs_inc (by decide) h)) ((x2 : Int32).toInt) hQ (fun τ_5 y_2 I_3 h_4 => hk34 τ_5 y_2 I_3 (by omega)) hy_fu σ (x2 : Int32) (0 : Int32) I (show 0 ≤ (x2 : Int32).toInt by omega) (show (x2 : Int32).toInt ≤ 13 by omega) (show 0 ≤ (0) by omega) (show (0) ≤ 169 by omega) (show (x2 : Int32).toInt = ((x2 : Int32).toInt) by omega)  (show 169 - (0) < ((hy_fu : Nat) : Int) by rw [hfu]; omega)
    · have : ¬ (13) ≤ (x3 : Int32).toInt := fun z => h_1 (Int32.le_iff_toInt_le.mpr z)
      have hfu : ((hy_fu : Nat) : Int) = 5000 := rfl
      refine s_fX10_round_51 (fun j h => ra j (hs_inc (by decide) h)) (fun j h => ri j (hs_inc (by decide) h)) ((x2 : Int32).toInt) ((x3 : Int32).toInt) hQ (fun τ_11 y_6 y_7 I_8 h_9 h_10 => by exact ih τ_11 y_6 y_7 I_8 (by omega) (by omega) (by omega) (by omega) (by omega) (by omega)) hy_fu σ (x2 : Int32) (x3 : Int32) (0 : Int32) I (show 0 ≤ (x3 : Int32).toInt by omega) (show (x3 : Int32).toInt ≤ 12 by omega) (show 0 ≤ (0) by omega) (show (0) ≤ 13 by omega) (show (x2 : Int32).toInt = ((x2 : Int32).toInt) by omega) (show (x3 : Int32).toInt = ((x3 : Int32).toInt) by omega)  (show 13 - (0) < ((hy_fu : Nat) : Int) by rw [hfu]; omega)
theorem s_fX10_round_34 {R : hy_S → Prop} (ra : ∀ j, j ∈ ([29, 30] : List Nat) → ∀ (τ : hy_S) (g : Nat → Int32), R τ → R (hy_sc τ j g)) (ri : ∀ j, j ∈ ([] : List Nat) → ∀ (τ : hy_S) (v : Int32), R τ → R (hy_si τ j v)) {Q : hy_S × Int32 → Prop} (hQ : ∀ (σ9 : hy_S) (v9 : Int32), hm_I R σ9 → Q (σ9, v9)) : ∀ (n : Nat) (σ : hy_S) (x2 : Int32), hm_I R σ → 2 ≤ x2.toInt → x2.toInt ≤ 14 → 14 - x2.toInt < (n : Int) → hs_ok (fX10_round_34 n σ x2) Q := by
  intro n
  induction n with
  | zero =>
    intro σ x2 I p0 p1  hm
    exact absurd hm (by omega)
  | succ n ih =>
    intro σ x2 I p0 p1  hm
    unfold fX10_round_34
    refine hs_ite (fun h_1 => ?_) (fun h_1 => ?_)
    · have : (13) < (x2 : Int32).toInt := Int32.lt_iff_toInt_lt.mp h_1
      exact hs_some (hQ σ (0 : Int32) I )
    · have : ¬ (13) < (x2 : Int32).toInt := fun z => h_1 (Int32.lt_iff_toInt_lt.mpr z)
      have hfu : ((hy_fu : Nat) : Int) = 5000 := rfl
      refine s_fX10_round_42 (fun j h => ra j (hs_inc (by decide) h)) (fun j h => ri j (hs_inc (by decide) h)) ((x2 : Int32).toInt) hQ (fun τ_5 y_2 I_3 h_4 => by exact ih τ_5 y_2 I_3 (by omega) (by omega) (by omega)) hy_fu σ (x2 : Int32) (0 : Int32) I (show 0 ≤ (x2 : Int32).toInt by omega) (show (x2 : Int32).toInt ≤ 13 by omega) (show 0 ≤ (0) by omega) (show (0) ≤ 13 by omega) (show (x2 : Int32).toInt = ((x2 : Int32).toInt) by omega)  (show 13 - (0) < ((hy_fu : Nat) : Int) by rw [hfu]; omega)
theorem s_fX10_round_7 {R : hy_S → Prop} (ra : ∀ j, j ∈ ([29, 30] : List Nat) → ∀ (τ : hy_S) (g : Nat → Int32), R τ → R (hy_sc τ j g)) (ri : ∀ j, j ∈ ([] : List Nat) → ∀ (τ : hy_S) (v : Int32), R τ → R (hy_si τ j v)) {Q : hy_S × Int32 → Prop} (hQ : ∀ (σ9 : hy_S) (v9 : Int32), hm_I R σ9 → Q (σ9, v9)) : ∀ (n : Nat) (σ : hy_S) (x2 : Int32), hm_I R σ → 0 ≤ x2.toInt → x2.toInt ≤ 169 → 169 - x2.toInt < (n : Int) → hs_ok (fX10_round_7 n σ x2) Q := by
  intro n
  induction n with
  | zero =>
    intro σ x2 I p0 p1  hm
    exact absurd hm (by omega)
  | succ n ih =>
    intro σ x2 I p0 p1  hm
    unfold fX10_round_7
    refine hs_ite (fun h_1 => ?_) (fun h_1 => ?_)
    · have : (169) ≤ (x2 : Int32).toInt := Int32.le_iff_toInt_le.mp h_1
      have hfu : ((hy_fu : Nat) : Int) = 5000 := rfl
      refine s_fX10_round_34 (fun j h => ra j (hs_inc (by decide) h)) (fun j h => ri j (hs_inc (by decide) h))  hQ  hy_fu σ (2 : Int32) I (show 2 ≤ (2) by omega) (show (2) ≤ 14 by omega)  (show 14 - (2) < ((hy_fu : Nat) : Int) by rw [hfu]; omega)
    · have : ¬ (169) ≤ (x2 : Int32).toInt := fun z => h_1 (Int32.le_iff_toInt_le.mpr z)
      refine hs_ga (j := 28) I (by omega) (by omega) (fun v2_2 ev2_2 (bv2_2 : (-2147483648 : Int) ≤ v2_2.toInt ∧ v2_2.toInt ≤ 2147483647) => ?_)
      refine hs_pa (idx := x2) (v := _) I (by omega) (by omega) (hs_any _) (fun r => ⟨hm_Ra (by decide) r.1, ra 29 (by decide) _ _ r.2⟩) (fun σ5_3 eσ5_3 Iσ5_3 => ?_)
      obtain ⟨e_4, he_4⟩ : ∃ e9 : Int32, e9 = (x2 + 1) := ⟨_, rfl⟩
      try have : e_4.toInt = (x2 : Int32).toInt + (1) := by rw [he_4]; exact hs_addk (1) rfl (by omega) (by omega)
      try rw [← he_4]
      exact ih σ5_3 (e_4 : Int32) Iσ5_3 (show 0 ≤ (e_4 : Int32).toInt by omega) (show (e_4 : Int32).toInt ≤ 169 by omega)  (by omega)
theorem s_fX10_round {R : hy_S → Prop} (ra : ∀ j, j ∈ ([28, 29, 30] : List Nat) → ∀ (τ : hy_S) (g : Nat → Int32), R τ → R (hy_sc τ j g)) (ri : ∀ j, j ∈ ([] : List Nat) → ∀ (τ : hy_S) (v : Int32), R τ → R (hy_si τ j v)) (σ : hy_S) (x1 : Int32) {P : hy_S → Int32 → Prop} (I : hm_I R σ) (hQ : ∀ (σ9 : hy_S) (v9 : Int32), hm_I R σ9 → P σ9 v9) : hs_ok2 (fX10_round σ x1) P := by
  unfold fX10_round
  show hs_ok _ _
  refine hs_bd (s_fX10_steps (fun j h => ra j (hs_inc (by decide) h)) (fun j h => ri j (hs_inc (by decide) h)) σ x1 I  (fun σ1_2 v2_1 Iσ1_2  => ?_))
  have hfu : ((hy_fu : Nat) : Int) = 5000 := rfl
  refine s_fX10_round_7 (fun j h => ra j (hs_inc (by decide) h)) (fun j h => ri j (hs_inc (by decide) h))  (fun τ_3 v_4 Iτ_3  => ?_)  hy_fu σ1_2 (0 : Int32) Iσ1_2 (show 0 ≤ (0) by omega) (show (0) ≤ 169 by omega)  (show 169 - (0) < ((hy_fu : Nat) : Int) by rw [hfu]; omega)
  exact (hQ τ_3 (v_4 : Int32) Iτ_3 )
theorem s_fX10_agree {R : hy_S → Prop} (ra : ∀ j, j ∈ ([28, 29, 30] : List Nat) → ∀ (τ : hy_S) (g : Nat → Int32), R τ → R (hy_sc τ j g)) (ri : ∀ j, j ∈ ([0] : List Nat) → ∀ (τ : hy_S) (v : Int32), R τ → R (hy_si τ j v)) (σ : hy_S) (x1 : Int32) {P : hy_S → Int32 → Prop} (I : hm_I R σ) (hQ : ∀ (σ9 : hy_S) (v9 : Int32), hm_I R σ9 → P σ9 v9) : hs_ok2 (fX10_agree σ x1) P := by
  unfold fX10_agree
  show hs_ok _ _
  have : (-2147483648 : Int) ≤ (σ.2 0).toInt ∧ (σ.2 0).toInt ≤ 2147483647 := I.2.1 0
  refine hs_pf (v := 0) I (hs_any _) (fun r => ⟨hm_Ri (by decide) r.1, ri 0 (by decide) _ _ r.2⟩) (fun σ1_1 eσ1_1 Iσ1_1 => ?_)
  have : (σ1_1.2 0).toInt = (0) := by rw [eσ1_1]; rfl
  have : (-2147483648 : Int) ≤ (σ1_1.2 0).toInt ∧ (σ1_1.2 0).toInt ≤ 2147483647 := Iσ1_1.2.1 0
  refine hs_bd (s_fX10_round (fun j h => ra j (hs_inc (by decide) h)) (fun j h => ri j (hs_inc (by decide) h)) σ1_1 x1 Iσ1_1  (fun σ3_3 v4_2 Iσ3_3  => ?_))
  have : (-2147483648 : Int) ≤ (σ3_3.2 0).toInt ∧ (σ3_3.2 0).toInt ≤ 2147483647 := Iσ3_3.2.1 0
  refine hs_ite (fun h_4 => ?_) (fun h_4 => ?_)
  · have : (v4_2 : Int32).toInt = (0) := congrArg Int32.toInt h_4
    exact hs_some (hQ σ3_3 (1 : Int32) Iσ3_3 )
  · have : ¬ (v4_2 : Int32).toInt = (0) := fun z => h_4 (Int32.toInt_inj.mp z)
    exact hs_some (hQ σ3_3 (0 : Int32) Iσ3_3 )
theorem s_fX10_quarrel {R : hy_S → Prop} (ra : ∀ j, j ∈ ([28, 29, 30] : List Nat) → ∀ (τ : hy_S) (g : Nat → Int32), R τ → R (hy_sc τ j g)) (ri : ∀ j, j ∈ ([0] : List Nat) → ∀ (τ : hy_S) (v : Int32), R τ → R (hy_si τ j v)) (σ : hy_S) (x1 : Int32) {P : hy_S → Int32 → Prop} (I : hm_I R σ) (hQ : ∀ (σ9 : hy_S) (v9 : Int32), hm_I R σ9 → P σ9 v9) : hs_ok2 (fX10_quarrel σ x1) P := by
  unfold fX10_quarrel
  show hs_ok _ _
  have : (-2147483648 : Int) ≤ (σ.2 0).toInt ∧ (σ.2 0).toInt ≤ 2147483647 := I.2.1 0
  refine hs_pf (v := 0) I (hs_any _) (fun r => ⟨hm_Ri (by decide) r.1, ri 0 (by decide) _ _ r.2⟩) (fun σ1_1 eσ1_1 Iσ1_1 => ?_)
  have : (σ1_1.2 0).toInt = (0) := by rw [eσ1_1]; rfl
  have : (-2147483648 : Int) ≤ (σ1_1.2 0).toInt ∧ (σ1_1.2 0).toInt ≤ 2147483647 := Iσ1_1.2.1 0
  refine hs_bd (s_fX10_round (fun j h => ra j (hs_inc (by decide) h)) (fun j h => ri j (hs_inc (by decide) h)) σ1_1 x1 Iσ1_1  (fun σ3_3 v4_2 Iσ3_3  => ?_))
  have : (-2147483648 : Int) ≤ (σ3_3.2 0).toInt ∧ (σ3_3.2 0).toInt ≤ 2147483647 := Iσ3_3.2.1 0
  exact hs_some (hQ σ3_3 (v4_2 : Int32) Iσ3_3 )
