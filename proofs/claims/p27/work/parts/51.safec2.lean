theorem s_fX8_fewestThatQuarrel_5 {R : hy_S → Prop} (ra : ∀ j, j ∈ ([28, 29] : List Nat) → ∀ (τ : hy_S) (g : Nat → Int32), R τ → R (hy_sc τ j g)) (ri : ∀ j, j ∈ ([] : List Nat) → ∀ (τ : hy_S) (v : Int32), R τ → R (hy_si τ j v)) {Q : hy_S × Int32 → Prop} (hQ : ∀ (σ9 : hy_S) (v9 : Int32), hc_I R σ9 → Q (σ9, v9)) : ∀ (n : Nat) (σ : hy_S) (x1 : Int32) (x2 : Int32), hc_I R σ → x1.toInt ≤ 14 → 0 ≤ x2.toInt → x2.toInt ≤ 13 → 13 - x2.toInt < (n : Int) → hs_ok (fX8_fewestThatQuarrel_5 n σ x1 x2) Q := by
  intro n
  induction n with
  | zero =>
    intro σ x1 x2 I p0 p1 p2  hm
    exact absurd hm (by omega)
  | succ n ih =>
    intro σ x1 x2 I p0 p1 p2  hm
    unfold fX8_fewestThatQuarrel_5
    refine hs_ite (fun h_1 => ?_) (fun h_1 => ?_)
    · have : (13) ≤ (x2 : Int32).toInt := Int32.le_iff_toInt_le.mp h_1
      exact hs_some (hQ σ (x1 : Int32) I )
    · have : ¬ (13) ≤ (x2 : Int32).toInt := fun z => h_1 (Int32.le_iff_toInt_le.mpr z)
      refine hs_bd (s_fX8_ringThrough (fun j h => ra j (hs_inc (by decide) h)) (fun j h => ri j (hs_inc (by decide) h)) σ x2 x1 I (show 0 ≤ (x2 : Int32).toInt by omega) (show (x2 : Int32).toInt < 13 by omega) (show (x1 : Int32).toInt ≤ 14 by omega) (fun σ2_3 v3_2 Iσ2_3 (gv3_2_0 : v3_2.toInt ≤ 14) => ?_))
      obtain ⟨e_4, he_4⟩ : ∃ e9 : Int32, e9 = (x2 + 1) := ⟨_, rfl⟩
      try have : e_4.toInt = (x2 : Int32).toInt + (1) := by rw [he_4]; exact hs_addk (1) rfl (by omega) (by omega)
      try rw [← he_4]
      exact ih σ2_3 (v3_2 : Int32) (e_4 : Int32) Iσ2_3 (show (v3_2 : Int32).toInt ≤ 14 by omega) (show 0 ≤ (e_4 : Int32).toInt by omega) (show (e_4 : Int32).toInt ≤ 13 by omega)  (by omega)
theorem s_fX8_fewestThatQuarrel {R : hy_S → Prop} (ra : ∀ j, j ∈ ([28, 29] : List Nat) → ∀ (τ : hy_S) (g : Nat → Int32), R τ → R (hy_sc τ j g)) (ri : ∀ j, j ∈ ([] : List Nat) → ∀ (τ : hy_S) (v : Int32), R τ → R (hy_si τ j v)) (σ : hy_S) {P : hy_S → Int32 → Prop} (I : hc_I R σ) (hQ : ∀ (σ9 : hy_S) (v9 : Int32), hc_I R σ9 → P σ9 v9) : hs_ok2 (fX8_fewestThatQuarrel σ ) P := by
  unfold fX8_fewestThatQuarrel
  show hs_ok _ _
  have hfu : ((hy_fu : Nat) : Int) = 5000 := rfl
  refine s_fX8_fewestThatQuarrel_5 (fun j h => ra j (hs_inc (by decide) h)) (fun j h => ri j (hs_inc (by decide) h))  (fun τ_1 v_2 Iτ_1  => ?_)  hy_fu σ (14 : Int32) (0 : Int32) I (show (14) ≤ 14 by omega) (show 0 ≤ (0) by omega) (show (0) ≤ 13 by omega)  (show 13 - (0) < ((hy_fu : Nat) : Int) by rw [hfu]; omega)
  exact (hQ τ_1 (v_2 : Int32) Iτ_1 )
theorem s_fX9_feed {R : hy_S → Prop} (ra : ∀ j, j ∈ ([0] : List Nat) → ∀ (τ : hy_S) (g : Nat → Int32), R τ → R (hy_sc τ j g)) (ri : ∀ j, j ∈ ([2] : List Nat) → ∀ (τ : hy_S) (v : Int32), R τ → R (hy_si τ j v)) (σ : hy_S) (x1 : Int32) (x2 : Int32) (x3 : Int32) (x4 : Int32) (x5 : Int32) {P : hy_S → Int32 → Prop} (I : hc_I R σ) (hQ : ∀ (σ9 : hy_S) (v9 : Int32), hc_I R σ9 → ((σ.2 2).toInt + 20 ≤ 400 ∧ (σ9.2 2).toInt = (σ.2 2).toInt + 20 ∧ v9.toInt = (σ.2 2).toInt + 20) ∨ (400 < (σ.2 2).toInt + 20 ∧ (σ9.2 2).toInt = (σ.2 2).toInt ∧ v9.toInt = -1) → P σ9 v9) : hs_ok2 (fX9_feed σ x1 x2 x3 x4 x5) P := by
  unfold fX9_feed
  show hs_ok _ _
  have : (0 : Int) ≤ (σ.2 2).toInt ∧ (σ.2 2).toInt ≤ 400 := I.2.1 2
  refine hs_bd (s_fX7_append (fun j h => ra j (hs_inc (by decide) h)) (fun j h => ri j (hs_inc (by decide) h)) σ x1 x2 x3 x4 x5 I  (fun σ1_2 v2_1 Iσ1_2 (gv2_1_0 : ((σ.2 2).toInt + 20 ≤ 400 ∧ (σ1_2.2 2).toInt = (σ.2 2).toInt + 20 ∧ v2_1.toInt = (σ.2 2).toInt + 20) ∨ (400 < (σ.2 2).toInt + 20 ∧ (σ1_2.2 2).toInt = (σ.2 2).toInt ∧ v2_1.toInt = -1)) => ?_))
  have : (0 : Int) ≤ (σ1_2.2 2).toInt ∧ (σ1_2.2 2).toInt ≤ 400 := Iσ1_2.2.1 2
  exact hs_some (hQ σ1_2 (v2_1 : Int32) Iσ1_2 (show ((σ.2 2).toInt + 20 ≤ 400 ∧ (σ1_2.2 2).toInt = (σ.2 2).toInt + 20 ∧ (v2_1 : Int32).toInt = (σ.2 2).toInt + 20) ∨ (400 < (σ.2 2).toInt + 20 ∧ (σ1_2.2 2).toInt = (σ.2 2).toInt ∧ (v2_1 : Int32).toInt = -1) by omega))
theorem s_fX9_end {R : hy_S → Prop} (ra : ∀ j, j ∈ ([] : List Nat) → ∀ (τ : hy_S) (g : Nat → Int32), R τ → R (hy_sc τ j g)) (ri : ∀ j, j ∈ ([2] : List Nat) → ∀ (τ : hy_S) (v : Int32), R τ → R (hy_si τ j v)) (σ : hy_S) (x1 : Int32) {P : hy_S → Int32 → Prop} (I : hc_I R σ) (hQ : ∀ (σ9 : hy_S) (v9 : Int32), hc_I R σ9 → (0 ≤ x1.toInt ∧ x1.toInt ≤ (σ.2 2).toInt ∧ (σ9.2 2).toInt = x1.toInt ∧ v9.toInt = 1) ∨ ((x1.toInt < 0 ∨ (σ.2 2).toInt < x1.toInt) ∧ (σ9.2 2).toInt = (σ.2 2).toInt ∧ v9.toInt = 0) → P σ9 v9) : hs_ok2 (fX9_end σ x1) P := by
  unfold fX9_end
  show hs_ok _ _
  have : (0 : Int) ≤ (σ.2 2).toInt ∧ (σ.2 2).toInt ≤ 400 := I.2.1 2
  refine hs_bd (s_fX7_keepFirst (fun j h => ra j (hs_inc (by decide) h)) (fun j h => ri j (hs_inc (by decide) h)) σ x1 I  (fun σ1_2 v2_1 Iσ1_2 (gv2_1_0 : 0 ≤ v2_1.toInt) (gv2_1_1 : v2_1.toInt ≤ 1) (gv2_1_2 : (0 ≤ (x1 : Int32).toInt ∧ (x1 : Int32).toInt ≤ (σ.2 2).toInt ∧ (σ1_2.2 2).toInt = (x1 : Int32).toInt ∧ v2_1.toInt = 1) ∨ (((x1 : Int32).toInt < 0 ∨ (σ.2 2).toInt < (x1 : Int32).toInt) ∧ (σ1_2.2 2).toInt = (σ.2 2).toInt ∧ v2_1.toInt = 0)) => ?_))
  have : (0 : Int) ≤ (σ1_2.2 2).toInt ∧ (σ1_2.2 2).toInt ≤ 400 := Iσ1_2.2.1 2
  refine hs_ck (hs_01 (by omega) (by omega)) ?_
  exact hs_some (hQ σ1_2 (v2_1 : Int32) Iσ1_2 (show (0 ≤ x1.toInt ∧ x1.toInt ≤ (σ.2 2).toInt ∧ (σ1_2.2 2).toInt = x1.toInt ∧ (v2_1 : Int32).toInt = 1) ∨ ((x1.toInt < 0 ∨ (σ.2 2).toInt < x1.toInt) ∧ (σ1_2.2 2).toInt = (σ.2 2).toInt ∧ (v2_1 : Int32).toInt = 0) by omega))
theorem s_fX9_fault {R : hy_S → Prop} (ra : ∀ j, j ∈ ([] : List Nat) → ∀ (τ : hy_S) (g : Nat → Int32), R τ → R (hy_sc τ j g)) (ri : ∀ j, j ∈ ([] : List Nat) → ∀ (τ : hy_S) (v : Int32), R τ → R (hy_si τ j v)) (σ : hy_S) {P : hy_S → Int32 → Prop} (I : hc_I R σ) (hQ : ∀ (σ9 : hy_S) (v9 : Int32), hc_I R σ9 → P σ9 v9) : hs_ok2 (fX9_fault σ ) P := by
  unfold fX9_fault
  show hs_ok _ _
  have : (-2147483648 : Int) ≤ (σ.2 0).toInt ∧ (σ.2 0).toInt ≤ 2147483647 := I.2.1 0
  exact hs_some (hQ σ ((σ.2 0) : Int32) I )
theorem s_fX9_agree {R : hy_S → Prop} (ra : ∀ j, j ∈ ([27, 28] : List Nat) → ∀ (τ : hy_S) (g : Nat → Int32), R τ → R (hy_sc τ j g)) (ri : ∀ j, j ∈ ([9] : List Nat) → ∀ (τ : hy_S) (v : Int32), R τ → R (hy_si τ j v)) (σ : hy_S) (x1 : Int32) {P : hy_S → Int32 → Prop} (I : hc_I R σ) (hQ : ∀ (σ9 : hy_S) (v9 : Int32), hc_I R σ9 → P σ9 v9) : hs_ok2 (fX9_agree σ x1) P := by
  unfold fX9_agree
  show hs_ok _ _
  refine hs_bd (s_fX8_recall (fun j h => ra j (hs_inc (by decide) h)) (fun j h => ri j (hs_inc (by decide) h)) σ x1 I  (fun σ1_2 v2_1 Iσ1_2  => ?_))
  refine hs_bd (s_fX8_canAllHold (fun j h => ra j (hs_inc (by decide) h)) (fun j h => ri j (hs_inc (by decide) h)) σ1_2  Iσ1_2  (fun σ4_4 v5_3 Iσ4_4 (gv5_3_0 : 0 ≤ v5_3.toInt) (gv5_3_1 : v5_3.toInt ≤ 1) => ?_))
  refine hs_ck (hs_01 (by omega) (by omega)) ?_
  exact hs_some (hQ σ4_4 (v5_3 : Int32) Iσ4_4 )
theorem s_fX9_quarrel {R : hy_S → Prop} (ra : ∀ j, j ∈ ([27, 28, 29] : List Nat) → ∀ (τ : hy_S) (g : Nat → Int32), R τ → R (hy_sc τ j g)) (ri : ∀ j, j ∈ ([9] : List Nat) → ∀ (τ : hy_S) (v : Int32), R τ → R (hy_si τ j v)) (σ : hy_S) (x1 : Int32) {P : hy_S → Int32 → Prop} (I : hc_I R σ) (hQ : ∀ (σ9 : hy_S) (v9 : Int32), hc_I R σ9 → P σ9 v9) : hs_ok2 (fX9_quarrel σ x1) P := by
  unfold fX9_quarrel
  show hs_ok _ _
  refine hs_bd (s_fX8_recall (fun j h => ra j (hs_inc (by decide) h)) (fun j h => ri j (hs_inc (by decide) h)) σ x1 I  (fun σ1_2 v2_1 Iσ1_2  => ?_))
  refine hs_bd (s_fX8_canAllHold (fun j h => ra j (hs_inc (by decide) h)) (fun j h => ri j (hs_inc (by decide) h)) σ1_2  Iσ1_2  (fun σ4_4 v5_3 Iσ4_4 (gv5_3_0 : 0 ≤ v5_3.toInt) (gv5_3_1 : v5_3.toInt ≤ 1) => ?_))
  refine hs_ite (fun h_5 => ?_) (fun h_5 => ?_)
  · have : (v5_3 : Int32).toInt = (0) := congrArg Int32.toInt h_5
    refine hs_bd (s_fX8_fewestThatQuarrel (fun j h => ra j (hs_inc (by decide) h)) (fun j h => ri j (hs_inc (by decide) h)) σ4_4  Iσ4_4  (fun σ8_7 v9_6 Iσ8_7  => ?_))
    exact hs_some (hQ σ8_7 (v9_6 : Int32) Iσ8_7 )
  · have : ¬ (v5_3 : Int32).toInt = (0) := fun z => h_5 (Int32.toInt_inj.mp z)
    exact hs_some (hQ σ4_4 (0 : Int32) Iσ4_4 )
theorem s_fX9_count {R : hy_S → Prop} (ra : ∀ j, j ∈ ([] : List Nat) → ∀ (τ : hy_S) (g : Nat → Int32), R τ → R (hy_sc τ j g)) (ri : ∀ j, j ∈ ([] : List Nat) → ∀ (τ : hy_S) (v : Int32), R τ → R (hy_si τ j v)) (σ : hy_S) (x1 : Int32) {P : hy_S → Int32 → Prop} (I : hc_I R σ) (hQ : ∀ (σ9 : hy_S) (v9 : Int32), hc_I R σ9 → P σ9 v9) : hs_ok2 (fX9_count σ x1) P := by
  unfold fX9_count
  show hs_ok _ _
  have : (-2147483648 : Int) ≤ (σ.2 1).toInt ∧ (σ.2 1).toInt ≤ 2147483647 := I.2.1 1
  have : (0 : Int) ≤ (σ.2 3).toInt ∧ (σ.2 3).toInt ≤ 8 := I.2.1 3
  have : (0 : Int) ≤ (σ.2 4).toInt ∧ (σ.2 4).toInt ≤ 60 := I.2.1 4
  have : (0 : Int) ≤ (σ.2 7).toInt ∧ (σ.2 7).toInt ≤ 60 := I.2.1 7
  have : (0 : Int) ≤ (σ.2 8).toInt ∧ (σ.2 8).toInt ≤ 60 := I.2.1 8
  refine hs_ite (fun h_1 => ?_) (fun h_1 => ?_)
  · have : (x1 : Int32).toInt = (0) := congrArg Int32.toInt h_1
    exact hs_some (hQ σ ((σ.2 3) : Int32) I )
  · have : ¬ (x1 : Int32).toInt = (0) := fun z => h_1 (Int32.toInt_inj.mp z)
    refine hs_ite (fun h_2 => ?_) (fun h_2 => ?_)
    · have : (x1 : Int32).toInt = (1) := congrArg Int32.toInt h_2
      exact hs_some (hQ σ ((σ.2 4) : Int32) I )
    · have : ¬ (x1 : Int32).toInt = (1) := fun z => h_2 (Int32.toInt_inj.mp z)
      refine hs_ite (fun h_3 => ?_) (fun h_3 => ?_)
      · have : (x1 : Int32).toInt = (2) := congrArg Int32.toInt h_3
        refine hs_bd (s_fX1_countIn σ (0 : Int32) I  (fun v5_4  => ?_))
        exact hs_some (hQ σ (v5_4 : Int32) I )
      · have : ¬ (x1 : Int32).toInt = (2) := fun z => h_3 (Int32.toInt_inj.mp z)
        refine hs_ite (fun h_5 => ?_) (fun h_5 => ?_)
        · have : (x1 : Int32).toInt = (3) := congrArg Int32.toInt h_5
          refine hs_bd (s_fX1_countIn σ (1 : Int32) I  (fun v9_6  => ?_))
          exact hs_some (hQ σ (v9_6 : Int32) I )
        · have : ¬ (x1 : Int32).toInt = (3) := fun z => h_5 (Int32.toInt_inj.mp z)
          refine hs_ite (fun h_7 => ?_) (fun h_7 => ?_)
          · have : (x1 : Int32).toInt = (4) := congrArg Int32.toInt h_7
            refine hs_bd (s_fX1_countIn σ (2 : Int32) I  (fun v13_8  => ?_))
            exact hs_some (hQ σ (v13_8 : Int32) I )
          · have : ¬ (x1 : Int32).toInt = (4) := fun z => h_7 (Int32.toInt_inj.mp z)
            refine hs_ite (fun h_9 => ?_) (fun h_9 => ?_)
            · have : (x1 : Int32).toInt = (5) := congrArg Int32.toInt h_9
              refine hs_bd (s_fX1_countIn σ (3 : Int32) I  (fun v17_10  => ?_))
              exact hs_some (hQ σ (v17_10 : Int32) I )
            · have : ¬ (x1 : Int32).toInt = (5) := fun z => h_9 (Int32.toInt_inj.mp z)
              refine hs_ite (fun h_11 => ?_) (fun h_11 => ?_)
              · have : (x1 : Int32).toInt = (6) := congrArg Int32.toInt h_11
                refine hs_bd (s_fX1_oilUnbroken σ  I  (fun v21_12  => ?_))
                exact hs_some (hQ σ (v21_12 : Int32) I )
              · have : ¬ (x1 : Int32).toInt = (6) := fun z => h_11 (Int32.toInt_inj.mp z)
                refine hs_ite (fun h_13 => ?_) (fun h_13 => ?_)
                · have : (x1 : Int32).toInt = (7) := congrArg Int32.toInt h_13
                  exact hs_some (hQ σ ((σ.2 7) : Int32) I )
                · have : ¬ (x1 : Int32).toInt = (7) := fun z => h_13 (Int32.toInt_inj.mp z)
                  refine hs_ite (fun h_14 => ?_) (fun h_14 => ?_)
                  · have : (x1 : Int32).toInt = (8) := congrArg Int32.toInt h_14
                    exact hs_some (hQ σ ((σ.2 8) : Int32) I )
                  · have : ¬ (x1 : Int32).toInt = (8) := fun z => h_14 (Int32.toInt_inj.mp z)
                    refine hs_ite (fun h_15 => ?_) (fun h_15 => ?_)
                    · have : (x1 : Int32).toInt = (9) := congrArg Int32.toInt h_15
                      exact hs_some (hQ σ ((σ.2 1) : Int32) I )
                    · have : ¬ (x1 : Int32).toInt = (9) := fun z => h_15 (Int32.toInt_inj.mp z)
                      exact hs_some (hQ σ ((-1) : Int32) I )
theorem s_fX9_falsehoodAt {R : hy_S → Prop} (σ : hy_S) (x1 : Int32) {P : hy_S → Int32 → Prop} (I : hc_I R σ) (p0 : 0 ≤ x1.toInt) (p1 : x1.toInt < 8) (hQ : ∀ v9 : Int32, P σ v9) : hs_ok2 (fX9_falsehoodAt σ x1) P := by
  unfold fX9_falsehoodAt
  show hs_ok _ _
  have : (0 : Int) ≤ (σ.2 4).toInt ∧ (σ.2 4).toInt ≤ 60 := I.2.1 4
  refine hs_ga (j := 1) I (by decide) (by decide) (fun v1_1 ev1_1 (bv1_1 : (0 : Int) ≤ v1_1.toInt ∧ v1_1.toInt ≤ 99999) => ?_)
  refine hs_ite (fun h_2 => ?_) (fun h_2 => ?_)
  · have : ((σ.2 4) : Int32).toInt ≤ (v1_1 : Int32).toInt := Int32.le_iff_toInt_le.mp h_2
    exact hs_some (hQ (1 : Int32) )
  · have : ¬ ((σ.2 4) : Int32).toInt ≤ (v1_1 : Int32).toInt := fun z => h_2 (Int32.le_iff_toInt_le.mpr z)
    refine hs_ga (j := 9) I (by omega) (by omega) (fun v5_3 ev5_3 (bv5_3 : (-2147483648 : Int) ≤ v5_3.toInt ∧ v5_3.toInt ≤ 2147483647) => ?_)
    refine hs_ite (fun h_4 => ?_) (fun h_4 => ?_)
    · have : (v5_3 : Int32).toInt = (1) := congrArg Int32.toInt h_4
      refine hs_ga (j := 1) I (by decide) (by decide) (fun v9_5 ev9_5 (bv9_5 : (0 : Int) ≤ v9_5.toInt ∧ v9_5.toInt ≤ 99999) => ?_)
      refine hs_ga (j := 8) I (by omega) (by omega) (fun v12_6 ev12_6 (bv12_6 : (-2147483648 : Int) ≤ v12_6.toInt ∧ v12_6.toInt ≤ 2147483647) => ?_)
      refine hs_ite (fun h_7 => ?_) (fun h_7 => ?_)
      · have : (v9_5 : Int32).toInt = (v12_6 : Int32).toInt := congrArg Int32.toInt h_7
        refine hs_ga (j := 1) I (by decide) (by decide) (fun v16_8 ev16_8 (bv16_8 : (0 : Int) ≤ v16_8.toInt ∧ v16_8.toInt ≤ 99999) => ?_)
        refine hs_ga (j := 6) I (by omega) (by omega) (fun v19_9 ev19_9 (bv19_9 : (-2147483648 : Int) ≤ v19_9.toInt ∧ v19_9.toInt ≤ 2147483647) => ?_)
        refine hs_ite (fun h_10 => ?_) (fun h_10 => ?_)
        · have : (v16_8 : Int32).toInt = (v19_9 : Int32).toInt := congrArg Int32.toInt h_10
          refine hs_ga (j := 1) I (by decide) (by decide) (fun v23_11 ev23_11 (bv23_11 : (0 : Int) ≤ v23_11.toInt ∧ v23_11.toInt ≤ 99999) => ?_)
          refine hs_ga (j := 7) I (by omega) (by omega) (fun v26_12 ev26_12 (bv26_12 : (-2147483648 : Int) ≤ v26_12.toInt ∧ v26_12.toInt ≤ 2147483647) => ?_)
          refine hs_ite (fun h_13 => ?_) (fun h_13 => ?_)
          · have : (v23_11 : Int32).toInt = (v26_12 : Int32).toInt := congrArg Int32.toInt h_13
            refine hs_ga (j := 1) I (by decide) (by decide) (fun v30_14 ev30_14 (bv30_14 : (0 : Int) ≤ v30_14.toInt ∧ v30_14.toInt ≤ 99999) => ?_)
            refine hs_ga (j := 8) I (by omega) (by omega) (fun v33_15 ev33_15 (bv33_15 : (-2147483648 : Int) ≤ v33_15.toInt ∧ v33_15.toInt ≤ 2147483647) => ?_)
            refine hs_bd (s_fX4_due σ x1 v33_15 I (show 0 ≤ (x1 : Int32).toInt by omega) (show (x1 : Int32).toInt < 8 by omega) (fun v37_16  => ?_))
            refine hs_ite (fun h_17 => ?_) (fun h_17 => ?_)
            · have : (v30_14 : Int32).toInt = (v37_16 : Int32).toInt := congrArg Int32.toInt h_17
              exact hs_some (hQ (0 : Int32) )
            · have : ¬ (v30_14 : Int32).toInt = (v37_16 : Int32).toInt := fun z => h_17 (Int32.toInt_inj.mp z)
              exact hs_some (hQ (5 : Int32) )
          · have : ¬ (v23_11 : Int32).toInt = (v26_12 : Int32).toInt := fun z => h_13 (Int32.toInt_inj.mp z)
            exact hs_some (hQ (4 : Int32) )
        · have : ¬ (v16_8 : Int32).toInt = (v19_9 : Int32).toInt := fun z => h_10 (Int32.toInt_inj.mp z)
          exact hs_some (hQ (3 : Int32) )
      · have : ¬ (v9_5 : Int32).toInt = (v12_6 : Int32).toInt := fun z => h_7 (Int32.toInt_inj.mp z)
        exact hs_some (hQ (2 : Int32) )
    · have : ¬ (v5_3 : Int32).toInt = (1) := fun z => h_4 (Int32.toInt_inj.mp z)
      exact hs_some (hQ (1 : Int32) )
theorem s_fX9_kind {R : hy_S → Prop} (ra : ∀ j, j ∈ ([2, 3, 4] : List Nat) → ∀ (τ : hy_S) (g : Nat → Int32), R τ → R (hy_sc τ j g)) (ri : ∀ j, j ∈ ([3] : List Nat) → ∀ (τ : hy_S) (v : Int32), R τ → R (hy_si τ j v)) (σ : hy_S) (x1 : Int32) (x2 : Int32) (x3 : Int32) {Q : hy_O → Prop} (I : hc_I R σ) (hQ : ∀ (σ9 : hy_S) (v9 : Int32) (k9 : Nat), hc_I R σ9 → (k9 = 0 ∨ k9 = 2 ∨ k9 = 3) → ((k9 = 0 ∧ ¬ (x1.toInt < 1 ∨ 100 < x1.toInt ∨ x2.toInt < 1 ∨ 200 < x2.toInt ∨ x3.toInt < 0 ∨ 5000 < x3.toInt) ∧ (σ.2 3).toInt < 8 ∧ (σ9.2 3).toInt = (σ.2 3).toInt + 1 ∧ v9.toInt = (σ.2 3).toInt) ∨ (k9 = 2 ∧ (x1.toInt < 1 ∨ 100 < x1.toInt ∨ x2.toInt < 1 ∨ 200 < x2.toInt ∨ x3.toInt < 0 ∨ 5000 < x3.toInt) ∧ (σ9.2 3).toInt = (σ.2 3).toInt) ∨ (k9 = 3 ∧ ¬ (x1.toInt < 1 ∨ 100 < x1.toInt ∨ x2.toInt < 1 ∨ 200 < x2.toInt ∨ x3.toInt < 0 ∨ 5000 < x3.toInt) ∧ 8 ≤ (σ.2 3).toInt ∧ (σ9.2 3).toInt = (σ.2 3).toInt)) → Q (σ9, v9, k9)) : hs_ok (fX9_kind σ x1 x2 x3) Q := by
  unfold fX9_kind
  have : (0 : Int) ≤ (σ.2 3).toInt ∧ (σ.2 3).toInt ≤ 8 := I.2.1 3
  refine hs_btN (fun (u_1_0 : (1) ≤ (x1 : Int32).toInt) (u_1_1 : (x1 : Int32).toInt ≤ (100)) => ?_) (fun (u_1x : (x1 : Int32).toInt < (1) ∨ (100) < (x1 : Int32).toInt) => hQ _ _ _ I (by decide) (show (2 = 0 ∧ ¬ (x1.toInt < 1 ∨ 100 < x1.toInt ∨ x2.toInt < 1 ∨ 200 < x2.toInt ∨ x3.toInt < 0 ∨ 5000 < x3.toInt) ∧ (σ.2 3).toInt < 8 ∧ (σ.2 3).toInt = (σ.2 3).toInt + 1 ∧ (0) = (σ.2 3).toInt) ∨ (2 = 2 ∧ (x1.toInt < 1 ∨ 100 < x1.toInt ∨ x2.toInt < 1 ∨ 200 < x2.toInt ∨ x3.toInt < 0 ∨ 5000 < x3.toInt) ∧ (σ.2 3).toInt = (σ.2 3).toInt) ∨ (2 = 3 ∧ ¬ (x1.toInt < 1 ∨ 100 < x1.toInt ∨ x2.toInt < 1 ∨ 200 < x2.toInt ∨ x3.toInt < 0 ∨ 5000 < x3.toInt) ∧ 8 ≤ (σ.2 3).toInt ∧ (σ.2 3).toInt = (σ.2 3).toInt) by omega))
  refine hs_btN (fun (u_2_0 : (1) ≤ (x2 : Int32).toInt) (u_2_1 : (x2 : Int32).toInt ≤ (200)) => ?_) (fun (u_2x : (x2 : Int32).toInt < (1) ∨ (200) < (x2 : Int32).toInt) => hQ _ _ _ I (by decide) (show (2 = 0 ∧ ¬ (x1.toInt < 1 ∨ 100 < x1.toInt ∨ x2.toInt < 1 ∨ 200 < x2.toInt ∨ x3.toInt < 0 ∨ 5000 < x3.toInt) ∧ (σ.2 3).toInt < 8 ∧ (σ.2 3).toInt = (σ.2 3).toInt + 1 ∧ (0) = (σ.2 3).toInt) ∨ (2 = 2 ∧ (x1.toInt < 1 ∨ 100 < x1.toInt ∨ x2.toInt < 1 ∨ 200 < x2.toInt ∨ x3.toInt < 0 ∨ 5000 < x3.toInt) ∧ (σ.2 3).toInt = (σ.2 3).toInt) ∨ (2 = 3 ∧ ¬ (x1.toInt < 1 ∨ 100 < x1.toInt ∨ x2.toInt < 1 ∨ 200 < x2.toInt ∨ x3.toInt < 0 ∨ 5000 < x3.toInt) ∧ 8 ≤ (σ.2 3).toInt ∧ (σ.2 3).toInt = (σ.2 3).toInt) by omega))
  refine hs_btN (fun (u_3_0 : (0) ≤ (x3 : Int32).toInt) (u_3_1 : (x3 : Int32).toInt ≤ (5000)) => ?_) (fun (u_3x : (x3 : Int32).toInt < (0) ∨ (5000) < (x3 : Int32).toInt) => hQ _ _ _ I (by decide) (show (2 = 0 ∧ ¬ (x1.toInt < 1 ∨ 100 < x1.toInt ∨ x2.toInt < 1 ∨ 200 < x2.toInt ∨ x3.toInt < 0 ∨ 5000 < x3.toInt) ∧ (σ.2 3).toInt < 8 ∧ (σ.2 3).toInt = (σ.2 3).toInt + 1 ∧ (0) = (σ.2 3).toInt) ∨ (2 = 2 ∧ (x1.toInt < 1 ∨ 100 < x1.toInt ∨ x2.toInt < 1 ∨ 200 < x2.toInt ∨ x3.toInt < 0 ∨ 5000 < x3.toInt) ∧ (σ.2 3).toInt = (σ.2 3).toInt) ∨ (2 = 3 ∧ ¬ (x1.toInt < 1 ∨ 100 < x1.toInt ∨ x2.toInt < 1 ∨ 200 < x2.toInt ∨ x3.toInt < 0 ∨ 5000 < x3.toInt) ∧ 8 ≤ (σ.2 3).toInt ∧ (σ.2 3).toInt = (σ.2 3).toInt) by omega))
  refine hs_btP (fun (u_4_0 : ((σ.2 3) : Int32).toInt < (8)) => ?_) (fun (u_4x : (8) ≤ ((σ.2 3) : Int32).toInt) => hQ _ _ _ I (by decide) (show (3 = 0 ∧ ¬ (x1.toInt < 1 ∨ 100 < x1.toInt ∨ x2.toInt < 1 ∨ 200 < x2.toInt ∨ x3.toInt < 0 ∨ 5000 < x3.toInt) ∧ (σ.2 3).toInt < 8 ∧ (σ.2 3).toInt = (σ.2 3).toInt + 1 ∧ (0) = (σ.2 3).toInt) ∨ (3 = 2 ∧ (x1.toInt < 1 ∨ 100 < x1.toInt ∨ x2.toInt < 1 ∨ 200 < x2.toInt ∨ x3.toInt < 0 ∨ 5000 < x3.toInt) ∧ (σ.2 3).toInt = (σ.2 3).toInt) ∨ (3 = 3 ∧ ¬ (x1.toInt < 1 ∨ 100 < x1.toInt ∨ x2.toInt < 1 ∨ 200 < x2.toInt ∨ x3.toInt < 0 ∨ 5000 < x3.toInt) ∧ 8 ≤ (σ.2 3).toInt ∧ (σ.2 3).toInt = (σ.2 3).toInt) by omega))
  refine hs_bd (s_fX2_add (fun j h => ra j (hs_inc (by decide) h)) (fun j h => ri j (hs_inc (by decide) h)) σ x1 x2 x3 I (show (σ.2 3).toInt < 8 by omega) (fun σ17_6 v18_5 Iσ17_6 (gv18_5_0 : (σ17_6.2 3).toInt = (σ.2 3).toInt + 1) (gv18_5_1 : v18_5.toInt = (σ.2 3).toInt) => ?_))
  have : (0 : Int) ≤ (σ17_6.2 3).toInt ∧ (σ17_6.2 3).toInt ≤ 8 := Iσ17_6.2.1 3
  exact hs_some (hQ _ _ _ Iσ17_6 (by decide) (show (0 = 0 ∧ ¬ (x1.toInt < 1 ∨ 100 < x1.toInt ∨ x2.toInt < 1 ∨ 200 < x2.toInt ∨ x3.toInt < 0 ∨ 5000 < x3.toInt) ∧ (σ.2 3).toInt < 8 ∧ (σ17_6.2 3).toInt = (σ.2 3).toInt + 1 ∧ (v18_5 : Int32).toInt = (σ.2 3).toInt) ∨ (0 = 2 ∧ (x1.toInt < 1 ∨ 100 < x1.toInt ∨ x2.toInt < 1 ∨ 200 < x2.toInt ∨ x3.toInt < 0 ∨ 5000 < x3.toInt) ∧ (σ17_6.2 3).toInt = (σ.2 3).toInt) ∨ (0 = 3 ∧ ¬ (x1.toInt < 1 ∨ 100 < x1.toInt ∨ x2.toInt < 1 ∨ 200 < x2.toInt ∨ x3.toInt < 0 ∨ 5000 < x3.toInt) ∧ 8 ≤ (σ.2 3).toInt ∧ (σ17_6.2 3).toInt = (σ.2 3).toInt) by omega))
theorem s_fX9_fire {R : hy_S → Prop} (ra : ∀ j, j ∈ ([5, 6, 7, 8, 9, 10] : List Nat) → ∀ (τ : hy_S) (g : Nat → Int32), R τ → R (hy_sc τ j g)) (ri : ∀ j, j ∈ ([4] : List Nat) → ∀ (τ : hy_S) (v : Int32), R τ → R (hy_si τ j v)) (σ : hy_S) (x1 : Int32) (x2 : Int32) (x3 : Int32) {Q : hy_O → Prop} (I : hc_I R σ) (hQ : ∀ (σ9 : hy_S) (v9 : Int32) (k9 : Nat), hc_I R σ9 → (k9 = 0 ∨ k9 = 1 ∨ k9 = 2 ∨ k9 = 3) → ((k9 = 0 ∧ 0 ≤ x1.toInt ∧ x1.toInt < (σ.2 3).toInt ∧ ¬ (x2.toInt < 0 ∨ 15 < x2.toInt ∨ x3.toInt < 1 ∨ 300 < x3.toInt) ∧ (σ.2 4).toInt < 60 ∧ (σ9.2 4).toInt = (σ.2 4).toInt + 1 ∧ v9.toInt = (σ.2 4).toInt) ∨ (k9 = 1 ∧ (x1.toInt < 0 ∨ (σ.2 3).toInt ≤ x1.toInt) ∧ (σ9.2 4).toInt = (σ.2 4).toInt) ∨ (k9 = 2 ∧ 0 ≤ x1.toInt ∧ x1.toInt < (σ.2 3).toInt ∧ (x2.toInt < 0 ∨ 15 < x2.toInt ∨ x3.toInt < 1 ∨ 300 < x3.toInt) ∧ (σ9.2 4).toInt = (σ.2 4).toInt) ∨ (k9 = 3 ∧ 0 ≤ x1.toInt ∧ x1.toInt < (σ.2 3).toInt ∧ ¬ (x2.toInt < 0 ∨ 15 < x2.toInt ∨ x3.toInt < 1 ∨ 300 < x3.toInt) ∧ 60 ≤ (σ.2 4).toInt ∧ (σ9.2 4).toInt = (σ.2 4).toInt)) → Q (σ9, v9, k9)) : hs_ok (fX9_fire σ x1 x2 x3) Q := by
  unfold fX9_fire
  have : (0 : Int) ≤ (σ.2 3).toInt ∧ (σ.2 3).toInt ≤ 8 := I.2.1 3
  have : (0 : Int) ≤ (σ.2 4).toInt ∧ (σ.2 4).toInt ≤ 60 := I.2.1 4
  refine hs_btI (fun (u_1_0 : (0 : Int) ≤ (x1 : Int32).toInt) (u_1_1 : (x1 : Int32).toInt < ((σ.2 3) : Int32).toInt) => ?_) (fun (u_1x : (x1 : Int32).toInt < 0 ∨ ((σ.2 3) : Int32).toInt ≤ (x1 : Int32).toInt) => hQ _ _ _ I (by decide) (show (1 = 0 ∧ 0 ≤ x1.toInt ∧ x1.toInt < (σ.2 3).toInt ∧ ¬ (x2.toInt < 0 ∨ 15 < x2.toInt ∨ x3.toInt < 1 ∨ 300 < x3.toInt) ∧ (σ.2 4).toInt < 60 ∧ (σ.2 4).toInt = (σ.2 4).toInt + 1 ∧ (0) = (σ.2 4).toInt) ∨ (1 = 1 ∧ (x1.toInt < 0 ∨ (σ.2 3).toInt ≤ x1.toInt) ∧ (σ.2 4).toInt = (σ.2 4).toInt) ∨ (1 = 2 ∧ 0 ≤ x1.toInt ∧ x1.toInt < (σ.2 3).toInt ∧ (x2.toInt < 0 ∨ 15 < x2.toInt ∨ x3.toInt < 1 ∨ 300 < x3.toInt) ∧ (σ.2 4).toInt = (σ.2 4).toInt) ∨ (1 = 3 ∧ 0 ≤ x1.toInt ∧ x1.toInt < (σ.2 3).toInt ∧ ¬ (x2.toInt < 0 ∨ 15 < x2.toInt ∨ x3.toInt < 1 ∨ 300 < x3.toInt) ∧ 60 ≤ (σ.2 4).toInt ∧ (σ.2 4).toInt = (σ.2 4).toInt) by omega))
  refine hs_btN (fun (u_2_0 : (0) ≤ (x2 : Int32).toInt) (u_2_1 : (x2 : Int32).toInt ≤ (15)) => ?_) (fun (u_2x : (x2 : Int32).toInt < (0) ∨ (15) < (x2 : Int32).toInt) => hQ _ _ _ I (by decide) (show (2 = 0 ∧ 0 ≤ x1.toInt ∧ x1.toInt < (σ.2 3).toInt ∧ ¬ (x2.toInt < 0 ∨ 15 < x2.toInt ∨ x3.toInt < 1 ∨ 300 < x3.toInt) ∧ (σ.2 4).toInt < 60 ∧ (σ.2 4).toInt = (σ.2 4).toInt + 1 ∧ (0) = (σ.2 4).toInt) ∨ (2 = 1 ∧ (x1.toInt < 0 ∨ (σ.2 3).toInt ≤ x1.toInt) ∧ (σ.2 4).toInt = (σ.2 4).toInt) ∨ (2 = 2 ∧ 0 ≤ x1.toInt ∧ x1.toInt < (σ.2 3).toInt ∧ (x2.toInt < 0 ∨ 15 < x2.toInt ∨ x3.toInt < 1 ∨ 300 < x3.toInt) ∧ (σ.2 4).toInt = (σ.2 4).toInt) ∨ (2 = 3 ∧ 0 ≤ x1.toInt ∧ x1.toInt < (σ.2 3).toInt ∧ ¬ (x2.toInt < 0 ∨ 15 < x2.toInt ∨ x3.toInt < 1 ∨ 300 < x3.toInt) ∧ 60 ≤ (σ.2 4).toInt ∧ (σ.2 4).toInt = (σ.2 4).toInt) by omega))
  refine hs_btN (fun (u_3_0 : (1) ≤ (x3 : Int32).toInt) (u_3_1 : (x3 : Int32).toInt ≤ (300)) => ?_) (fun (u_3x : (x3 : Int32).toInt < (1) ∨ (300) < (x3 : Int32).toInt) => hQ _ _ _ I (by decide) (show (2 = 0 ∧ 0 ≤ x1.toInt ∧ x1.toInt < (σ.2 3).toInt ∧ ¬ (x2.toInt < 0 ∨ 15 < x2.toInt ∨ x3.toInt < 1 ∨ 300 < x3.toInt) ∧ (σ.2 4).toInt < 60 ∧ (σ.2 4).toInt = (σ.2 4).toInt + 1 ∧ (0) = (σ.2 4).toInt) ∨ (2 = 1 ∧ (x1.toInt < 0 ∨ (σ.2 3).toInt ≤ x1.toInt) ∧ (σ.2 4).toInt = (σ.2 4).toInt) ∨ (2 = 2 ∧ 0 ≤ x1.toInt ∧ x1.toInt < (σ.2 3).toInt ∧ (x2.toInt < 0 ∨ 15 < x2.toInt ∨ x3.toInt < 1 ∨ 300 < x3.toInt) ∧ (σ.2 4).toInt = (σ.2 4).toInt) ∨ (2 = 3 ∧ 0 ≤ x1.toInt ∧ x1.toInt < (σ.2 3).toInt ∧ ¬ (x2.toInt < 0 ∨ 15 < x2.toInt ∨ x3.toInt < 1 ∨ 300 < x3.toInt) ∧ 60 ≤ (σ.2 4).toInt ∧ (σ.2 4).toInt = (σ.2 4).toInt) by omega))
  refine hs_btP (fun (u_4_0 : ((σ.2 4) : Int32).toInt < (60)) => ?_) (fun (u_4x : (60) ≤ ((σ.2 4) : Int32).toInt) => hQ _ _ _ I (by decide) (show (3 = 0 ∧ 0 ≤ x1.toInt ∧ x1.toInt < (σ.2 3).toInt ∧ ¬ (x2.toInt < 0 ∨ 15 < x2.toInt ∨ x3.toInt < 1 ∨ 300 < x3.toInt) ∧ (σ.2 4).toInt < 60 ∧ (σ.2 4).toInt = (σ.2 4).toInt + 1 ∧ (0) = (σ.2 4).toInt) ∨ (3 = 1 ∧ (x1.toInt < 0 ∨ (σ.2 3).toInt ≤ x1.toInt) ∧ (σ.2 4).toInt = (σ.2 4).toInt) ∨ (3 = 2 ∧ 0 ≤ x1.toInt ∧ x1.toInt < (σ.2 3).toInt ∧ (x2.toInt < 0 ∨ 15 < x2.toInt ∨ x3.toInt < 1 ∨ 300 < x3.toInt) ∧ (σ.2 4).toInt = (σ.2 4).toInt) ∨ (3 = 3 ∧ 0 ≤ x1.toInt ∧ x1.toInt < (σ.2 3).toInt ∧ ¬ (x2.toInt < 0 ∨ 15 < x2.toInt ∨ x3.toInt < 1 ∨ 300 < x3.toInt) ∧ 60 ≤ (σ.2 4).toInt ∧ (σ.2 4).toInt = (σ.2 4).toInt) by omega))
  refine hs_bd (s_fX1_add (fun j h => ra j (hs_inc (by decide) h)) (fun j h => ri j (hs_inc (by decide) h)) σ x1 x2 x3 I (show (σ.2 4).toInt < 60 by omega) (show 0 ≤ (x1 : Int32).toInt by omega) (show (x1 : Int32).toInt ≤ 7 by omega) (fun σ17_6 v18_5 Iσ17_6 (gv18_5_0 : (σ17_6.2 4).toInt = (σ.2 4).toInt + 1) (gv18_5_1 : v18_5.toInt = (σ.2 4).toInt) => ?_))
  have : (0 : Int) ≤ (σ17_6.2 3).toInt ∧ (σ17_6.2 3).toInt ≤ 8 := Iσ17_6.2.1 3
  have : (0 : Int) ≤ (σ17_6.2 4).toInt ∧ (σ17_6.2 4).toInt ≤ 60 := Iσ17_6.2.1 4
  exact hs_some (hQ _ _ _ Iσ17_6 (by decide) (show (0 = 0 ∧ 0 ≤ x1.toInt ∧ x1.toInt < (σ.2 3).toInt ∧ ¬ (x2.toInt < 0 ∨ 15 < x2.toInt ∨ x3.toInt < 1 ∨ 300 < x3.toInt) ∧ (σ.2 4).toInt < 60 ∧ (σ17_6.2 4).toInt = (σ.2 4).toInt + 1 ∧ (v18_5 : Int32).toInt = (σ.2 4).toInt) ∨ (0 = 1 ∧ (x1.toInt < 0 ∨ (σ.2 3).toInt ≤ x1.toInt) ∧ (σ17_6.2 4).toInt = (σ.2 4).toInt) ∨ (0 = 2 ∧ 0 ≤ x1.toInt ∧ x1.toInt < (σ.2 3).toInt ∧ (x2.toInt < 0 ∨ 15 < x2.toInt ∨ x3.toInt < 1 ∨ 300 < x3.toInt) ∧ (σ17_6.2 4).toInt = (σ.2 4).toInt) ∨ (0 = 3 ∧ 0 ≤ x1.toInt ∧ x1.toInt < (σ.2 3).toInt ∧ ¬ (x2.toInt < 0 ∨ 15 < x2.toInt ∨ x3.toInt < 1 ∨ 300 < x3.toInt) ∧ 60 ≤ (σ.2 4).toInt ∧ (σ17_6.2 4).toInt = (σ.2 4).toInt) by omega))
theorem s_fX9_fill {R : hy_S → Prop} (ra : ∀ j, j ∈ ([8] : List Nat) → ∀ (τ : hy_S) (g : Nat → Int32), R τ → R (hy_sc τ j g)) (ri : ∀ j, j ∈ ([] : List Nat) → ∀ (τ : hy_S) (v : Int32), R τ → R (hy_si τ j v)) (σ : hy_S) (x1 : Int32) (x2 : Int32) {Q : hy_O → Prop} (I : hc_I R σ) (hQ : ∀ (σ9 : hy_S) (v9 : Int32) (k9 : Nat), hc_I R σ9 → (k9 = 0 ∨ k9 = 1 ∨ k9 = 2) → Q (σ9, v9, k9)) : hs_ok (fX9_fill σ x1 x2) Q := by
  unfold fX9_fill
  have : (0 : Int) ≤ (σ.2 4).toInt ∧ (σ.2 4).toInt ≤ 60 := I.2.1 4
  refine hs_btI (fun (u_1_0 : (0 : Int) ≤ (x1 : Int32).toInt) (u_1_1 : (x1 : Int32).toInt < ((σ.2 4) : Int32).toInt) => ?_) (fun (u_1x : (x1 : Int32).toInt < 0 ∨ ((σ.2 4) : Int32).toInt ≤ (x1 : Int32).toInt) => hQ _ _ _ I (by decide) )
  refine hs_btN (fun (u_2_0 : (1) ≤ (x2 : Int32).toInt) (u_2_1 : (x2 : Int32).toInt ≤ (200)) => ?_) (fun (u_2x : (x2 : Int32).toInt < (1) ∨ (200) < (x2 : Int32).toInt) => hQ _ _ _ I (by decide) )
  refine hs_bd (s_fX1_pour (fun j h => ra j (hs_inc (by decide) h)) (fun j h => ri j (hs_inc (by decide) h)) σ x1 x2 I (show 0 ≤ (x1 : Int32).toInt by omega) (show (x1 : Int32).toInt < 60 by omega) (fun σ9_4 v10_3 Iσ9_4  => ?_))
  have : (0 : Int) ≤ (σ9_4.2 4).toInt ∧ (σ9_4.2 4).toInt ≤ 60 := Iσ9_4.2.1 4
  exact hs_some (hQ _ _ _ Iσ9_4 (by decide) )
theorem s_fX9_ship {R : hy_S → Prop} (ra : ∀ j, j ∈ ([] : List Nat) → ∀ (τ : hy_S) (g : Nat → Int32), R τ → R (hy_sc τ j g)) (ri : ∀ j, j ∈ ([5] : List Nat) → ∀ (τ : hy_S) (v : Int32), R τ → R (hy_si τ j v)) (σ : hy_S) {Q : hy_O → Prop} (I : hc_I R σ) (hQ : ∀ (σ9 : hy_S) (v9 : Int32) (k9 : Nat), hc_I R σ9 → (k9 = 0 ∨ k9 = 3) → ((k9 = 0 ∧ (σ.2 5).toInt < 4 ∧ (σ9.2 5).toInt = (σ.2 5).toInt + 1 ∧ v9.toInt = (σ.2 5).toInt) ∨ (k9 = 3 ∧ 4 ≤ (σ.2 5).toInt ∧ (σ9.2 5).toInt = (σ.2 5).toInt)) → Q (σ9, v9, k9)) : hs_ok (fX9_ship σ ) Q := by
  unfold fX9_ship
  have : (0 : Int) ≤ (σ.2 5).toInt ∧ (σ.2 5).toInt ≤ 4 := I.2.1 5
  refine hs_btP (fun (u_1_0 : ((σ.2 5) : Int32).toInt < (4)) => ?_) (fun (u_1x : (4) ≤ ((σ.2 5) : Int32).toInt) => hQ _ _ _ I (by decide) (show (3 = 0 ∧ (σ.2 5).toInt < 4 ∧ (σ.2 5).toInt = (σ.2 5).toInt + 1 ∧ (0) = (σ.2 5).toInt) ∨ (3 = 3 ∧ 4 ≤ (σ.2 5).toInt ∧ (σ.2 5).toInt = (σ.2 5).toInt) by omega))
  refine hs_bd (s_fX0_add (fun j h => ra j (hs_inc (by decide) h)) (fun j h => ri j (hs_inc (by decide) h)) σ  I (show (σ.2 5).toInt < 4 by omega) (fun σ5_3 v6_2 Iσ5_3 (gv6_2_0 : (σ5_3.2 5).toInt = (σ.2 5).toInt + 1) (gv6_2_1 : v6_2.toInt = (σ.2 5).toInt) => ?_))
  have : (0 : Int) ≤ (σ5_3.2 5).toInt ∧ (σ5_3.2 5).toInt ≤ 4 := Iσ5_3.2.1 5
  exact hs_some (hQ _ _ _ Iσ5_3 (by decide) (show (0 = 0 ∧ (σ.2 5).toInt < 4 ∧ (σ5_3.2 5).toInt = (σ.2 5).toInt + 1 ∧ (v6_2 : Int32).toInt = (σ.2 5).toInt) ∨ (0 = 3 ∧ 4 ≤ (σ.2 5).toInt ∧ (σ5_3.2 5).toInt = (σ.2 5).toInt) by omega))
theorem s_fX9_load {R : hy_S → Prop} (ra : ∀ j, j ∈ ([9, 10, 11, 12] : List Nat) → ∀ (τ : hy_S) (g : Nat → Int32), R τ → R (hy_sc τ j g)) (ri : ∀ j, j ∈ ([] : List Nat) → ∀ (τ : hy_S) (v : Int32), R τ → R (hy_si τ j v)) (σ : hy_S) (x1 : Int32) (x2 : Int32) (x3 : Int32) {Q : hy_O → Prop} (I : hc_I R σ) (hQ : ∀ (σ9 : hy_S) (v9 : Int32) (k9 : Nat), hc_I R σ9 → (k9 = 0 ∨ k9 = 1) → Q (σ9, v9, k9)) : hs_ok (fX9_load σ x1 x2 x3) Q := by
  unfold fX9_load
  have : (0 : Int) ≤ (σ.2 4).toInt ∧ (σ.2 4).toInt ≤ 60 := I.2.1 4
  have : (0 : Int) ≤ (σ.2 5).toInt ∧ (σ.2 5).toInt ≤ 4 := I.2.1 5
  refine hs_btI (fun (u_1_0 : (0 : Int) ≤ (x1 : Int32).toInt) (u_1_1 : (x1 : Int32).toInt < ((σ.2 4) : Int32).toInt) => ?_) (fun (u_1x : (x1 : Int32).toInt < 0 ∨ ((σ.2 4) : Int32).toInt ≤ (x1 : Int32).toInt) => hQ _ _ _ I (by decide) )
  refine hs_btH (fun (u_2_0 : (0 : Int) ≤ (x2 : Int32).toInt) (u_2_1 : (x2 : Int32).toInt < (σ.2 5).toInt) (u_2_2 : (0 : Int) ≤ (x3 : Int32).toInt) (u_2_3 : (x3 : Int32).toInt < 6) => ?_) (fun (u_2x : (x2 : Int32).toInt < 0 ∨ (σ.2 5).toInt ≤ (x2 : Int32).toInt ∨ (x3 : Int32).toInt < 0 ∨ 6 ≤ (x3 : Int32).toInt) => hQ _ _ _ I (by decide) )
  refine hs_bd (s_fX0_pileOf σ x2 x3 I (show 0 ≤ (x2 : Int32).toInt by omega) (show (x2 : Int32).toInt ≤ 3 by omega) (show 0 ≤ (x3 : Int32).toInt by omega) (show (x3 : Int32).toInt ≤ 5 by omega) (fun v10_3 (gv10_3_0 : v10_3.toInt = (x2 : Int32).toInt * 6 + (x3 : Int32).toInt) => ?_))
  refine hs_bd (s_fX0_put (fun j h => ra j (hs_inc (by decide) h)) (fun j h => ri j (hs_inc (by decide) h)) σ x1 v10_3 I (show 0 ≤ (x1 : Int32).toInt by omega) (show (x1 : Int32).toInt < 60 by omega) (show 0 ≤ (v10_3 : Int32).toInt by omega) (show (v10_3 : Int32).toInt < 24 by omega) (fun σ12_5 v13_4 Iσ12_5 (gv13_4_0 : 0 ≤ v13_4.toInt) (gv13_4_1 : v13_4.toInt ≤ 1) => ?_))
  have : (0 : Int) ≤ (σ12_5.2 4).toInt ∧ (σ12_5.2 4).toInt ≤ 60 := Iσ12_5.2.1 4
  have : (0 : Int) ≤ (σ12_5.2 5).toInt ∧ (σ12_5.2 5).toInt ≤ 4 := Iσ12_5.2.1 5
  refine hs_ck (hs_01 (by omega) (by omega)) ?_
  exact hs_some (hQ _ _ _ Iσ12_5 (by decide) )
theorem s_fX9_land {R : hy_S → Prop} (ra : ∀ j, j ∈ ([9, 10, 12] : List Nat) → ∀ (τ : hy_S) (g : Nat → Int32), R τ → R (hy_sc τ j g)) (ri : ∀ j, j ∈ ([] : List Nat) → ∀ (τ : hy_S) (v : Int32), R τ → R (hy_si τ j v)) (σ : hy_S) (x1 : Int32) (x2 : Int32) {Q : hy_O → Prop} (I : hc_I R σ) (hQ : ∀ (σ9 : hy_S) (v9 : Int32) (k9 : Nat), hc_I R σ9 → (k9 = 0 ∨ k9 = 1) → Q (σ9, v9, k9)) : hs_ok (fX9_land σ x1 x2) Q := by
  unfold fX9_land
  have : (0 : Int) ≤ (σ.2 5).toInt ∧ (σ.2 5).toInt ≤ 4 := I.2.1 5
  refine hs_btH (fun (u_1_0 : (0 : Int) ≤ (x1 : Int32).toInt) (u_1_1 : (x1 : Int32).toInt < (σ.2 5).toInt) (u_1_2 : (0 : Int) ≤ (x2 : Int32).toInt) (u_1_3 : (x2 : Int32).toInt < 6) => ?_) (fun (u_1x : (x1 : Int32).toInt < 0 ∨ (σ.2 5).toInt ≤ (x1 : Int32).toInt ∨ (x2 : Int32).toInt < 0 ∨ 6 ≤ (x2 : Int32).toInt) => hQ _ _ _ I (by decide) )
  refine hs_bd (s_fX0_pileOf σ x1 x2 I (show 0 ≤ (x1 : Int32).toInt by omega) (show (x1 : Int32).toInt ≤ 3 by omega) (show 0 ≤ (x2 : Int32).toInt by omega) (show (x2 : Int32).toInt ≤ 5 by omega) (fun v6_2 (gv6_2_0 : v6_2.toInt = (x1 : Int32).toInt * 6 + (x2 : Int32).toInt) => ?_))
  refine hs_bd (s_fX0_takeTop (fun j h => ra j (hs_inc (by decide) h)) (fun j h => ri j (hs_inc (by decide) h)) σ v6_2 I (show 0 ≤ (v6_2 : Int32).toInt by omega) (show (v6_2 : Int32).toInt < 24 by omega) (fun σ8_4 v9_3 Iσ8_4  => ?_))
  have : (0 : Int) ≤ (σ8_4.2 5).toInt ∧ (σ8_4.2 5).toInt ≤ 4 := Iσ8_4.2.1 5
  exact hs_some (hQ _ _ _ Iσ8_4 (by decide) )
theorem s_fX9_storm {R : hy_S → Prop} (ra : ∀ j, j ∈ ([9, 10, 11, 12] : List Nat) → ∀ (τ : hy_S) (g : Nat → Int32), R τ → R (hy_sc τ j g)) (ri : ∀ j, j ∈ ([] : List Nat) → ∀ (τ : hy_S) (v : Int32), R τ → R (hy_si τ j v)) (σ : hy_S) (x1 : Int32) (x2 : Int32) {Q : hy_O → Prop} (I : hc_I R σ) (hQ : ∀ (σ9 : hy_S) (v9 : Int32) (k9 : Nat), hc_I R σ9 → (k9 = 0 ∨ k9 = 1 ∨ k9 = 2) → Q (σ9, v9, k9)) : hs_ok (fX9_storm σ x1 x2) Q := by
  unfold fX9_storm
  have : (0 : Int) ≤ (σ.2 5).toInt ∧ (σ.2 5).toInt ≤ 4 := I.2.1 5
  refine hs_btI (fun (u_1_0 : (0 : Int) ≤ (x1 : Int32).toInt) (u_1_1 : (x1 : Int32).toInt < ((σ.2 5) : Int32).toInt) => ?_) (fun (u_1x : (x1 : Int32).toInt < 0 ∨ ((σ.2 5) : Int32).toInt ≤ (x1 : Int32).toInt) => hQ _ _ _ I (by decide) )
  refine hs_btN (fun (u_2_0 : (0) ≤ (x2 : Int32).toInt) (u_2_1 : (x2 : Int32).toInt ≤ (100)) => ?_) (fun (u_2x : (x2 : Int32).toInt < (0) ∨ (100) < (x2 : Int32).toInt) => hQ _ _ _ I (by decide) )
  refine hs_bd (s_fX0_shake (fun j h => ra j (hs_inc (by decide) h)) (fun j h => ri j (hs_inc (by decide) h)) σ x1 x2 I (show 0 ≤ (x1 : Int32).toInt by omega) (show (x1 : Int32).toInt ≤ 3 by omega) (fun σ9_4 v10_3 Iσ9_4  => ?_))
  have : (0 : Int) ≤ (σ9_4.2 5).toInt ∧ (σ9_4.2 5).toInt ≤ 4 := Iσ9_4.2.1 5
  exact hs_some (hQ _ _ _ Iσ9_4 (by decide) )
theorem s_fX9_look {R : hy_S → Prop} (ra : ∀ j, j ∈ ([] : List Nat) → ∀ (τ : hy_S) (g : Nat → Int32), R τ → R (hy_sc τ j g)) (ri : ∀ j, j ∈ ([] : List Nat) → ∀ (τ : hy_S) (v : Int32), R τ → R (hy_si τ j v)) (σ : hy_S) (x1 : Int32) (x2 : Int32) {Q : hy_O → Prop} (I : hc_I R σ) (hQ : ∀ (σ9 : hy_S) (v9 : Int32) (k9 : Nat), hc_I R σ9 → (k9 = 0 ∨ k9 = 1 ∨ k9 = 4) → Q (σ9, v9, k9)) : hs_ok (fX9_look σ x1 x2) Q := by
  unfold fX9_look
  have : (0 : Int) ≤ (σ.2 4).toInt ∧ (σ.2 4).toInt ≤ 60 := I.2.1 4
  refine hs_btI (fun (u_1_0 : (0 : Int) ≤ (x1 : Int32).toInt) (u_1_1 : (x1 : Int32).toInt < ((σ.2 4) : Int32).toInt) => ?_) (fun (u_1x : (x1 : Int32).toInt < 0 ∨ ((σ.2 4) : Int32).toInt ≤ (x1 : Int32).toInt) => hQ _ _ _ I (by decide) )
  refine hs_ite (fun h_2 => ?_) (fun h_2 => ?_)
  · have : (x2 : Int32).toInt = (0) := congrArg Int32.toInt h_2
    refine hs_ga (j := 9) I (by omega) (by omega) (fun v6_3 ev6_3 (bv6_3 : (-2147483648 : Int) ≤ v6_3.toInt ∧ v6_3.toInt ≤ 2147483647) => ?_)
    exact hs_some (hQ _ _ _ I (by decide) )
  · have : ¬ (x2 : Int32).toInt = (0) := fun z => h_2 (Int32.toInt_inj.mp z)
    refine hs_ite (fun h_4 => ?_) (fun h_4 => ?_)
    · have : (x2 : Int32).toInt = (1) := congrArg Int32.toInt h_4
      refine hs_ga (j := 5) I (by omega) (by omega) (fun v10_5 ev10_5 (bv10_5 : (0 : Int) ≤ v10_5.toInt ∧ v10_5.toInt ≤ 7) => ?_)
      exact hs_some (hQ _ _ _ I (by decide) )
    · have : ¬ (x2 : Int32).toInt = (1) := fun z => h_4 (Int32.toInt_inj.mp z)
      refine hs_ite (fun h_6 => ?_) (fun h_6 => ?_)
      · have : (x2 : Int32).toInt = (2) := congrArg Int32.toInt h_6
        refine hs_ga (j := 6) I (by omega) (by omega) (fun v14_7 ev14_7 (bv14_7 : (-2147483648 : Int) ≤ v14_7.toInt ∧ v14_7.toInt ≤ 2147483647) => ?_)
        exact hs_some (hQ _ _ _ I (by decide) )
      · have : ¬ (x2 : Int32).toInt = (2) := fun z => h_6 (Int32.toInt_inj.mp z)
        refine hs_ite (fun h_8 => ?_) (fun h_8 => ?_)
        · have : (x2 : Int32).toInt = (3) := congrArg Int32.toInt h_8
          refine hs_ga (j := 7) I (by omega) (by omega) (fun v18_9 ev18_9 (bv18_9 : (-2147483648 : Int) ≤ v18_9.toInt ∧ v18_9.toInt ≤ 2147483647) => ?_)
          exact hs_some (hQ _ _ _ I (by decide) )
        · have : ¬ (x2 : Int32).toInt = (3) := fun z => h_8 (Int32.toInt_inj.mp z)
          refine hs_ite (fun h_10 => ?_) (fun h_10 => ?_)
          · have : (x2 : Int32).toInt = (4) := congrArg Int32.toInt h_10
            refine hs_ga (j := 8) I (by omega) (by omega) (fun v22_11 ev22_11 (bv22_11 : (-2147483648 : Int) ≤ v22_11.toInt ∧ v22_11.toInt ≤ 2147483647) => ?_)
            exact hs_some (hQ _ _ _ I (by decide) )
          · have : ¬ (x2 : Int32).toInt = (4) := fun z => h_10 (Int32.toInt_inj.mp z)
            refine hs_ite (fun h_12 => ?_) (fun h_12 => ?_)
            · have : (x2 : Int32).toInt = (5) := congrArg Int32.toInt h_12
              refine hs_bd (s_fX1_weight σ x1 I (show 0 ≤ (x1 : Int32).toInt by omega) (show (x1 : Int32).toInt < 60 by omega) (fun v27_13  => ?_))
              exact hs_some (hQ _ _ _ I (by decide) )
            · have : ¬ (x2 : Int32).toInt = (5) := fun z => h_12 (Int32.toInt_inj.mp z)
              refine hs_ite (fun h_14 => ?_) (fun h_14 => ?_)
              · have : (x2 : Int32).toInt = (6) := congrArg Int32.toInt h_14
                refine hs_ga (j := 10) I (by omega) (by omega) (fun v30_15 ev30_15 (bv30_15 : (-1 : Int) ≤ v30_15.toInt ∧ v30_15.toInt ≤ 23) => ?_)
                refine hs_bd (s_fX0_shipOf σ v30_15 I  (fun v34_16  => ?_))
                exact hs_some (hQ _ _ _ I (by decide) )
              · have : ¬ (x2 : Int32).toInt = (6) := fun z => h_14 (Int32.toInt_inj.mp z)
                refine hs_ite (fun h_17 => ?_) (fun h_17 => ?_)
                · have : (x2 : Int32).toInt = (7) := congrArg Int32.toInt h_17
                  refine hs_ga (j := 10) I (by omega) (by omega) (fun v37_18 ev37_18 (bv37_18 : (-1 : Int) ≤ v37_18.toInt ∧ v37_18.toInt ≤ 23) => ?_)
                  refine hs_bd (s_fX0_holdOf σ v37_18 I  (fun v41_19  => ?_))
                  exact hs_some (hQ _ _ _ I (by decide) )
                · have : ¬ (x2 : Int32).toInt = (7) := fun z => h_17 (Int32.toInt_inj.mp z)
                  refine hs_ite (fun h_20 => ?_) (fun h_20 => ?_)
                  · have : (x2 : Int32).toInt = (8) := congrArg Int32.toInt h_20
                    refine hs_bd (s_fX0_weightAbove σ x1 I (show 0 ≤ (x1 : Int32).toInt by omega) (show (x1 : Int32).toInt < 60 by omega) (fun v45_21  => ?_))
                    exact hs_some (hQ _ _ _ I (by decide) )
                  · have : ¬ (x2 : Int32).toInt = (8) := fun z => h_20 (Int32.toInt_inj.mp z)
                    exact hs_some (hQ _ _ _ I (by decide) )
theorem s_fX9_stack {R : hy_S → Prop} (ra : ∀ j, j ∈ ([] : List Nat) → ∀ (τ : hy_S) (g : Nat → Int32), R τ → R (hy_sc τ j g)) (ri : ∀ j, j ∈ ([] : List Nat) → ∀ (τ : hy_S) (v : Int32), R τ → R (hy_si τ j v)) (σ : hy_S) (x1 : Int32) (x2 : Int32) (x3 : Int32) {Q : hy_O → Prop} (I : hc_I R σ) (hQ : ∀ (σ9 : hy_S) (v9 : Int32) (k9 : Nat), hc_I R σ9 → (k9 = 0 ∨ k9 = 1) → Q (σ9, v9, k9)) : hs_ok (fX9_stack σ x1 x2 x3) Q := by
  unfold fX9_stack
  have : (0 : Int) ≤ (σ.2 5).toInt ∧ (σ.2 5).toInt ≤ 4 := I.2.1 5
  refine hs_btH (fun (u_1_0 : (0 : Int) ≤ (x1 : Int32).toInt) (u_1_1 : (x1 : Int32).toInt < (σ.2 5).toInt) (u_1_2 : (0 : Int) ≤ (x2 : Int32).toInt) (u_1_3 : (x2 : Int32).toInt < 6) => ?_) (fun (u_1x : (x1 : Int32).toInt < 0 ∨ (σ.2 5).toInt ≤ (x1 : Int32).toInt ∨ (x2 : Int32).toInt < 0 ∨ 6 ≤ (x2 : Int32).toInt) => hQ _ _ _ I (by decide) )
  refine hs_bd (s_fX0_pileOf σ x1 x2 I (show 0 ≤ (x1 : Int32).toInt by omega) (show (x1 : Int32).toInt ≤ 3 by omega) (show 0 ≤ (x2 : Int32).toInt by omega) (show (x2 : Int32).toInt ≤ 5 by omega) (fun v6_2 (gv6_2_0 : v6_2.toInt = (x1 : Int32).toInt * 6 + (x2 : Int32).toInt) => ?_))
  refine hs_bd (s_fX0_jarAt σ v6_2 x3 I (show 0 ≤ (v6_2 : Int32).toInt by omega) (show (v6_2 : Int32).toInt < 24 by omega) (fun v9_3 (gv9_3_0 : -1 ≤ v9_3.toInt) (gv9_3_1 : v9_3.toInt ≤ 59) (gv9_3_2 : v9_3.toInt = -1 ∨ 0 ≤ (x3 : Int32).toInt) => ?_))
  exact hs_some (hQ _ _ _ I (by decide) )
theorem s_fX9_tallest {R : hy_S → Prop} (ra : ∀ j, j ∈ ([13, 14] : List Nat) → ∀ (τ : hy_S) (g : Nat → Int32), R τ → R (hy_sc τ j g)) (ri : ∀ j, j ∈ ([6] : List Nat) → ∀ (τ : hy_S) (v : Int32), R τ → R (hy_si τ j v)) (σ : hy_S) (x1 : Int32) {Q : hy_O → Prop} (I : hc_I R σ) (hQ : ∀ (σ9 : hy_S) (v9 : Int32) (k9 : Nat), hc_I R σ9 → (k9 = 0 ∨ k9 = 2) → Q (σ9, v9, k9)) : hs_ok (fX9_tallest σ x1) Q := by
  unfold fX9_tallest
  refine hs_bd (s_fX6_choose (fun j h => ra j (hs_inc (by decide) h)) (fun j h => ri j (hs_inc (by decide) h)) σ x1 I  (fun σ1_2 v2_1 Iσ1_2  => ?_))
  refine hs_btN (fun (u_3_0 : (0) ≤ (v2_1 : Int32).toInt) (u_3_1 : (v2_1 : Int32).toInt ≤ (12)) => ?_) (fun (u_3x : (v2_1 : Int32).toInt < (0) ∨ (12) < (v2_1 : Int32).toInt) => hQ _ _ _ Iσ1_2 (by decide) )
  refine hs_bd (s_fX6_greatest (fun j h => ra j (hs_inc (by decide) h)) (fun j h => ri j (hs_inc (by decide) h)) σ1_2  Iσ1_2  (fun σ8_5 v9_4 Iσ8_5  => ?_))
  exact hs_some (hQ _ _ _ Iσ8_5 (by decide) )
theorem s_fX9_rate {R : hy_S → Prop} (ra : ∀ j, j ∈ ([15] : List Nat) → ∀ (τ : hy_S) (g : Nat → Int32), R τ → R (hy_sc τ j g)) (ri : ∀ j, j ∈ ([] : List Nat) → ∀ (τ : hy_S) (v : Int32), R τ → R (hy_si τ j v)) (σ : hy_S) (x1 : Int32) (x2 : Int32) {Q : hy_O → Prop} (I : hc_I R σ) (hQ : ∀ (σ9 : hy_S) (v9 : Int32) (k9 : Nat), hc_I R σ9 → (k9 = 0 ∨ k9 = 1 ∨ k9 = 2) → Q (σ9, v9, k9)) : hs_ok (fX9_rate σ x1 x2) Q := by
  unfold fX9_rate
  refine hs_btI (fun (u_1_0 : (0 : Int) ≤ (x1 : Int32).toInt) (u_1_1 : (x1 : Int32).toInt < (8)) => ?_) (fun (u_1x : (x1 : Int32).toInt < 0 ∨ (8) ≤ (x1 : Int32).toInt) => hQ _ _ _ I (by decide) )
  refine hs_btN (fun (u_2_0 : (0) ≤ (x2 : Int32).toInt) (u_2_1 : (x2 : Int32).toInt ≤ (1000)) => ?_) (fun (u_2x : (x2 : Int32).toInt < (0) ∨ (1000) < (x2 : Int32).toInt) => hQ _ _ _ I (by decide) )
  refine hs_pa (idx := x1) (v := _) I (by omega) (by omega) (hs_any _) (ra 15 (by decide) _ _) (fun σ9_3 eσ9_3 Iσ9_3 => ?_)
  exact hs_some (hQ _ _ _ Iσ9_3 (by decide) )
theorem s_fX9_notes {R : hy_S → Prop} (ra : ∀ j, j ∈ ([] : List Nat) → ∀ (τ : hy_S) (g : Nat → Int32), R τ → R (hy_sc τ j g)) (ri : ∀ j, j ∈ ([] : List Nat) → ∀ (τ : hy_S) (v : Int32), R τ → R (hy_si τ j v)) (σ : hy_S) (x1 : Int32) (x2 : Int32) {Q : hy_O → Prop} (I : hc_I R σ) (hQ : ∀ (σ9 : hy_S) (v9 : Int32) (k9 : Nat), hc_I R σ9 → (k9 = 0 ∨ k9 = 1) → Q (σ9, v9, k9)) : hs_ok (fX9_notes σ x1 x2) Q := by
  unfold fX9_notes
  refine hs_btI (fun (u_1_0 : (0 : Int) ≤ (x1 : Int32).toInt) (u_1_1 : (x1 : Int32).toInt < (8)) => ?_) (fun (u_1x : (x1 : Int32).toInt < 0 ∨ (8) ≤ (x1 : Int32).toInt) => hQ _ _ _ I (by decide) )
  refine hs_ite (fun h_2 => ?_) (fun h_2 => ?_)
  · have : (x2 : Int32).toInt = (0) := congrArg Int32.toInt h_2
    refine hs_ga (j := 16) I (by omega) (by omega) (fun v6_3 ev6_3 (bv6_3 : (-2147483648 : Int) ≤ v6_3.toInt ∧ v6_3.toInt ≤ 2147483647) => ?_)
    exact hs_some (hQ _ _ _ I (by decide) )
  · have : ¬ (x2 : Int32).toInt = (0) := fun z => h_2 (Int32.toInt_inj.mp z)
    refine hs_ga (j := 17) I (by omega) (by omega) (fun v9_4 ev9_4 (bv9_4 : (-2147483648 : Int) ≤ v9_4.toInt ∧ v9_4.toInt ≤ 2147483647) => ?_)
    exact hs_some (hQ _ _ _ I (by decide) )
theorem s_fX9_sherd {R : hy_S → Prop} (ra : ∀ j, j ∈ ([18, 19, 20, 21] : List Nat) → ∀ (τ : hy_S) (g : Nat → Int32), R τ → R (hy_sc τ j g)) (ri : ∀ j, j ∈ ([7] : List Nat) → ∀ (τ : hy_S) (v : Int32), R τ → R (hy_si τ j v)) (σ : hy_S) (x1 : Int32) (x2 : Int32) {Q : hy_O → Prop} (I : hc_I R σ) (hQ : ∀ (σ9 : hy_S) (v9 : Int32) (k9 : Nat), hc_I R σ9 → (k9 = 0 ∨ k9 = 1 ∨ k9 = 2 ∨ k9 = 3) → ((k9 = 0 ∧ 0 ≤ x1.toInt ∧ x1.toInt ≤ 15 ∧ (x2.toInt = -1 ∨ (0 ≤ x2.toInt ∧ x2.toInt < 12)) ∧ (σ.2 7).toInt < 60 ∧ (σ9.2 7).toInt = (σ.2 7).toInt + 1) ∨ ((x1.toInt < 0 ∨ 15 < x1.toInt ∨ (¬ x2.toInt = -1 ∧ (x2.toInt < 0 ∨ 12 ≤ x2.toInt)) ∨ 60 ≤ (σ.2 7).toInt) ∧ (σ9.2 7).toInt = (σ.2 7).toInt)) → Q (σ9, v9, k9)) : hs_ok (fX9_sherd σ x1 x2) Q := by
  unfold fX9_sherd
  have : (0 : Int) ≤ (σ.2 7).toInt ∧ (σ.2 7).toInt ≤ 60 := I.2.1 7
  refine hs_btN (fun (u_1_0 : (0) ≤ (x1 : Int32).toInt) (u_1_1 : (x1 : Int32).toInt ≤ (15)) => ?_) (fun (u_1x : (x1 : Int32).toInt < (0) ∨ (15) < (x1 : Int32).toInt) => hQ _ _ _ I (by decide) (show (2 = 0 ∧ 0 ≤ x1.toInt ∧ x1.toInt ≤ 15 ∧ (x2.toInt = -1 ∨ (0 ≤ x2.toInt ∧ x2.toInt < 12)) ∧ (σ.2 7).toInt < 60 ∧ (σ.2 7).toInt = (σ.2 7).toInt + 1) ∨ ((x1.toInt < 0 ∨ 15 < x1.toInt ∨ (¬ x2.toInt = -1 ∧ (x2.toInt < 0 ∨ 12 ≤ x2.toInt)) ∨ 60 ≤ (σ.2 7).toInt) ∧ (σ.2 7).toInt = (σ.2 7).toInt) by omega))
  refine hs_btS (fun (u_2_0 : (x2 : Int32).toInt = -1 ∨ (0 ≤ (x2 : Int32).toInt ∧ (x2 : Int32).toInt < 12)) => ?_) (fun (u_2x : ¬ (x2 : Int32).toInt = -1 ∧ ((x2 : Int32).toInt < 0 ∨ 12 ≤ (x2 : Int32).toInt)) => hQ _ _ _ I (by decide) (show (1 = 0 ∧ 0 ≤ x1.toInt ∧ x1.toInt ≤ 15 ∧ (x2.toInt = -1 ∨ (0 ≤ x2.toInt ∧ x2.toInt < 12)) ∧ (σ.2 7).toInt < 60 ∧ (σ.2 7).toInt = (σ.2 7).toInt + 1) ∨ ((x1.toInt < 0 ∨ 15 < x1.toInt ∨ (¬ x2.toInt = -1 ∧ (x2.toInt < 0 ∨ 12 ≤ x2.toInt)) ∨ 60 ≤ (σ.2 7).toInt) ∧ (σ.2 7).toInt = (σ.2 7).toInt) by omega))
  refine hs_btP (fun (u_3_0 : ((σ.2 7) : Int32).toInt < (60)) => ?_) (fun (u_3x : (60) ≤ ((σ.2 7) : Int32).toInt) => hQ _ _ _ I (by decide) (show (3 = 0 ∧ 0 ≤ x1.toInt ∧ x1.toInt ≤ 15 ∧ (x2.toInt = -1 ∨ (0 ≤ x2.toInt ∧ x2.toInt < 12)) ∧ (σ.2 7).toInt < 60 ∧ (σ.2 7).toInt = (σ.2 7).toInt + 1) ∨ ((x1.toInt < 0 ∨ 15 < x1.toInt ∨ (¬ x2.toInt = -1 ∧ (x2.toInt < 0 ∨ 12 ≤ x2.toInt)) ∨ 60 ≤ (σ.2 7).toInt) ∧ (σ.2 7).toInt = (σ.2 7).toInt) by omega))
  refine hs_bd (s_fX5_add (fun j h => ra j (hs_inc (by decide) h)) (fun j h => ri j (hs_inc (by decide) h)) σ x1 x2 I (show (σ.2 7).toInt < 60 by omega) (fun σ13_5 v14_4 Iσ13_5 (gv14_4_0 : (σ13_5.2 7).toInt = (σ.2 7).toInt + 1) (gv14_4_1 : v14_4.toInt = (σ.2 7).toInt) => ?_))
  have : (0 : Int) ≤ (σ13_5.2 7).toInt ∧ (σ13_5.2 7).toInt ≤ 60 := Iσ13_5.2.1 7
  exact hs_some (hQ _ _ _ Iσ13_5 (by decide) (show (0 = 0 ∧ 0 ≤ x1.toInt ∧ x1.toInt ≤ 15 ∧ (x2.toInt = -1 ∨ (0 ≤ x2.toInt ∧ x2.toInt < 12)) ∧ (σ.2 7).toInt < 60 ∧ (σ13_5.2 7).toInt = (σ.2 7).toInt + 1) ∨ ((x1.toInt < 0 ∨ 15 < x1.toInt ∨ (¬ x2.toInt = -1 ∧ (x2.toInt < 0 ∨ 12 ≤ x2.toInt)) ∨ 60 ≤ (σ.2 7).toInt) ∧ (σ13_5.2 7).toInt = (σ.2 7).toInt) by omega))
theorem s_fX9_join {R : hy_S → Prop} (ra : ∀ j, j ∈ ([18, 19, 21] : List Nat) → ∀ (τ : hy_S) (g : Nat → Int32), R τ → R (hy_sc τ j g)) (ri : ∀ j, j ∈ ([] : List Nat) → ∀ (τ : hy_S) (v : Int32), R τ → R (hy_si τ j v)) (σ : hy_S) (x1 : Int32) (x2 : Int32) {Q : hy_O → Prop} (I : hc_I R σ) (hQ : ∀ (σ9 : hy_S) (v9 : Int32) (k9 : Nat), hc_I R σ9 → (k9 = 0 ∨ k9 = 1) → Q (σ9, v9, k9)) : hs_ok (fX9_join σ x1 x2) Q := by
  unfold fX9_join
  have : (0 : Int) ≤ (σ.2 7).toInt ∧ (σ.2 7).toInt ≤ 60 := I.2.1 7
  refine hs_btI (fun (u_1_0 : (0 : Int) ≤ (x1 : Int32).toInt) (u_1_1 : (x1 : Int32).toInt < ((σ.2 7) : Int32).toInt) => ?_) (fun (u_1x : (x1 : Int32).toInt < 0 ∨ ((σ.2 7) : Int32).toInt ≤ (x1 : Int32).toInt) => hQ _ _ _ I (by decide) )
  refine hs_btI (fun (u_2_0 : (0 : Int) ≤ (x2 : Int32).toInt) (u_2_1 : (x2 : Int32).toInt < ((σ.2 7) : Int32).toInt) => ?_) (fun (u_2x : (x2 : Int32).toInt < 0 ∨ ((σ.2 7) : Int32).toInt ≤ (x2 : Int32).toInt) => hQ _ _ _ I (by decide) )
  refine hs_bd (s_fX5_unite (fun j h => ra j (hs_inc (by decide) h)) (fun j h => ri j (hs_inc (by decide) h)) σ x1 x2 I (show 0 ≤ (x1 : Int32).toInt by omega) (show (x1 : Int32).toInt < 60 by omega) (show 0 ≤ (x2 : Int32).toInt by omega) (show (x2 : Int32).toInt < 60 by omega) (fun σ9_4 v10_3 Iσ9_4 (gv10_3_0 : 0 ≤ v10_3.toInt) (gv10_3_1 : v10_3.toInt ≤ 1) => ?_))
  have : (0 : Int) ≤ (σ9_4.2 7).toInt ∧ (σ9_4.2 7).toInt ≤ 60 := Iσ9_4.2.1 7
  refine hs_ck (hs_01 (by omega) (by omega)) ?_
  exact hs_some (hQ _ _ _ Iσ9_4 (by decide) )
theorem s_fX9_vessels {R : hy_S → Prop} (ra : ∀ j, j ∈ ([] : List Nat) → ∀ (τ : hy_S) (g : Nat → Int32), R τ → R (hy_sc τ j g)) (ri : ∀ j, j ∈ ([] : List Nat) → ∀ (τ : hy_S) (v : Int32), R τ → R (hy_si τ j v)) (σ : hy_S) (x1 : Int32) {Q : hy_O → Prop} (I : hc_I R σ) (hQ : ∀ (σ9 : hy_S) (v9 : Int32) (k9 : Nat), hc_I R σ9 → (k9 = 0 ∨ k9 = 1) → Q (σ9, v9, k9)) : hs_ok (fX9_vessels σ x1) Q := by
  unfold fX9_vessels
  refine hs_btS (fun (u_1_0 : (x1 : Int32).toInt = -1 ∨ (0 ≤ (x1 : Int32).toInt ∧ (x1 : Int32).toInt < 12)) => ?_) (fun (u_1x : ¬ (x1 : Int32).toInt = -1 ∧ ((x1 : Int32).toInt < 0 ∨ 12 ≤ (x1 : Int32).toInt)) => hQ _ _ _ I (by decide) )
  refine hs_ite (fun h_2 => ?_) (fun h_2 => ?_)
  · have : (x1 : Int32).toInt = (-1) := congrArg Int32.toInt h_2
    refine hs_bd (s_fX5_allVessels σ  I  (fun v10_3  => ?_))
    exact hs_some (hQ _ _ _ I (by decide) )
  · have : ¬ (x1 : Int32).toInt = (-1) := fun z => h_2 (Int32.toInt_inj.mp z)
    refine hs_bd (s_fX5_vesselsWith σ x1 I  (fun v7_4  => ?_))
    exact hs_some (hQ _ _ _ I (by decide) )
theorem s_fX9_vessel {R : hy_S → Prop} (ra : ∀ j, j ∈ ([] : List Nat) → ∀ (τ : hy_S) (g : Nat → Int32), R τ → R (hy_sc τ j g)) (ri : ∀ j, j ∈ ([] : List Nat) → ∀ (τ : hy_S) (v : Int32), R τ → R (hy_si τ j v)) (σ : hy_S) (x1 : Int32) (x2 : Int32) {Q : hy_O → Prop} (I : hc_I R σ) (hQ : ∀ (σ9 : hy_S) (v9 : Int32) (k9 : Nat), hc_I R σ9 → (k9 = 0 ∨ k9 = 1 ∨ k9 = 4) → Q (σ9, v9, k9)) : hs_ok (fX9_vessel σ x1 x2) Q := by
  unfold fX9_vessel
  have : (0 : Int) ≤ (σ.2 7).toInt ∧ (σ.2 7).toInt ≤ 60 := I.2.1 7
  refine hs_btI (fun (u_1_0 : (0 : Int) ≤ (x1 : Int32).toInt) (u_1_1 : (x1 : Int32).toInt < ((σ.2 7) : Int32).toInt) => ?_) (fun (u_1x : (x1 : Int32).toInt < 0 ∨ ((σ.2 7) : Int32).toInt ≤ (x1 : Int32).toInt) => hQ _ _ _ I (by decide) )
  refine hs_ga (j := 18) I (by omega) (by omega) (fun v5_2 ev5_2 (bv5_2 : (0 : Int) ≤ v5_2.toInt ∧ v5_2.toInt ≤ 59) => ?_)
  refine hs_ite (fun h_3 => ?_) (fun h_3 => ?_)
  · have : (x2 : Int32).toInt = (0) := congrArg Int32.toInt h_3
    refine hs_ga (j := 19) I (by omega) (by omega) (fun v9_4 ev9_4 (bv9_4 : (-2147483648 : Int) ≤ v9_4.toInt ∧ v9_4.toInt ≤ 2147483647) => ?_)
    exact hs_some (hQ _ _ _ I (by decide) )
  · have : ¬ (x2 : Int32).toInt = (0) := fun z => h_3 (Int32.toInt_inj.mp z)
    refine hs_ite (fun h_5 => ?_) (fun h_5 => ?_)
    · have : (x2 : Int32).toInt = (1) := congrArg Int32.toInt h_5
      refine hs_ga (j := 21) I (by omega) (by omega) (fun v13_6 ev13_6 (bv13_6 : (-2147483648 : Int) ≤ v13_6.toInt ∧ v13_6.toInt ≤ 2147483647) => ?_)
      exact hs_some (hQ _ _ _ I (by decide) )
    · have : ¬ (x2 : Int32).toInt = (1) := fun z => h_5 (Int32.toInt_inj.mp z)
      refine hs_ite (fun h_7 => ?_) (fun h_7 => ?_)
      · have : (x2 : Int32).toInt = (2) := congrArg Int32.toInt h_7
        exact hs_some (hQ _ _ _ I (by decide) )
      · have : ¬ (x2 : Int32).toInt = (2) := fun z => h_7 (Int32.toInt_inj.mp z)
        exact hs_some (hQ _ _ _ I (by decide) )
theorem s_fX9_tell {R : hy_S → Prop} (ra : ∀ j, j ∈ ([22, 23, 24, 25, 26] : List Nat) → ∀ (τ : hy_S) (g : Nat → Int32), R τ → R (hy_sc τ j g)) (ri : ∀ j, j ∈ ([8] : List Nat) → ∀ (τ : hy_S) (v : Int32), R τ → R (hy_si τ j v)) (σ : hy_S) (x1 : Int32) (x2 : Int32) (x3 : Int32) {Q : hy_O → Prop} (I : hc_I R σ) (hQ : ∀ (σ9 : hy_S) (v9 : Int32) (k9 : Nat), hc_I R σ9 → (k9 = 0 ∨ k9 = 1 ∨ k9 = 2 ∨ k9 = 3) → ((k9 = 0 ∧ ¬ (x1.toInt < 0 ∨ 12 ≤ x1.toInt ∨ x2.toInt < 0 ∨ 12 ≤ x2.toInt) ∧ ¬ (x1.toInt = x2.toInt ∨ x3.toInt < -500 ∨ 500 < x3.toInt) ∧ (σ.2 8).toInt < 60 ∧ (σ9.2 8).toInt = (σ.2 8).toInt + 1 ∧ v9.toInt = (σ.2 8).toInt) ∨ (k9 = 1 ∧ (x1.toInt < 0 ∨ 12 ≤ x1.toInt ∨ x2.toInt < 0 ∨ 12 ≤ x2.toInt) ∧ (σ9.2 8).toInt = (σ.2 8).toInt) ∨ (k9 = 2 ∧ ¬ (x1.toInt < 0 ∨ 12 ≤ x1.toInt ∨ x2.toInt < 0 ∨ 12 ≤ x2.toInt) ∧ (x1.toInt = x2.toInt ∨ x3.toInt < -500 ∨ 500 < x3.toInt) ∧ (σ9.2 8).toInt = (σ.2 8).toInt) ∨ (k9 = 3 ∧ ¬ (x1.toInt < 0 ∨ 12 ≤ x1.toInt ∨ x2.toInt < 0 ∨ 12 ≤ x2.toInt) ∧ ¬ (x1.toInt = x2.toInt ∨ x3.toInt < -500 ∨ 500 < x3.toInt) ∧ 60 ≤ (σ.2 8).toInt ∧ (σ9.2 8).toInt = (σ.2 8).toInt)) → Q (σ9, v9, k9)) : hs_ok (fX9_tell σ x1 x2 x3) Q := by
  unfold fX9_tell
  have : (-2147483648 : Int) ≤ (σ.2 1).toInt ∧ (σ.2 1).toInt ≤ 2147483647 := I.2.1 1
  have : (0 : Int) ≤ (σ.2 8).toInt ∧ (σ.2 8).toInt ≤ 60 := I.2.1 8
  refine hs_btI (fun (u_1_0 : (0 : Int) ≤ (x1 : Int32).toInt) (u_1_1 : (x1 : Int32).toInt < (12)) => ?_) (fun (u_1x : (x1 : Int32).toInt < 0 ∨ (12) ≤ (x1 : Int32).toInt) => hQ _ _ _ I (by decide) (show (1 = 0 ∧ ¬ (x1.toInt < 0 ∨ 12 ≤ x1.toInt ∨ x2.toInt < 0 ∨ 12 ≤ x2.toInt) ∧ ¬ (x1.toInt = x2.toInt ∨ x3.toInt < -500 ∨ 500 < x3.toInt) ∧ (σ.2 8).toInt < 60 ∧ (σ.2 8).toInt = (σ.2 8).toInt + 1 ∧ (0) = (σ.2 8).toInt) ∨ (1 = 1 ∧ (x1.toInt < 0 ∨ 12 ≤ x1.toInt ∨ x2.toInt < 0 ∨ 12 ≤ x2.toInt) ∧ (σ.2 8).toInt = (σ.2 8).toInt) ∨ (1 = 2 ∧ ¬ (x1.toInt < 0 ∨ 12 ≤ x1.toInt ∨ x2.toInt < 0 ∨ 12 ≤ x2.toInt) ∧ (x1.toInt = x2.toInt ∨ x3.toInt < -500 ∨ 500 < x3.toInt) ∧ (σ.2 8).toInt = (σ.2 8).toInt) ∨ (1 = 3 ∧ ¬ (x1.toInt < 0 ∨ 12 ≤ x1.toInt ∨ x2.toInt < 0 ∨ 12 ≤ x2.toInt) ∧ ¬ (x1.toInt = x2.toInt ∨ x3.toInt < -500 ∨ 500 < x3.toInt) ∧ 60 ≤ (σ.2 8).toInt ∧ (σ.2 8).toInt = (σ.2 8).toInt) by omega))
  refine hs_btI (fun (u_2_0 : (0 : Int) ≤ (x2 : Int32).toInt) (u_2_1 : (x2 : Int32).toInt < (12)) => ?_) (fun (u_2x : (x2 : Int32).toInt < 0 ∨ (12) ≤ (x2 : Int32).toInt) => hQ _ _ _ I (by decide) (show (1 = 0 ∧ ¬ (x1.toInt < 0 ∨ 12 ≤ x1.toInt ∨ x2.toInt < 0 ∨ 12 ≤ x2.toInt) ∧ ¬ (x1.toInt = x2.toInt ∨ x3.toInt < -500 ∨ 500 < x3.toInt) ∧ (σ.2 8).toInt < 60 ∧ (σ.2 8).toInt = (σ.2 8).toInt + 1 ∧ (0) = (σ.2 8).toInt) ∨ (1 = 1 ∧ (x1.toInt < 0 ∨ 12 ≤ x1.toInt ∨ x2.toInt < 0 ∨ 12 ≤ x2.toInt) ∧ (σ.2 8).toInt = (σ.2 8).toInt) ∨ (1 = 2 ∧ ¬ (x1.toInt < 0 ∨ 12 ≤ x1.toInt ∨ x2.toInt < 0 ∨ 12 ≤ x2.toInt) ∧ (x1.toInt = x2.toInt ∨ x3.toInt < -500 ∨ 500 < x3.toInt) ∧ (σ.2 8).toInt = (σ.2 8).toInt) ∨ (1 = 3 ∧ ¬ (x1.toInt < 0 ∨ 12 ≤ x1.toInt ∨ x2.toInt < 0 ∨ 12 ≤ x2.toInt) ∧ ¬ (x1.toInt = x2.toInt ∨ x3.toInt < -500 ∨ 500 < x3.toInt) ∧ 60 ≤ (σ.2 8).toInt ∧ (σ.2 8).toInt = (σ.2 8).toInt) by omega))
  refine hs_ite (fun h_3 => ?_) (fun h_3 => ?_)
  · have : (x1 : Int32).toInt = (x2 : Int32).toInt := congrArg Int32.toInt h_3
    exact hs_some (hQ _ _ _ I (by decide) (show (2 = 0 ∧ ¬ (x1.toInt < 0 ∨ 12 ≤ x1.toInt ∨ x2.toInt < 0 ∨ 12 ≤ x2.toInt) ∧ ¬ (x1.toInt = x2.toInt ∨ x3.toInt < -500 ∨ 500 < x3.toInt) ∧ (σ.2 8).toInt < 60 ∧ (σ.2 8).toInt = (σ.2 8).toInt + 1 ∧ (0) = (σ.2 8).toInt) ∨ (2 = 1 ∧ (x1.toInt < 0 ∨ 12 ≤ x1.toInt ∨ x2.toInt < 0 ∨ 12 ≤ x2.toInt) ∧ (σ.2 8).toInt = (σ.2 8).toInt) ∨ (2 = 2 ∧ ¬ (x1.toInt < 0 ∨ 12 ≤ x1.toInt ∨ x2.toInt < 0 ∨ 12 ≤ x2.toInt) ∧ (x1.toInt = x2.toInt ∨ x3.toInt < -500 ∨ 500 < x3.toInt) ∧ (σ.2 8).toInt = (σ.2 8).toInt) ∨ (2 = 3 ∧ ¬ (x1.toInt < 0 ∨ 12 ≤ x1.toInt ∨ x2.toInt < 0 ∨ 12 ≤ x2.toInt) ∧ ¬ (x1.toInt = x2.toInt ∨ x3.toInt < -500 ∨ 500 < x3.toInt) ∧ 60 ≤ (σ.2 8).toInt ∧ (σ.2 8).toInt = (σ.2 8).toInt) by omega))
  · have : ¬ (x1 : Int32).toInt = (x2 : Int32).toInt := fun z => h_3 (Int32.toInt_inj.mp z)
    refine hs_btN (fun (u_4_0 : (-500) ≤ (x3 : Int32).toInt) (u_4_1 : (x3 : Int32).toInt ≤ (500)) => ?_) (fun (u_4x : (x3 : Int32).toInt < (-500) ∨ (500) < (x3 : Int32).toInt) => hQ _ _ _ I (by decide) (show (2 = 0 ∧ ¬ (x1.toInt < 0 ∨ 12 ≤ x1.toInt ∨ x2.toInt < 0 ∨ 12 ≤ x2.toInt) ∧ ¬ (x1.toInt = x2.toInt ∨ x3.toInt < -500 ∨ 500 < x3.toInt) ∧ (σ.2 8).toInt < 60 ∧ (σ.2 8).toInt = (σ.2 8).toInt + 1 ∧ (0) = (σ.2 8).toInt) ∨ (2 = 1 ∧ (x1.toInt < 0 ∨ 12 ≤ x1.toInt ∨ x2.toInt < 0 ∨ 12 ≤ x2.toInt) ∧ (σ.2 8).toInt = (σ.2 8).toInt) ∨ (2 = 2 ∧ ¬ (x1.toInt < 0 ∨ 12 ≤ x1.toInt ∨ x2.toInt < 0 ∨ 12 ≤ x2.toInt) ∧ (x1.toInt = x2.toInt ∨ x3.toInt < -500 ∨ 500 < x3.toInt) ∧ (σ.2 8).toInt = (σ.2 8).toInt) ∨ (2 = 3 ∧ ¬ (x1.toInt < 0 ∨ 12 ≤ x1.toInt ∨ x2.toInt < 0 ∨ 12 ≤ x2.toInt) ∧ ¬ (x1.toInt = x2.toInt ∨ x3.toInt < -500 ∨ 500 < x3.toInt) ∧ 60 ≤ (σ.2 8).toInt ∧ (σ.2 8).toInt = (σ.2 8).toInt) by omega))
    refine hs_btP (fun (u_5_0 : ((σ.2 8) : Int32).toInt < (60)) => ?_) (fun (u_5x : (60) ≤ ((σ.2 8) : Int32).toInt) => hQ _ _ _ I (by decide) (show (3 = 0 ∧ ¬ (x1.toInt < 0 ∨ 12 ≤ x1.toInt ∨ x2.toInt < 0 ∨ 12 ≤ x2.toInt) ∧ ¬ (x1.toInt = x2.toInt ∨ x3.toInt < -500 ∨ 500 < x3.toInt) ∧ (σ.2 8).toInt < 60 ∧ (σ.2 8).toInt = (σ.2 8).toInt + 1 ∧ (0) = (σ.2 8).toInt) ∨ (3 = 1 ∧ (x1.toInt < 0 ∨ 12 ≤ x1.toInt ∨ x2.toInt < 0 ∨ 12 ≤ x2.toInt) ∧ (σ.2 8).toInt = (σ.2 8).toInt) ∨ (3 = 2 ∧ ¬ (x1.toInt < 0 ∨ 12 ≤ x1.toInt ∨ x2.toInt < 0 ∨ 12 ≤ x2.toInt) ∧ (x1.toInt = x2.toInt ∨ x3.toInt < -500 ∨ 500 < x3.toInt) ∧ (σ.2 8).toInt = (σ.2 8).toInt) ∨ (3 = 3 ∧ ¬ (x1.toInt < 0 ∨ 12 ≤ x1.toInt ∨ x2.toInt < 0 ∨ 12 ≤ x2.toInt) ∧ ¬ (x1.toInt = x2.toInt ∨ x3.toInt < -500 ∨ 500 < x3.toInt) ∧ 60 ≤ (σ.2 8).toInt ∧ (σ.2 8).toInt = (σ.2 8).toInt) by omega))
    refine hs_bd (s_fX8_add (fun j h => ra j (hs_inc (by decide) h)) (fun j h => ri j (hs_inc (by decide) h)) σ x1 x2 x3 ((σ.2 1) : Int32) I (show (σ.2 8).toInt < 60 by omega) (show 0 ≤ (x1 : Int32).toInt by omega) (show (x1 : Int32).toInt ≤ 12 by omega) (show 0 ≤ (x2 : Int32).toInt by omega) (show (x2 : Int32).toInt ≤ 12 by omega) (fun σ18_7 v19_6 Iσ18_7 (gv19_6_0 : (σ18_7.2 8).toInt = (σ.2 8).toInt + 1) (gv19_6_1 : v19_6.toInt = (σ.2 8).toInt) => ?_))
    have : (-2147483648 : Int) ≤ (σ18_7.2 1).toInt ∧ (σ18_7.2 1).toInt ≤ 2147483647 := Iσ18_7.2.1 1
    have : (0 : Int) ≤ (σ18_7.2 8).toInt ∧ (σ18_7.2 8).toInt ≤ 60 := Iσ18_7.2.1 8
    exact hs_some (hQ _ _ _ Iσ18_7 (by decide) (show (0 = 0 ∧ ¬ (x1.toInt < 0 ∨ 12 ≤ x1.toInt ∨ x2.toInt < 0 ∨ 12 ≤ x2.toInt) ∧ ¬ (x1.toInt = x2.toInt ∨ x3.toInt < -500 ∨ 500 < x3.toInt) ∧ (σ.2 8).toInt < 60 ∧ (σ18_7.2 8).toInt = (σ.2 8).toInt + 1 ∧ (v19_6 : Int32).toInt = (σ.2 8).toInt) ∨ (0 = 1 ∧ (x1.toInt < 0 ∨ 12 ≤ x1.toInt ∨ x2.toInt < 0 ∨ 12 ≤ x2.toInt) ∧ (σ18_7.2 8).toInt = (σ.2 8).toInt) ∨ (0 = 2 ∧ ¬ (x1.toInt < 0 ∨ 12 ≤ x1.toInt ∨ x2.toInt < 0 ∨ 12 ≤ x2.toInt) ∧ (x1.toInt = x2.toInt ∨ x3.toInt < -500 ∨ 500 < x3.toInt) ∧ (σ18_7.2 8).toInt = (σ.2 8).toInt) ∨ (0 = 3 ∧ ¬ (x1.toInt < 0 ∨ 12 ≤ x1.toInt ∨ x2.toInt < 0 ∨ 12 ≤ x2.toInt) ∧ ¬ (x1.toInt = x2.toInt ∨ x3.toInt < -500 ∨ 500 < x3.toInt) ∧ 60 ≤ (σ.2 8).toInt ∧ (σ18_7.2 8).toInt = (σ.2 8).toInt) by omega))
theorem s_fX9_bound {R : hy_S → Prop} (ra : ∀ j, j ∈ ([22, 23, 24, 25, 26] : List Nat) → ∀ (τ : hy_S) (g : Nat → Int32), R τ → R (hy_sc τ j g)) (ri : ∀ j, j ∈ ([8] : List Nat) → ∀ (τ : hy_S) (v : Int32), R τ → R (hy_si τ j v)) (σ : hy_S) (x1 : Int32) (x2 : Int32) (x3 : Int32) {Q : hy_O → Prop} (I : hc_I R σ) (hQ : ∀ (σ9 : hy_S) (v9 : Int32) (k9 : Nat), hc_I R σ9 → (k9 = 0 ∨ k9 = 1 ∨ k9 = 2 ∨ k9 = 3) → ((k9 = 0 ∧ ¬ (x1.toInt < 0 ∨ 12 ≤ x1.toInt) ∧ ¬ (x2.toInt < 0 ∨ 1000 < x2.toInt) ∧ (σ.2 8).toInt < 60 ∧ (σ9.2 8).toInt = (σ.2 8).toInt + 1 ∧ v9.toInt = (σ.2 8).toInt) ∨ (k9 = 1 ∧ (x1.toInt < 0 ∨ 12 ≤ x1.toInt) ∧ (σ9.2 8).toInt = (σ.2 8).toInt) ∨ (k9 = 2 ∧ ¬ (x1.toInt < 0 ∨ 12 ≤ x1.toInt) ∧ (x2.toInt < 0 ∨ 1000 < x2.toInt) ∧ (σ9.2 8).toInt = (σ.2 8).toInt) ∨ (k9 = 3 ∧ ¬ (x1.toInt < 0 ∨ 12 ≤ x1.toInt) ∧ ¬ (x2.toInt < 0 ∨ 1000 < x2.toInt) ∧ 60 ≤ (σ.2 8).toInt ∧ (σ9.2 8).toInt = (σ.2 8).toInt)) → Q (σ9, v9, k9)) : hs_ok (fX9_bound σ x1 x2 x3) Q := by
  unfold fX9_bound
  have : (-2147483648 : Int) ≤ (σ.2 1).toInt ∧ (σ.2 1).toInt ≤ 2147483647 := I.2.1 1
  have : (0 : Int) ≤ (σ.2 8).toInt ∧ (σ.2 8).toInt ≤ 60 := I.2.1 8
  refine hs_btI (fun (u_1_0 : (0 : Int) ≤ (x1 : Int32).toInt) (u_1_1 : (x1 : Int32).toInt < (12)) => ?_) (fun (u_1x : (x1 : Int32).toInt < 0 ∨ (12) ≤ (x1 : Int32).toInt) => hQ _ _ _ I (by decide) (show (1 = 0 ∧ ¬ (x1.toInt < 0 ∨ 12 ≤ x1.toInt) ∧ ¬ (x2.toInt < 0 ∨ 1000 < x2.toInt) ∧ (σ.2 8).toInt < 60 ∧ (σ.2 8).toInt = (σ.2 8).toInt + 1 ∧ (0) = (σ.2 8).toInt) ∨ (1 = 1 ∧ (x1.toInt < 0 ∨ 12 ≤ x1.toInt) ∧ (σ.2 8).toInt = (σ.2 8).toInt) ∨ (1 = 2 ∧ ¬ (x1.toInt < 0 ∨ 12 ≤ x1.toInt) ∧ (x2.toInt < 0 ∨ 1000 < x2.toInt) ∧ (σ.2 8).toInt = (σ.2 8).toInt) ∨ (1 = 3 ∧ ¬ (x1.toInt < 0 ∨ 12 ≤ x1.toInt) ∧ ¬ (x2.toInt < 0 ∨ 1000 < x2.toInt) ∧ 60 ≤ (σ.2 8).toInt ∧ (σ.2 8).toInt = (σ.2 8).toInt) by omega))
  refine hs_btN (fun (u_2_0 : (0) ≤ (x2 : Int32).toInt) (u_2_1 : (x2 : Int32).toInt ≤ (1000)) => ?_) (fun (u_2x : (x2 : Int32).toInt < (0) ∨ (1000) < (x2 : Int32).toInt) => hQ _ _ _ I (by decide) (show (2 = 0 ∧ ¬ (x1.toInt < 0 ∨ 12 ≤ x1.toInt) ∧ ¬ (x2.toInt < 0 ∨ 1000 < x2.toInt) ∧ (σ.2 8).toInt < 60 ∧ (σ.2 8).toInt = (σ.2 8).toInt + 1 ∧ (0) = (σ.2 8).toInt) ∨ (2 = 1 ∧ (x1.toInt < 0 ∨ 12 ≤ x1.toInt) ∧ (σ.2 8).toInt = (σ.2 8).toInt) ∨ (2 = 2 ∧ ¬ (x1.toInt < 0 ∨ 12 ≤ x1.toInt) ∧ (x2.toInt < 0 ∨ 1000 < x2.toInt) ∧ (σ.2 8).toInt = (σ.2 8).toInt) ∨ (2 = 3 ∧ ¬ (x1.toInt < 0 ∨ 12 ≤ x1.toInt) ∧ ¬ (x2.toInt < 0 ∨ 1000 < x2.toInt) ∧ 60 ≤ (σ.2 8).toInt ∧ (σ.2 8).toInt = (σ.2 8).toInt) by omega))
  refine hs_btP (fun (u_3_0 : ((σ.2 8) : Int32).toInt < (60)) => ?_) (fun (u_3x : (60) ≤ ((σ.2 8) : Int32).toInt) => hQ _ _ _ I (by decide) (show (3 = 0 ∧ ¬ (x1.toInt < 0 ∨ 12 ≤ x1.toInt) ∧ ¬ (x2.toInt < 0 ∨ 1000 < x2.toInt) ∧ (σ.2 8).toInt < 60 ∧ (σ.2 8).toInt = (σ.2 8).toInt + 1 ∧ (0) = (σ.2 8).toInt) ∨ (3 = 1 ∧ (x1.toInt < 0 ∨ 12 ≤ x1.toInt) ∧ (σ.2 8).toInt = (σ.2 8).toInt) ∨ (3 = 2 ∧ ¬ (x1.toInt < 0 ∨ 12 ≤ x1.toInt) ∧ (x2.toInt < 0 ∨ 1000 < x2.toInt) ∧ (σ.2 8).toInt = (σ.2 8).toInt) ∨ (3 = 3 ∧ ¬ (x1.toInt < 0 ∨ 12 ≤ x1.toInt) ∧ ¬ (x2.toInt < 0 ∨ 1000 < x2.toInt) ∧ 60 ≤ (σ.2 8).toInt ∧ (σ.2 8).toInt = (σ.2 8).toInt) by omega))
  refine hs_ite (fun h_4 => ?_) (fun h_4 => ?_)
  · have : (x3 : Int32).toInt = (0) := congrArg Int32.toInt h_4
    refine hs_bd (s_fX8_add (fun j h => ra j (hs_inc (by decide) h)) (fun j h => ri j (hs_inc (by decide) h)) σ (12 : Int32) x1 x2 ((σ.2 1) : Int32) I (show (σ.2 8).toInt < 60 by omega) (show 0 ≤ (12) by omega) (show (12) ≤ 12 by omega) (show 0 ≤ (x1 : Int32).toInt by omega) (show (x1 : Int32).toInt ≤ 12 by omega) (fun σ14_6 v15_5 Iσ14_6 (gv15_5_0 : (σ14_6.2 8).toInt = (σ.2 8).toInt + 1) (gv15_5_1 : v15_5.toInt = (σ.2 8).toInt) => ?_))
    have : (-2147483648 : Int) ≤ (σ14_6.2 1).toInt ∧ (σ14_6.2 1).toInt ≤ 2147483647 := Iσ14_6.2.1 1
    have : (0 : Int) ≤ (σ14_6.2 8).toInt ∧ (σ14_6.2 8).toInt ≤ 60 := Iσ14_6.2.1 8
    exact hs_some (hQ _ _ _ Iσ14_6 (by decide) (show (0 = 0 ∧ ¬ (x1.toInt < 0 ∨ 12 ≤ x1.toInt) ∧ ¬ (x2.toInt < 0 ∨ 1000 < x2.toInt) ∧ (σ.2 8).toInt < 60 ∧ (σ14_6.2 8).toInt = (σ.2 8).toInt + 1 ∧ (v15_5 : Int32).toInt = (σ.2 8).toInt) ∨ (0 = 1 ∧ (x1.toInt < 0 ∨ 12 ≤ x1.toInt) ∧ (σ14_6.2 8).toInt = (σ.2 8).toInt) ∨ (0 = 2 ∧ ¬ (x1.toInt < 0 ∨ 12 ≤ x1.toInt) ∧ (x2.toInt < 0 ∨ 1000 < x2.toInt) ∧ (σ14_6.2 8).toInt = (σ.2 8).toInt) ∨ (0 = 3 ∧ ¬ (x1.toInt < 0 ∨ 12 ≤ x1.toInt) ∧ ¬ (x2.toInt < 0 ∨ 1000 < x2.toInt) ∧ 60 ≤ (σ.2 8).toInt ∧ (σ14_6.2 8).toInt = (σ.2 8).toInt) by omega))
  · have : ¬ (x3 : Int32).toInt = (0) := fun z => h_4 (Int32.toInt_inj.mp z)
    obtain ⟨e_7, he_7⟩ : ∃ e9 : Int32, e9 = (-x2) := ⟨_, rfl⟩
    try have : e_7.toInt = -(x2 : Int32).toInt := by rw [he_7]; exact hs_neg (by omega) (by omega)
    try rw [← he_7]
    refine hs_bd (s_fX8_add (fun j h => ra j (hs_inc (by decide) h)) (fun j h => ri j (hs_inc (by decide) h)) σ x1 (12 : Int32) e_7 ((σ.2 1) : Int32) I (show (σ.2 8).toInt < 60 by omega) (show 0 ≤ (x1 : Int32).toInt by omega) (show (x1 : Int32).toInt ≤ 12 by omega) (show 0 ≤ (12) by omega) (show (12) ≤ 12 by omega) (fun σ17_9 v18_8 Iσ17_9 (gv18_8_0 : (σ17_9.2 8).toInt = (σ.2 8).toInt + 1) (gv18_8_1 : v18_8.toInt = (σ.2 8).toInt) => ?_))
    have : (-2147483648 : Int) ≤ (σ17_9.2 1).toInt ∧ (σ17_9.2 1).toInt ≤ 2147483647 := Iσ17_9.2.1 1
    have : (0 : Int) ≤ (σ17_9.2 8).toInt ∧ (σ17_9.2 8).toInt ≤ 60 := Iσ17_9.2.1 8
    exact hs_some (hQ _ _ _ Iσ17_9 (by decide) (show (0 = 0 ∧ ¬ (x1.toInt < 0 ∨ 12 ≤ x1.toInt) ∧ ¬ (x2.toInt < 0 ∨ 1000 < x2.toInt) ∧ (σ.2 8).toInt < 60 ∧ (σ17_9.2 8).toInt = (σ.2 8).toInt + 1 ∧ (v18_8 : Int32).toInt = (σ.2 8).toInt) ∨ (0 = 1 ∧ (x1.toInt < 0 ∨ 12 ≤ x1.toInt) ∧ (σ17_9.2 8).toInt = (σ.2 8).toInt) ∨ (0 = 2 ∧ ¬ (x1.toInt < 0 ∨ 12 ≤ x1.toInt) ∧ (x2.toInt < 0 ∨ 1000 < x2.toInt) ∧ (σ17_9.2 8).toInt = (σ.2 8).toInt) ∨ (0 = 3 ∧ ¬ (x1.toInt < 0 ∨ 12 ≤ x1.toInt) ∧ ¬ (x2.toInt < 0 ∨ 1000 < x2.toInt) ∧ 60 ≤ (σ.2 8).toInt ∧ (σ17_9.2 8).toInt = (σ.2 8).toInt) by omega))
theorem s_fX9_undo {R : hy_S → Prop} (ra : ∀ j, j ∈ ([26] : List Nat) → ∀ (τ : hy_S) (g : Nat → Int32), R τ → R (hy_sc τ j g)) (ri : ∀ j, j ∈ ([] : List Nat) → ∀ (τ : hy_S) (v : Int32), R τ → R (hy_si τ j v)) (σ : hy_S) (x1 : Int32) {Q : hy_O → Prop} (I : hc_I R σ) (hQ : ∀ (σ9 : hy_S) (v9 : Int32) (k9 : Nat), hc_I R σ9 → (k9 = 0 ∨ k9 = 1) → Q (σ9, v9, k9)) : hs_ok (fX9_undo σ x1) Q := by
  unfold fX9_undo
  have : (-2147483648 : Int) ≤ (σ.2 1).toInt ∧ (σ.2 1).toInt ≤ 2147483647 := I.2.1 1
  have : (0 : Int) ≤ (σ.2 8).toInt ∧ (σ.2 8).toInt ≤ 60 := I.2.1 8
  refine hs_btI (fun (u_1_0 : (0 : Int) ≤ (x1 : Int32).toInt) (u_1_1 : (x1 : Int32).toInt < ((σ.2 8) : Int32).toInt) => ?_) (fun (u_1x : (x1 : Int32).toInt < 0 ∨ ((σ.2 8) : Int32).toInt ≤ (x1 : Int32).toInt) => hQ _ _ _ I (by decide) )
  refine hs_bd (s_fX8_takeBack (fun j h => ra j (hs_inc (by decide) h)) (fun j h => ri j (hs_inc (by decide) h)) σ x1 ((σ.2 1) : Int32) I (show 0 ≤ (x1 : Int32).toInt by omega) (show (x1 : Int32).toInt < 60 by omega) (fun σ5_3 v6_2 Iσ5_3 (gv6_2_0 : 0 ≤ v6_2.toInt) (gv6_2_1 : v6_2.toInt ≤ 1) => ?_))
  have : (-2147483648 : Int) ≤ (σ5_3.2 1).toInt ∧ (σ5_3.2 1).toInt ≤ 2147483647 := Iσ5_3.2.1 1
  have : (0 : Int) ≤ (σ5_3.2 8).toInt ∧ (σ5_3.2 8).toInt ≤ 60 := Iσ5_3.2.1 8
  refine hs_ck (hs_01 (by omega) (by omega)) ?_
  exact hs_some (hQ _ _ _ Iσ5_3 (by decide) )
theorem s_fX9_days {R : hy_S → Prop} (ra : ∀ j, j ∈ ([] : List Nat) → ∀ (τ : hy_S) (g : Nat → Int32), R τ → R (hy_sc τ j g)) (ri : ∀ j, j ∈ ([1] : List Nat) → ∀ (τ : hy_S) (v : Int32), R τ → R (hy_si τ j v)) (σ : hy_S) (x1 : Int32) {Q : hy_O → Prop} (I : hc_I R σ) (p0 : 0 ≤ (σ.2 1).toInt) (p1 : (σ.2 1).toInt ≤ 600000) (hQ : ∀ (σ9 : hy_S) (v9 : Int32) (k9 : Nat), hc_I R σ9 → (k9 = 0 ∨ k9 = 2) → ((k9 = 0 ∧ 0 ≤ x1.toInt ∧ x1.toInt ≤ 1000 ∧ (σ9.2 1).toInt = (σ.2 1).toInt + x1.toInt ∧ v9.toInt = (σ.2 1).toInt + x1.toInt) ∨ (k9 = 2 ∧ (x1.toInt < 0 ∨ 1000 < x1.toInt) ∧ (σ9.2 1).toInt = (σ.2 1).toInt)) → Q (σ9, v9, k9)) : hs_ok (fX9_days σ x1) Q := by
  unfold fX9_days
  have : (-2147483648 : Int) ≤ (σ.2 1).toInt ∧ (σ.2 1).toInt ≤ 2147483647 := I.2.1 1
  refine hs_btN (fun (u_1_0 : (0) ≤ (x1 : Int32).toInt) (u_1_1 : (x1 : Int32).toInt ≤ (1000)) => ?_) (fun (u_1x : (x1 : Int32).toInt < (0) ∨ (1000) < (x1 : Int32).toInt) => hQ _ _ _ I (by decide) (show (2 = 0 ∧ 0 ≤ x1.toInt ∧ x1.toInt ≤ 1000 ∧ (σ.2 1).toInt = (σ.2 1).toInt + x1.toInt ∧ (0) = (σ.2 1).toInt + x1.toInt) ∨ (2 = 2 ∧ (x1.toInt < 0 ∨ 1000 < x1.toInt) ∧ (σ.2 1).toInt = (σ.2 1).toInt) by omega))
  obtain ⟨e_2, he_2⟩ : ∃ e9 : Int32, e9 = ((σ.2 1) + x1) := ⟨_, rfl⟩
  try have : e_2.toInt = ((σ.2 1) : Int32).toInt + (x1 : Int32).toInt := by rw [he_2]; exact hs_add (by omega) (by omega)
  try rw [← he_2]
  refine hs_pf (v := e_2) I (hs_any _) (ri 1 (by decide) _ _) (fun σ5_3 eσ5_3 Iσ5_3 => ?_)
  have : (σ5_3.2 1).toInt = (e_2 : Int32).toInt := by rw [eσ5_3]; rfl
  have : (-2147483648 : Int) ≤ (σ5_3.2 1).toInt ∧ (σ5_3.2 1).toInt ≤ 2147483647 := Iσ5_3.2.1 1
  exact hs_some (hQ _ _ _ Iσ5_3 (by decide) (show (0 = 0 ∧ 0 ≤ x1.toInt ∧ x1.toInt ≤ 1000 ∧ (σ5_3.2 1).toInt = (σ.2 1).toInt + x1.toInt ∧ ((σ5_3.2 1) : Int32).toInt = (σ.2 1).toInt + x1.toInt) ∨ (0 = 2 ∧ (x1.toInt < 0 ∨ 1000 < x1.toInt) ∧ (σ5_3.2 1).toInt = (σ.2 1).toInt) by omega))
theorem s_fX9_span {R : hy_S → Prop} (ra : ∀ j, j ∈ ([27, 28] : List Nat) → ∀ (τ : hy_S) (g : Nat → Int32), R τ → R (hy_sc τ j g)) (ri : ∀ j, j ∈ ([9] : List Nat) → ∀ (τ : hy_S) (v : Int32), R τ → R (hy_si τ j v)) (σ : hy_S) (x1 : Int32) (x2 : Int32) (x3 : Int32) {Q : hy_O → Prop} (I : hc_I R σ) (hQ : ∀ (σ9 : hy_S) (v9 : Int32) (k9 : Nat), hc_I R σ9 → (k9 = 0 ∨ k9 = 1 ∨ k9 = 4) → Q (σ9, v9, k9)) : hs_ok (fX9_span σ x1 x2 x3) Q := by
  unfold fX9_span
  refine hs_btI (fun (u_1_0 : (0 : Int) ≤ (x1 : Int32).toInt) (u_1_1 : (x1 : Int32).toInt < (12)) => ?_) (fun (u_1x : (x1 : Int32).toInt < 0 ∨ (12) ≤ (x1 : Int32).toInt) => hQ _ _ _ I (by decide) )
  refine hs_bd (s_fX8_recall (fun j h => ra j (hs_inc (by decide) h)) (fun j h => ri j (hs_inc (by decide) h)) σ x3 I  (fun σ5_3 v6_2 Iσ5_3  => ?_))
  refine hs_bd (s_fX8_canAllHold (fun j h => ra j (hs_inc (by decide) h)) (fun j h => ri j (hs_inc (by decide) h)) σ5_3  Iσ5_3  (fun σ8_5 v9_4 Iσ8_5 (gv9_4_0 : 0 ≤ v9_4.toInt) (gv9_4_1 : v9_4.toInt ≤ 1) => ?_))
  refine hs_ite (fun h_6 => ?_) (fun h_6 => ?_)
  · have : (v9_4 : Int32).toInt = (0) := congrArg Int32.toInt h_6
    exact hs_some (hQ _ _ _ Iσ8_5 (by decide) )
  · have : ¬ (v9_4 : Int32).toInt = (0) := fun z => h_6 (Int32.toInt_inj.mp z)
    refine hs_ite (fun h_7 => ?_) (fun h_7 => ?_)
    · have : (x2 : Int32).toInt = (0) := congrArg Int32.toInt h_7
      refine hs_bd (s_fX8_yearsBetween (fun j h => ra j (hs_inc (by decide) h)) (fun j h => ri j (hs_inc (by decide) h)) σ8_5 (12 : Int32) x1 Iσ8_5 (show 0 ≤ (12) by omega) (show (12) < 13 by omega) (show 0 ≤ (x1 : Int32).toInt by omega) (show (x1 : Int32).toInt < 13 by omega) (fun σ13_9 v14_8 Iσ13_9  => ?_))
      unfold fX9_span_61
      refine hs_ite (fun h_10 => ?_) (fun h_10 => ?_)
      · have : (v14_8 : Int32).toInt = (-1000000000) := congrArg Int32.toInt h_10
        exact hs_some (hQ _ _ _ Iσ13_9 (by decide) )
      · have : ¬ (v14_8 : Int32).toInt = (-1000000000) := fun z => h_10 (Int32.toInt_inj.mp z)
        refine hs_ite (fun h_11 => ?_) (fun h_11 => ?_)
        · have : (x2 : Int32).toInt = (0) := congrArg Int32.toInt h_11
          exact hs_some (hQ _ _ _ Iσ13_9 (by decide) )
        · have : ¬ (x2 : Int32).toInt = (0) := fun z => h_11 (Int32.toInt_inj.mp z)
          exact hs_some (hQ _ _ _ Iσ13_9 (by decide) )
    · have : ¬ (x2 : Int32).toInt = (0) := fun z => h_7 (Int32.toInt_inj.mp z)
      refine hs_bd (s_fX8_yearsBetween (fun j h => ra j (hs_inc (by decide) h)) (fun j h => ri j (hs_inc (by decide) h)) σ8_5 x1 (12 : Int32) Iσ8_5 (show 0 ≤ (x1 : Int32).toInt by omega) (show (x1 : Int32).toInt < 13 by omega) (show 0 ≤ (12) by omega) (show (12) < 13 by omega) (fun σ16_13 v17_12 Iσ16_13  => ?_))
      unfold fX9_span_61
      refine hs_ite (fun h_14 => ?_) (fun h_14 => ?_)
      · have : (v17_12 : Int32).toInt = (-1000000000) := congrArg Int32.toInt h_14
        exact hs_some (hQ _ _ _ Iσ16_13 (by decide) )
      · have : ¬ (v17_12 : Int32).toInt = (-1000000000) := fun z => h_14 (Int32.toInt_inj.mp z)
        refine hs_ite (fun h_15 => ?_) (fun h_15 => ?_)
        · have : (x2 : Int32).toInt = (0) := congrArg Int32.toInt h_15
          exact hs_some (hQ _ _ _ Iσ16_13 (by decide) )
        · have : ¬ (x2 : Int32).toInt = (0) := fun z => h_15 (Int32.toInt_inj.mp z)
          exact hs_some (hQ _ _ _ Iσ16_13 (by decide) )
theorem hs_c400 {R : hy_S → Prop} {σ : hy_S} (I : hc_I R σ) : (0 : Int) ≤ (σ.2 2).toInt ∧ (σ.2 2).toInt ≤ 400 := I.2.1 2
theorem s_fX7_past_3 {R : hy_S → Prop} (g : Int) {Q : hy_S × Int32 → Prop} : ∀ (n : Nat) (σ : hy_S) (x2 x3 x4 : Int32), hc_I R σ → 0 ≤ g → g ≤ x4.toInt → x4.toInt ≤ 400 → (∀ k : Nat, g ≤ (k : Int) → (k : Int) < x4.toInt → x2.toInt ≤ (σ.1 0 k).toInt ∧ (σ.1 0 k).toInt ≤ x3.toInt) → 400 - x4.toInt < (n : Int) → (∀ v9 : Int32, g ≤ v9.toInt → v9.toInt ≤ 400 → (∀ k : Nat, g ≤ (k : Int) → (k : Int) < v9.toInt → x2.toInt ≤ (σ.1 0 k).toInt ∧ (σ.1 0 k).toInt ≤ x3.toInt) → Q (σ, v9)) → hs_ok (fX7_past_3 n σ x2 x3 x4) Q := by
  intro n
  induction n with
  | zero =>
    intro σ x2 x3 x4 I p0 p1 p2 hb hm hQ
    exact absurd hm (by omega)
  | succ n ih =>
    intro σ x2 x3 x4 I p0 p1 p2 hb hm hQ
    have hs := hs_c400 I
    unfold fX7_past_3
    refine hs_ite (fun h => ?_) (fun h => ?_)
    · exact hs_some (hQ x4 p1 p2 hb)
    · have h1 : ¬ (σ.2 2).toInt ≤ x4.toInt := fun z => h (Int32.le_iff_toInt_le.mpr z)
      refine hs_ga (j := 0) I (by omega) (by omega) (fun v2 e2 b2 => ?_)
      refine hs_ite (fun h2 => ?_) (fun h2 => ?_)
      · exact hs_some (hQ x4 p1 p2 hb)
      · refine hs_ga (j := 0) I (by omega) (by omega) (fun v6 e6 b6 => ?_)
        refine hs_ite (fun h3 => ?_) (fun h3 => ?_)
        · exact hs_some (hQ x4 p1 p2 hb)
        · have a2 : ¬ v2.toInt < x2.toInt := fun z => h2 (Int32.lt_iff_toInt_lt.mpr z)
          have a3 : ¬ x3.toInt < v6.toInt := fun z => h3 (Int32.lt_iff_toInt_lt.mpr z)
          have e1 : (x4 + 1).toInt = x4.toInt + 1 := hs_addk 1 rfl (by omega) (by omega)
          have en : (x4.toNatClampNeg : Int) = x4.toInt := by rw [Int32.toNatClampNeg, Int.toNat_of_nonneg (by omega)]
          refine ih σ x2 x3 (x4 + 1) I p0 (by rw [e1]; omega) (by rw [e1]; omega) (fun k hk1 hk2 => ?_) (by rw [e1]; omega) hQ
          rw [e1] at hk2
          by_cases hk : (k : Int) < x4.toInt
          · exact hb k hk1 hk
          · have ek : k = x4.toNatClampNeg := by omega
            subst ek
            rw [← e2]
            refine ⟨by omega, ?_⟩
            rw [e2, ← e6]
            omega
theorem s_fX7_past {R : hy_S → Prop} (σ : hy_S) (x1 x2 x3 : Int32) {P : hy_S → Int32 → Prop} (I : hc_I R σ) (p0 : 0 ≤ x1.toInt) (p1 : x1.toInt ≤ 400) (hQ : ∀ v9 : Int32, x1.toInt ≤ v9.toInt → v9.toInt ≤ 400 → (∀ k : Nat, x1.toInt ≤ (k : Int) → (k : Int) < v9.toInt → x2.toInt ≤ (σ.1 0 k).toInt ∧ (σ.1 0 k).toInt ≤ x3.toInt) → P σ v9) : hs_ok2 (fX7_past σ x1 x2 x3) P := by
  unfold fX7_past
  have hfu : ((hy_fu : Nat) : Int) = 5000 := rfl
  exact s_fX7_past_3 x1.toInt hy_fu σ x2 x3 x1 I p0 (Int.le_refl _) p1 (fun k h1 h2 => absurd h2 (by omega)) (by rw [hfu]; omega) hQ
theorem s_fX7_digitsFrom_5 {R : hy_S → Prop} (g : Int) {Q : hy_S × Int32 → Prop} : ∀ (n : Nat) (σ : hy_S) (x2 x3 x4 : Int32), hc_I R σ → 0 ≤ g → g ≤ x4.toInt → x4.toInt ≤ x2.toInt → x2.toInt ≤ 400 → x2.toInt - g ≤ 5 → 0 ≤ x3.toInt → ((x4.toInt = g ∧ x3.toInt ≤ 0) ∨ (x4.toInt = g + 1 ∧ x3.toInt ≤ 9) ∨ (x4.toInt = g + 2 ∧ x3.toInt ≤ 99) ∨ (x4.toInt = g + 3 ∧ x3.toInt ≤ 999) ∨ (x4.toInt = g + 4 ∧ x3.toInt ≤ 9999) ∨ (x4.toInt = g + 5 ∧ x3.toInt ≤ 99999)) → (∀ k : Nat, g ≤ (k : Int) → (k : Int) < x2.toInt → 48 ≤ (σ.1 0 k).toInt ∧ (σ.1 0 k).toInt ≤ 57) → x2.toInt - x4.toInt < (n : Int) → (∀ v9 : Int32, 0 ≤ v9.toInt → v9.toInt ≤ 99999 → Q (σ, v9)) → hs_ok (fX7_digitsFrom_5 n σ x2 x3 x4) Q := by
  intro n
  induction n with
  | zero =>
    intro σ x2 x3 x4 I p0 p1 p2 p3 p4 p5 pd hb hm hQ
    exact absurd hm (by omega)
  | succ n ih =>
    intro σ x2 x3 x4 I p0 p1 p2 p3 p4 p5 pd hb hm hQ
    unfold fX7_digitsFrom_5
    refine hs_ite (fun h => ?_) (fun h => ?_)
    · exact hs_some (hQ x3 p5 (by omega))
    · have h1 : ¬ x2.toInt ≤ x4.toInt := fun z => h (Int32.le_iff_toInt_le.mpr z)
      refine hs_ga (j := 0) I (by omega) (by omega) (fun v2 e2 b2 => ?_)
      have en : (x4.toNatClampNeg : Int) = x4.toInt := by rw [Int32.toNatClampNeg, Int.toNat_of_nonneg (by omega)]
      have hv := hb x4.toNatClampNeg (by omega) (by omega)
      rw [← e2] at hv
      have e1 : (x4 + 1).toInt = x4.toInt + 1 := hs_addk 1 rfl (by omega) (by omega)
      have e3 : (x3 * 10).toInt = x3.toInt * 10 := hs_mulr 10 rfl (by omega) (by omega)
      have e4 : (v2 - 48).toInt = v2.toInt - 48 := hs_subk 48 rfl (by omega) (by omega)
      have e5 : (x3 * 10 + (v2 - 48)).toInt = x3.toInt * 10 + (v2.toInt - 48) := by rw [hs_add (by rw [e3, e4]; omega) (by rw [e3, e4]; omega), e3, e4]
      exact ih σ x2 (x3 * 10 + (v2 - 48)) (x4 + 1) I p0 (by rw [e1]; omega) (by rw [e1]; omega) p3 p4 (by rw [e5]; omega) (by rw [e1, e5]; omega) hb (by rw [e1]; omega) hQ
theorem s_fX7_digitsFrom {R : hy_S → Prop} (σ : hy_S) (x1 x2 : Int32) {P : hy_S → Int32 → Prop} (I : hc_I R σ) (p0 : 0 ≤ x1.toInt) (p1 : x1.toInt ≤ x2.toInt) (p2 : x2.toInt ≤ 400) (p3 : x2.toInt - x1.toInt ≤ 5) (hb : ∀ k : Nat, x1.toInt ≤ (k : Int) → (k : Int) < x2.toInt → 48 ≤ (σ.1 0 k).toInt ∧ (σ.1 0 k).toInt ≤ 57) (hQ : ∀ v9 : Int32, 0 ≤ v9.toInt → v9.toInt ≤ 99999 → P σ v9) : hs_ok2 (fX7_digitsFrom σ x1 x2) P := by
  unfold fX7_digitsFrom
  have hfu : ((hy_fu : Nat) : Int) = 5000 := rfl
  exact s_fX7_digitsFrom_5 x1.toInt hy_fu σ x2 0 x1 I p0 (Int.le_refl _) p1 p2 p3 (by decide) (Or.inl ⟨rfl, by decide⟩) hb (by rw [hfu]; omega) hQ
theorem hs_len : ∀ k : Nat, k < 5 → (hy_len k).toInt = ((hy_sl.getD k 0 : Nat) : Int) := by decide +kernel
theorem hs_nat5 {x : Int32} (h0 : 0 ≤ x.toInt) (h1 : x.toInt ≤ 4) : x.toNatClampNeg < 5 := by
  have en : (x.toNatClampNeg : Int) = x.toInt := by rw [Int32.toNatClampNeg, Int.toNat_of_nonneg h0]
  omega
theorem s_fX7_reads_15 {R : hy_S → Prop} {Q : hy_S × Int32 → Prop} : ∀ (n : Nat) (σ : hy_S) (x1 x2 x3 x4 : Int32), hc_I R σ → 0 ≤ x1.toInt → x1.toInt ≤ x4.toInt → x4.toInt ≤ x2.toInt → x2.toInt ≤ 400 → x3.toNatClampNeg < 5 → x2.toInt - x1.toInt = ((hy_sl.getD x3.toNatClampNeg 0 : Nat) : Int) → x2.toInt - x4.toInt < (n : Int) → (∀ v9 : Int32, Q (σ, v9)) → hs_ok (fX7_reads_15 n σ x1 x2 x3 x4) Q := by
  intro n
  induction n with
  | zero =>
    intro σ x1 x2 x3 x4 I p0 p1 p2 p3 p4 p5 hm hQ
    exact absurd hm (by omega)
  | succ n ih =>
    intro σ x1 x2 x3 x4 I p0 p1 p2 p3 p4 p5 hm hQ
    unfold fX7_reads_15
    refine hs_ite (fun h => ?_) (fun h => ?_)
    · exact hs_some (hQ 1)
    · have h1 : ¬ x2.toInt ≤ x4.toInt := fun z => h (Int32.le_iff_toInt_le.mpr z)
      refine hs_ga (j := 0) I (by omega) (by omega) (fun v2 e2 b2 => ?_)
      have e1 : (x4 + 1).toInt = x4.toInt + 1 := hs_addk 1 rfl (by omega) (by omega)
      have e3 : (x4 - x1).toInt = x4.toInt - x1.toInt := hs_sub (by omega) (by omega)
      refine hs_ck ⟨p4, hs_nat (by rw [e3]; omega) (by rw [e3, ← p5]; omega)⟩ ?_
      refine hs_ite (fun h => ?_) (fun h => ?_)
      · exact ih σ x1 x2 x3 (x4 + 1) I p0 (by rw [e1]; omega) (by rw [e1]; omega) p3 p4 p5 (by rw [e1]; omega) hQ
      · exact hs_some (hQ 0)
theorem s_fX7_reads {R : hy_S → Prop} (σ : hy_S) (x1 x2 x3 : Int32) {P : hy_S → Int32 → Prop} (I : hc_I R σ) (p0 : 0 ≤ x1.toInt) (p1 : x1.toInt ≤ x2.toInt) (p2 : x2.toInt ≤ 400) (p3 : 0 ≤ x3.toInt) (p4 : x3.toInt ≤ 4) (hQ : ∀ v9 : Int32, P σ v9) : hs_ok2 (fX7_reads σ x1 x2 x3) P := by
  unfold fX7_reads
  have h5 := hs_nat5 p3 p4
  refine hs_ck h5 ?_
  have e3 : (x2 - x1).toInt = x2.toInt - x1.toInt := hs_sub (by omega) (by omega)
  refine hs_ite (fun h => ?_) (fun h => ?_)
  · have hfu : ((hy_fu : Nat) : Int) = 5000 := rfl
    have h6 := congrArg Int32.toInt h
    rw [hs_len _ h5, e3] at h6
    exact s_fX7_reads_15 hy_fu σ x1 x2 x3 x1 I p0 (Int.le_refl _) p1 p2 h5 h6 (by rw [hfu]; omega) (fun v => hQ v)
  · exact hs_some (hQ 0)
theorem s_fX3_wordOf {R : hy_S → Prop} (σ : hy_S) (x0 : Int32) {P : hy_S → Int32 → Prop} (I : hc_I R σ) (hQ : ∀ v9 : Int32, 0 ≤ v9.toInt → v9.toInt ≤ 4 → P σ v9) : hs_ok2 (fX3_wordOf σ x0) P := by
  unfold fX3_wordOf
  show hs_ok _ _
  refine hs_ite (fun h_1 => ?_) (fun h_1 => ?_)
  · have : (x0 : Int32).toInt = (0) := congrArg Int32.toInt h_1
    exact hs_some (hQ (0 : Int32) (show 0 ≤ (0) by omega) (show (0) ≤ 4 by omega))
  · have : ¬ (x0 : Int32).toInt = (0) := fun z => h_1 (Int32.toInt_inj.mp z)
    refine hs_ite (fun h_2 => ?_) (fun h_2 => ?_)
    · have : (x0 : Int32).toInt = (1) := congrArg Int32.toInt h_2
      exact hs_some (hQ (1 : Int32) (show 0 ≤ (1) by omega) (show (1) ≤ 4 by omega))
    · have : ¬ (x0 : Int32).toInt = (1) := fun z => h_2 (Int32.toInt_inj.mp z)
      refine hs_ite (fun h_3 => ?_) (fun h_3 => ?_)
      · have : (x0 : Int32).toInt = (2) := congrArg Int32.toInt h_3
        exact hs_some (hQ (2 : Int32) (show 0 ≤ (2) by omega) (show (2) ≤ 4 by omega))
      · have : ¬ (x0 : Int32).toInt = (2) := fun z => h_3 (Int32.toInt_inj.mp z)
        refine hs_ite (fun h_4 => ?_) (fun h_4 => ?_)
        · have : (x0 : Int32).toInt = (3) := congrArg Int32.toInt h_4
          exact hs_some (hQ (3 : Int32) (show 0 ≤ (3) by omega) (show (3) ≤ 4 by omega))
        · have : ¬ (x0 : Int32).toInt = (3) := fun z => h_4 (Int32.toInt_inj.mp z)
          exact hs_some (hQ (4 : Int32) (show 0 ≤ (4) by omega) (show (4) ≤ 4 by omega))
theorem s_fX3_readFrom_4 {R : hy_S → Prop} (ra : ∀ j, j ∈ ([1] : List Nat) → ∀ (τ : hy_S) (g : Nat → Int32), R τ → R (hy_sc τ j g)) (ri : ∀ j, j ∈ ([] : List Nat) → ∀ (τ : hy_S) (v : Int32), R τ → R (hy_si τ j v)) {Q : hy_S × Int32 → Prop} (hQ : ∀ (σ9 : hy_S) (v9 : Int32), hc_I R σ9 → Q (σ9, v9)) : ∀ (n : Nat) (σ : hy_S) (x2 : Int32) (x3 : Int32), hc_I R σ → 0 ≤ x2.toInt → x2.toInt ≤ 400 → 0 ≤ x3.toInt → x3.toInt ≤ 5 → 5 - x3.toInt < (n : Int) → hs_ok (fX3_readFrom_4 n σ x2 x3) Q := by
  intro n
  induction n with
  | zero =>
    intro σ x2 x3 I p0 p1 p2 p3  hm
    exact absurd hm (by omega)
  | succ n ih =>
    intro σ x2 x3 I p0 p1 p2 p3  hm
    unfold fX3_readFrom_4
    refine hs_ite (fun h_1 => ?_) (fun h_1 => ?_)
    · have : (5) ≤ (x3 : Int32).toInt := Int32.le_iff_toInt_le.mp h_1
      refine hs_bd (s_fX7_past σ x2 (32 : Int32) (32 : Int32) I (show 0 ≤ (x2 : Int32).toInt by omega) (show (x2 : Int32).toInt ≤ 400 by omega) (fun v3_2 (gv3_2_0 : (x2 : Int32).toInt ≤ v3_2.toInt) (gv3_2_1 : v3_2.toInt ≤ 400) gv3_2_x0 => ?_))
      refine hs_bd (s_fX7_endsAt σ v3_2 I  (fun v6_3  => ?_))
      refine hs_ite (fun h_4 => ?_) (fun h_4 => ?_)
      · have : (v6_3 : Int32).toInt = (0) := congrArg Int32.toInt h_4
        exact hs_some (hQ σ (v3_2 : Int32) I )
      · have : ¬ (v6_3 : Int32).toInt = (0) := fun z => h_4 (Int32.toInt_inj.mp z)
        exact hs_some (hQ σ ((-1) : Int32) I )
    · have : ¬ (5) ≤ (x3 : Int32).toInt := fun z => h_1 (Int32.le_iff_toInt_le.mpr z)
      refine hs_bd (s_fX7_past σ x2 (32 : Int32) (32 : Int32) I (show 0 ≤ (x2 : Int32).toInt by omega) (show (x2 : Int32).toInt ≤ 400 by omega) (fun v10_5 (gv10_5_0 : (x2 : Int32).toInt ≤ v10_5.toInt) (gv10_5_1 : v10_5.toInt ≤ 400) gv10_5_x0 => ?_))
      refine hs_bd (s_fX7_past σ v10_5 (97 : Int32) (122 : Int32) I (show 0 ≤ (v10_5 : Int32).toInt by omega) (show (v10_5 : Int32).toInt ≤ 400 by omega) (fun v13_6 (gv13_6_0 : (v10_5 : Int32).toInt ≤ v13_6.toInt) (gv13_6_1 : v13_6.toInt ≤ 400) gv13_6_x0 => ?_))
      refine hs_bd (s_fX3_wordOf σ x3 I  (fun v16_7 (gv16_7_0 : 0 ≤ v16_7.toInt) (gv16_7_1 : v16_7.toInt ≤ 4) => ?_))
      refine hs_bd (s_fX7_reads σ v10_5 v13_6 v16_7 I (show 0 ≤ (v10_5 : Int32).toInt by omega) (show (v10_5 : Int32).toInt ≤ (v13_6 : Int32).toInt by omega) (show (v13_6 : Int32).toInt ≤ 400 by omega) (show 0 ≤ (v16_7 : Int32).toInt by omega) (show (v16_7 : Int32).toInt ≤ 4 by omega) (fun v19_8  => ?_))
      refine hs_ite (fun h_9 => ?_) (fun h_9 => ?_)
      · have : (v19_8 : Int32).toInt = (0) := congrArg Int32.toInt h_9
        exact hs_some (hQ σ (v10_5 : Int32) I )
      · have : ¬ (v19_8 : Int32).toInt = (0) := fun z => h_9 (Int32.toInt_inj.mp z)
        refine hs_bd (s_fX7_past σ v13_6 (32 : Int32) (32 : Int32) I (show 0 ≤ (v13_6 : Int32).toInt by omega) (show (v13_6 : Int32).toInt ≤ 400 by omega) (fun v23_10 (gv23_10_0 : (v13_6 : Int32).toInt ≤ v23_10.toInt) (gv23_10_1 : v23_10.toInt ≤ 400) gv23_10_x0 => ?_))
        refine hs_bd (s_fX7_past σ v23_10 (48 : Int32) (57 : Int32) I (show 0 ≤ (v23_10 : Int32).toInt by omega) (show (v23_10 : Int32).toInt ≤ 400 by omega) (fun v26_11 (gv26_11_0 : (v23_10 : Int32).toInt ≤ v26_11.toInt) (gv26_11_1 : v26_11.toInt ≤ 400) gv26_11_x0 => ?_))
        refine hs_ite (fun h_12 => ?_) (fun h_12 => ?_)
        · have : (v26_11 : Int32).toInt = (v23_10 : Int32).toInt := congrArg Int32.toInt h_12
          unfold fX3_readFrom_82
          exact hs_some (hQ σ (v23_10 : Int32) I )
        · have : ¬ (v26_11 : Int32).toInt = (v23_10 : Int32).toInt := fun z => h_12 (Int32.toInt_inj.mp z)
          obtain ⟨e_13, he_13⟩ : ∃ e9 : Int32, e9 = (v26_11 - v23_10) := ⟨_, rfl⟩
          try have : e_13.toInt = (v26_11 : Int32).toInt - (v23_10 : Int32).toInt := by rw [he_13]; exact hs_sub (by omega) (by omega)
          try rw [← he_13]
          refine hs_ite (fun h_14 => ?_) (fun h_14 => ?_)
          · have : (e_13 : Int32).toInt ≤ (5) := Int32.le_iff_toInt_le.mp h_14
            refine hs_bd (s_fX7_digitsFrom σ v23_10 v26_11 I (show 0 ≤ (v23_10 : Int32).toInt by omega) (show (v23_10 : Int32).toInt ≤ (v26_11 : Int32).toInt by omega) (show (v26_11 : Int32).toInt ≤ 400 by omega) (show (v26_11 : Int32).toInt - (v23_10 : Int32).toInt ≤ 5 by omega) gv26_11_x0 (fun v31_15 (gv31_15_0 : 0 ≤ v31_15.toInt) (gv31_15_1 : v31_15.toInt ≤ 99999) => ?_))
            refine hs_pa (idx := x3) (v := v31_15) I (by omega) (by omega) ⟨(by omega : (0 : Int) ≤ (v31_15 : Int32).toInt), (by omega : (v31_15 : Int32).toInt ≤ 99999)⟩ (ra 1 (by decide) _ _) (fun σ33_16 eσ33_16 Iσ33_16 => ?_)
            obtain ⟨e_17, he_17⟩ : ∃ e9 : Int32, e9 = (x3 + 1) := ⟨_, rfl⟩
            try have : e_17.toInt = (x3 : Int32).toInt + (1) := by rw [he_17]; exact hs_addk (1) rfl (by omega) (by omega)
            try rw [← he_17]
            exact ih σ33_16 (v26_11 : Int32) (e_17 : Int32) Iσ33_16 (show 0 ≤ (v26_11 : Int32).toInt by omega) (show (v26_11 : Int32).toInt ≤ 400 by omega) (show 0 ≤ (e_17 : Int32).toInt by omega) (show (e_17 : Int32).toInt ≤ 5 by omega)  (by omega)
          · have : ¬ (e_13 : Int32).toInt ≤ (5) := fun z => h_14 (Int32.le_iff_toInt_le.mpr z)
            unfold fX3_readFrom_82
            exact hs_some (hQ σ (v23_10 : Int32) I )
theorem s_fX3_readFrom {R : hy_S → Prop} (ra : ∀ j, j ∈ ([1] : List Nat) → ∀ (τ : hy_S) (g : Nat → Int32), R τ → R (hy_sc τ j g)) (ri : ∀ j, j ∈ ([] : List Nat) → ∀ (τ : hy_S) (v : Int32), R τ → R (hy_si τ j v)) (σ : hy_S) {P : hy_S → Int32 → Prop} (I : hc_I R σ) (hQ : ∀ (σ9 : hy_S) (v9 : Int32), hc_I R σ9 → P σ9 v9) : hs_ok2 (fX3_readFrom σ ) P := by
  unfold fX3_readFrom
  show hs_ok _ _
  have hfu : ((hy_fu : Nat) : Int) = 5000 := rfl
  refine s_fX3_readFrom_4 (fun j h => ra j (hs_inc (by decide) h)) (fun j h => ri j (hs_inc (by decide) h))  (fun τ_1 v_2 Iτ_1  => ?_)  hy_fu σ (0 : Int32) (0 : Int32) I (show 0 ≤ (0) by omega) (show (0) ≤ 400 by omega) (show 0 ≤ (0) by omega) (show (0) ≤ 5 by omega)  (show 5 - (0) < ((hy_fu : Nat) : Int) by rw [hfu]; omega)
  exact (hQ τ_1 (v_2 : Int32) Iτ_1 )
theorem s_fX9_check {R : hy_S → Prop} (ra : ∀ j, j ∈ ([1, 16, 17] : List Nat) → ∀ (τ : hy_S) (g : Nat → Int32), R τ → R (hy_sc τ j g)) (ri : ∀ j, j ∈ ([0, 2] : List Nat) → ∀ (τ : hy_S) (v : Int32), R τ → R (hy_si τ j v)) (σ : hy_S) (x1 : Int32) {Q : hy_O → Prop} (I : hc_I R σ) (hQ : ∀ (σ9 : hy_S) (v9 : Int32) (k9 : Nat), hc_I R σ9 → (k9 = 0 ∨ k9 = 1 ∨ k9 = 2) → ((σ9.2 2).toInt = 0) → Q (σ9, v9, k9)) : hs_ok (fX9_check σ x1) Q := by
  unfold fX9_check
  have : (-2147483648 : Int) ≤ (σ.2 0).toInt ∧ (σ.2 0).toInt ≤ 2147483647 := I.2.1 0
  have : (0 : Int) ≤ (σ.2 2).toInt ∧ (σ.2 2).toInt ≤ 400 := I.2.1 2
  refine hs_bd (s_fX3_readFrom (fun j h => ra j (hs_inc (by decide) h)) (fun j h => ri j (hs_inc (by decide) h)) σ  I  (fun σ1_2 v2_1 Iσ1_2  => ?_))
  have : (-2147483648 : Int) ≤ (σ1_2.2 0).toInt ∧ (σ1_2.2 0).toInt ≤ 2147483647 := Iσ1_2.2.1 0
  have : (0 : Int) ≤ (σ1_2.2 2).toInt ∧ (σ1_2.2 2).toInt ≤ 400 := Iσ1_2.2.1 2
  refine hs_bd (s_fX7_clear (fun j h => ra j (hs_inc (by decide) h)) (fun j h => ri j (hs_inc (by decide) h)) σ1_2  Iσ1_2  (fun σ4_4 v5_3 Iσ4_4 (gv5_3_0 : (σ4_4.2 2).toInt = 0) => ?_))
  have : (-2147483648 : Int) ≤ (σ4_4.2 0).toInt ∧ (σ4_4.2 0).toInt ≤ 2147483647 := Iσ4_4.2.1 0
  have : (0 : Int) ≤ (σ4_4.2 2).toInt ∧ (σ4_4.2 2).toInt ≤ 400 := Iσ4_4.2.1 2
  refine hs_btI (fun (u_5_0 : (0 : Int) ≤ (x1 : Int32).toInt) (u_5_1 : (x1 : Int32).toInt < (8)) => ?_) (fun (u_5x : (x1 : Int32).toInt < 0 ∨ (8) ≤ (x1 : Int32).toInt) => hQ _ _ _ Iσ4_4 (by decide) (show (σ4_4.2 2).toInt = 0 by omega))
  refine hs_pf (v := v2_1) Iσ4_4 (hs_any _) (ri 0 (by decide) _ _) (fun σ11_6 eσ11_6 Iσ11_6 => ?_)
  have : (σ11_6.2 0).toInt = (v2_1 : Int32).toInt := by rw [eσ11_6]; rfl
  have : (σ11_6.2 2).toInt = (σ4_4.2 2).toInt := by rw [eσ11_6]; rfl
  have : (-2147483648 : Int) ≤ (σ11_6.2 0).toInt ∧ (σ11_6.2 0).toInt ≤ 2147483647 := Iσ11_6.2.1 0
  have : (0 : Int) ≤ (σ11_6.2 2).toInt ∧ (σ11_6.2 2).toInt ≤ 400 := Iσ11_6.2.1 2
  refine hs_ite (fun h_7 => ?_) (fun h_7 => ?_)
  · have : (v2_1 : Int32).toInt = (-1) := congrArg Int32.toInt h_7
    refine hs_bd (s_fX9_falsehoodAt σ11_6 x1 Iσ11_6 (show 0 ≤ (x1 : Int32).toInt by omega) (show (x1 : Int32).toInt < 8 by omega) (fun v15_8  => ?_))
    refine hs_ite (fun h_9 => ?_) (fun h_9 => ?_)
    · have : (v15_8 : Int32).toInt = (0) := congrArg Int32.toInt h_9
      unfold fX9_check_65
      refine hs_bd (s_fX4_countNote (fun j h => ra j (hs_inc (by decide) h)) (fun j h => ri j (hs_inc (by decide) h)) σ11_6 x1 (0 : Int32) Iσ11_6 (show 0 ≤ (x1 : Int32).toInt by omega) (show (x1 : Int32).toInt < 8 by omega) (fun σ1_11 v2_10 Iσ1_11 (gv2_10_0 : (σ1_11.2 2).toInt = (σ11_6.2 2).toInt) => ?_))
      have : (-2147483648 : Int) ≤ (σ1_11.2 0).toInt ∧ (σ1_11.2 0).toInt ≤ 2147483647 := Iσ1_11.2.1 0
      have : (0 : Int) ≤ (σ1_11.2 2).toInt ∧ (σ1_11.2 2).toInt ≤ 400 := Iσ1_11.2.1 2
      exact hs_some (hQ _ _ _ Iσ1_11 (by decide) (show (σ1_11.2 2).toInt = 0 by omega))
    · have : ¬ (v15_8 : Int32).toInt = (0) := fun z => h_9 (Int32.toInt_inj.mp z)
      unfold fX9_check_65
      refine hs_bd (s_fX4_countNote (fun j h => ra j (hs_inc (by decide) h)) (fun j h => ri j (hs_inc (by decide) h)) σ11_6 x1 (1 : Int32) Iσ11_6 (show 0 ≤ (x1 : Int32).toInt by omega) (show (x1 : Int32).toInt < 8 by omega) (fun σ1_13 v2_12 Iσ1_13 (gv2_12_0 : (σ1_13.2 2).toInt = (σ11_6.2 2).toInt) => ?_))
      have : (-2147483648 : Int) ≤ (σ1_13.2 0).toInt ∧ (σ1_13.2 0).toInt ≤ 2147483647 := Iσ1_13.2.1 0
      have : (0 : Int) ≤ (σ1_13.2 2).toInt ∧ (σ1_13.2 2).toInt ≤ 400 := Iσ1_13.2.1 2
      exact hs_some (hQ _ _ _ Iσ1_13 (by decide) (show (σ1_13.2 2).toInt = 0 by omega))
  · have : ¬ (v2_1 : Int32).toInt = (-1) := fun z => h_7 (Int32.toInt_inj.mp z)
    exact hs_some (hQ _ _ _ Iσ11_6 (by decide) (show (σ11_6.2 2).toInt = 0 by omega))
