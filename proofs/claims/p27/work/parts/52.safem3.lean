theorem s_fX10_span_63 {R : hy_S → Prop} (ra : ∀ j, j ∈ ([28] : List Nat) → ∀ (τ : hy_S) (g : Nat → Int32), R τ → R (hy_sc τ j g)) (ri : ∀ j, j ∈ ([] : List Nat) → ∀ (τ : hy_S) (v : Int32), R τ → R (hy_si τ j v)) (a : Int) (d : Int) (g : Int) {k43 : hy_S → Int32 → Int32 → Int32 → Option (hy_S × Int32)} {k53 : hy_S → Int32 → Int32 → Int32 → Int32 → Option (hy_S × Int32)} {Q : hy_S × Int32 → Prop} (hQ : ∀ (σ9 : hy_S) (v9 : Int32), hm_I R σ9 → Q (σ9, v9)) (hk53 : ∀ (σ : hy_S) (y1 : Int32) (y2 : Int32) (y4 : Int32) (y5 : Int32), hm_I R σ → y1.toInt = a → y4.toInt = d → y5.toInt = g + 1 → hs_ok (k53 σ y1 y2 y4 y5) Q) : ∀ (n : Nat) (σ : hy_S) (x1 : Int32) (x2 : Int32) (x4 : Int32) (x5 : Int32) (x6 : Int32), hm_I R σ → 0 ≤ x4.toInt → x4.toInt ≤ 12 → 0 ≤ x5.toInt → x5.toInt ≤ 12 → 0 ≤ x6.toInt → x6.toInt ≤ 13 → x1.toInt = a → x4.toInt = d → x5.toInt = g → 13 - x6.toInt < (n : Int) → hs_ok (fX10_span_63 k43 k53 n σ x1 x2 x4 x5 x6) Q := by
  intro n
  induction n with
  | zero =>
    intro σ x1 x2 x4 x5 x6 I p0 p1 p2 p3 p4 p5 p6 p7 p8  hm
    exact absurd hm (by omega)
  | succ n ih =>
    intro σ x1 x2 x4 x5 x6 I p0 p1 p2 p3 p4 p5 p6 p7 p8  hm
    unfold fX10_span_63
    refine hs_ite (fun h_1 => ?_) (fun h_1 => ?_)
    · have : (13) ≤ (x6 : Int32).toInt := Int32.le_iff_toInt_le.mp h_1
      obtain ⟨e_2, he_2⟩ : ∃ e9 : Int32, e9 = (x5 + 1) := ⟨_, rfl⟩
      try have : e_2.toInt = (x5 : Int32).toInt + (1) := by rw [he_2]; exact hs_addk (1) rfl (by omega) (by omega)
      try rw [← he_2]
      exact hk53 σ (x1 : Int32) (x2 : Int32) (x4 : Int32) (e_2 : Int32) I (show (x1 : Int32).toInt = a by omega) (show (x4 : Int32).toInt = d by omega) (show (e_2 : Int32).toInt = g + 1 by omega)
    · have : ¬ (13) ≤ (x6 : Int32).toInt := fun z => h_1 (Int32.le_iff_toInt_le.mpr z)
      obtain ⟨e_3, he_3⟩ : ∃ e9 : Int32, e9 = (13 * x5) := ⟨_, rfl⟩
      try have : e_3.toInt = (13) * (x5 : Int32).toInt := by rw [he_3]; exact hs_mull (13) rfl (by omega) (by omega)
      try rw [← he_3]
      obtain ⟨e_4, he_4⟩ : ∃ e9 : Int32, e9 = (e_3 + x4) := ⟨_, rfl⟩
      try have : e_4.toInt = (e_3 : Int32).toInt + (x4 : Int32).toInt := by rw [he_4]; exact hs_add (by omega) (by omega)
      try rw [← he_4]
      refine hs_ga (j := 28) I (by omega) (by omega) (fun v2_5 ev2_5 (bv2_5 : (-2147483648 : Int) ≤ v2_5.toInt ∧ v2_5.toInt ≤ 2147483647) => ?_)
      obtain ⟨e_6, he_6⟩ : ∃ e9 : Int32, e9 = (13 * x4) := ⟨_, rfl⟩
      try have : e_6.toInt = (13) * (x4 : Int32).toInt := by rw [he_6]; exact hs_mull (13) rfl (by omega) (by omega)
      try rw [← he_6]
      obtain ⟨e_7, he_7⟩ : ∃ e9 : Int32, e9 = (e_6 + x6) := ⟨_, rfl⟩
      try have : e_7.toInt = (e_6 : Int32).toInt + (x6 : Int32).toInt := by rw [he_7]; exact hs_add (by omega) (by omega)
      try rw [← he_7]
      refine hs_ga (j := 28) I (by omega) (by omega) (fun v5_8 ev5_8 (bv5_8 : (-2147483648 : Int) ≤ v5_8.toInt ∧ v5_8.toInt ≤ 2147483647) => ?_)
      refine hs_ite (fun h_9 => ?_) (fun h_9 => ?_)
      · have : (v2_5 : Int32).toInt ≤ (-100000000) := Int32.le_iff_toInt_le.mp h_9
        unfold fX10_span_148
        obtain ⟨e_10, he_10⟩ : ∃ e9 : Int32, e9 = (x6 + 1) := ⟨_, rfl⟩
        try have : e_10.toInt = (x6 : Int32).toInt + (1) := by rw [he_10]; exact hs_addk (1) rfl (by omega) (by omega)
        try rw [← he_10]
        exact ih σ (x1 : Int32) (x2 : Int32) (x4 : Int32) (x5 : Int32) (e_10 : Int32) I (show 0 ≤ (x4 : Int32).toInt by omega) (show (x4 : Int32).toInt ≤ 12 by omega) (show 0 ≤ (x5 : Int32).toInt by omega) (show (x5 : Int32).toInt ≤ 12 by omega) (show 0 ≤ (e_10 : Int32).toInt by omega) (show (e_10 : Int32).toInt ≤ 13 by omega) (show (x1 : Int32).toInt = a by omega) (show (x4 : Int32).toInt = d by omega) (show (x5 : Int32).toInt = g by omega)  (by omega)
      · have : ¬ (v2_5 : Int32).toInt ≤ (-100000000) := fun z => h_9 (Int32.le_iff_toInt_le.mpr z)
        refine hs_ite (fun h_11 => ?_) (fun h_11 => ?_)
        · have : (v5_8 : Int32).toInt ≤ (-100000000) := Int32.le_iff_toInt_le.mp h_11
          unfold fX10_span_148
          obtain ⟨e_12, he_12⟩ : ∃ e9 : Int32, e9 = (x6 + 1) := ⟨_, rfl⟩
          try have : e_12.toInt = (x6 : Int32).toInt + (1) := by rw [he_12]; exact hs_addk (1) rfl (by omega) (by omega)
          try rw [← he_12]
          exact ih σ (x1 : Int32) (x2 : Int32) (x4 : Int32) (x5 : Int32) (e_12 : Int32) I (show 0 ≤ (x4 : Int32).toInt by omega) (show (x4 : Int32).toInt ≤ 12 by omega) (show 0 ≤ (x5 : Int32).toInt by omega) (show (x5 : Int32).toInt ≤ 12 by omega) (show 0 ≤ (e_12 : Int32).toInt by omega) (show (e_12 : Int32).toInt ≤ 13 by omega) (show (x1 : Int32).toInt = a by omega) (show (x4 : Int32).toInt = d by omega) (show (x5 : Int32).toInt = g by omega)  (by omega)
        · have : ¬ (v5_8 : Int32).toInt ≤ (-100000000) := fun z => h_11 (Int32.le_iff_toInt_le.mpr z)
          try rw [← he_3]
          obtain ⟨e_13, he_13⟩ : ∃ e9 : Int32, e9 = (e_3 + x6) := ⟨_, rfl⟩
          try have : e_13.toInt = (e_3 : Int32).toInt + (x6 : Int32).toInt := by rw [he_13]; exact hs_add (by omega) (by omega)
          try rw [← he_13]
          refine hs_ga (j := 28) I (by omega) (by omega) (fun v10_14 ev10_14 (bv10_14 : (-2147483648 : Int) ≤ v10_14.toInt ∧ v10_14.toInt ≤ 2147483647) => ?_)
          try rw [← he_3]
          try rw [← he_13]
          refine hs_pa (idx := e_13) (v := _) I (by omega) (by omega) (hs_any _) (fun r => ⟨hm_Ra (by decide) r.1, ra 28 (by decide) _ _ r.2⟩) (fun σ15_15 eσ15_15 Iσ15_15 => ?_)
          unfold fX10_span_148
          obtain ⟨e_16, he_16⟩ : ∃ e9 : Int32, e9 = (x6 + 1) := ⟨_, rfl⟩
          try have : e_16.toInt = (x6 : Int32).toInt + (1) := by rw [he_16]; exact hs_addk (1) rfl (by omega) (by omega)
          try rw [← he_16]
          exact ih σ15_15 (x1 : Int32) (x2 : Int32) (x4 : Int32) (x5 : Int32) (e_16 : Int32) Iσ15_15 (show 0 ≤ (x4 : Int32).toInt by omega) (show (x4 : Int32).toInt ≤ 12 by omega) (show 0 ≤ (x5 : Int32).toInt by omega) (show (x5 : Int32).toInt ≤ 12 by omega) (show 0 ≤ (e_16 : Int32).toInt by omega) (show (e_16 : Int32).toInt ≤ 13 by omega) (show (x1 : Int32).toInt = a by omega) (show (x4 : Int32).toInt = d by omega) (show (x5 : Int32).toInt = g by omega)  (by omega)
theorem s_fX10_span_53 {R : hy_S → Prop} (ra : ∀ j, j ∈ ([28] : List Nat) → ∀ (τ : hy_S) (g : Nat → Int32), R τ → R (hy_sc τ j g)) (ri : ∀ j, j ∈ ([] : List Nat) → ∀ (τ : hy_S) (v : Int32), R τ → R (hy_si τ j v)) (a : Int) (d : Int) {k43 : hy_S → Int32 → Int32 → Int32 → Option (hy_S × Int32)} {Q : hy_S × Int32 → Prop} (hQ : ∀ (σ9 : hy_S) (v9 : Int32), hm_I R σ9 → Q (σ9, v9)) (hk43 : ∀ (σ : hy_S) (y1 : Int32) (y2 : Int32) (y4 : Int32), hm_I R σ → y1.toInt = a → y4.toInt = d + 1 → hs_ok (k43 σ y1 y2 y4) Q) : ∀ (n : Nat) (σ : hy_S) (x1 : Int32) (x2 : Int32) (x4 : Int32) (x5 : Int32), hm_I R σ → 0 ≤ x4.toInt → x4.toInt ≤ 12 → 0 ≤ x5.toInt → x5.toInt ≤ 13 → x1.toInt = a → x4.toInt = d → 13 - x5.toInt < (n : Int) → hs_ok (fX10_span_53 k43 n σ x1 x2 x4 x5) Q := by
  intro n
  induction n with
  | zero =>
    intro σ x1 x2 x4 x5 I p0 p1 p2 p3 p4 p5  hm
    exact absurd hm (by omega)
  | succ n ih =>
    intro σ x1 x2 x4 x5 I p0 p1 p2 p3 p4 p5  hm
    unfold fX10_span_53
    refine hs_ite (fun h_1 => ?_) (fun h_1 => ?_)
    · have : (13) ≤ (x5 : Int32).toInt := Int32.le_iff_toInt_le.mp h_1
      obtain ⟨e_2, he_2⟩ : ∃ e9 : Int32, e9 = (x4 + 1) := ⟨_, rfl⟩
      try have : e_2.toInt = (x4 : Int32).toInt + (1) := by rw [he_2]; exact hs_addk (1) rfl (by omega) (by omega)
      try rw [← he_2]
      exact hk43 σ (x1 : Int32) (x2 : Int32) (e_2 : Int32) I (show (x1 : Int32).toInt = a by omega) (show (e_2 : Int32).toInt = d + 1 by omega)
    · have : ¬ (13) ≤ (x5 : Int32).toInt := fun z => h_1 (Int32.le_iff_toInt_le.mpr z)
      have hfu : ((hy_fu : Nat) : Int) = 5000 := rfl
      refine s_fX10_span_63 (fun j h => ra j (hs_inc (by decide) h)) (fun j h => ri j (hs_inc (by decide) h)) ((x1 : Int32).toInt) ((x4 : Int32).toInt) ((x5 : Int32).toInt) hQ (fun τ_11 y_3 y_4 y_5 y_6 I_7 h_8 h_9 h_10 => by exact ih τ_11 y_3 y_4 y_5 y_6 I_7 (by omega) (by omega) (by omega) (by omega) (by omega) (by omega) (by omega)) hy_fu σ (x1 : Int32) (x2 : Int32) (x4 : Int32) (x5 : Int32) (0 : Int32) I (show 0 ≤ (x4 : Int32).toInt by omega) (show (x4 : Int32).toInt ≤ 12 by omega) (show 0 ≤ (x5 : Int32).toInt by omega) (show (x5 : Int32).toInt ≤ 12 by omega) (show 0 ≤ (0) by omega) (show (0) ≤ 13 by omega) (show (x1 : Int32).toInt = ((x1 : Int32).toInt) by omega) (show (x4 : Int32).toInt = ((x4 : Int32).toInt) by omega) (show (x5 : Int32).toInt = ((x5 : Int32).toInt) by omega)  (show 13 - (0) < ((hy_fu : Nat) : Int) by rw [hfu]; omega)
theorem s_fX10_span_43 {R : hy_S → Prop} (ra : ∀ j, j ∈ ([28] : List Nat) → ∀ (τ : hy_S) (g : Nat → Int32), R τ → R (hy_sc τ j g)) (ri : ∀ j, j ∈ ([0] : List Nat) → ∀ (τ : hy_S) (v : Int32), R τ → R (hy_si τ j v)) {Q : hy_S × Int32 → Prop} (hQ : ∀ (σ9 : hy_S) (v9 : Int32), hm_I R σ9 → Q (σ9, v9)) : ∀ (n : Nat) (σ : hy_S) (x1 : Int32) (x2 : Int32) (x4 : Int32), hm_I R σ → 0 ≤ x1.toInt → x1.toInt ≤ 11 → 0 ≤ x4.toInt → x4.toInt ≤ 13 → 13 - x4.toInt < (n : Int) → hs_ok (fX10_span_43 n σ x1 x2 x4) Q := by
  intro n
  induction n with
  | zero =>
    intro σ x1 x2 x4 I p0 p1 p2 p3  hm
    exact absurd hm (by omega)
  | succ n ih =>
    intro σ x1 x2 x4 I p0 p1 p2 p3  hm
    unfold fX10_span_43
    refine hs_ite (fun h_1 => ?_) (fun h_1 => ?_)
    · have : (13) ≤ (x4 : Int32).toInt := Int32.le_iff_toInt_le.mp h_1
      refine hs_ite (fun h_2 => ?_) (fun h_2 => ?_)
      · have : (x2 : Int32).toInt = (0) := congrArg Int32.toInt h_2
        obtain ⟨e_3, he_3⟩ : ∃ e9 : Int32, e9 = (156 + x1) := ⟨_, rfl⟩
        try have : e_3.toInt = (156) + (x1 : Int32).toInt := by rw [he_3]; exact hs_addl (156) rfl (by omega) (by omega)
        try rw [← he_3]
        refine hs_ga (j := 28) I (by omega) (by omega) (fun v3_4 ev3_4 (bv3_4 : (-2147483648 : Int) ≤ v3_4.toInt ∧ v3_4.toInt ≤ 2147483647) => ?_)
        unfold fX10_span_195
        refine hs_ite (fun h_5 => ?_) (fun h_5 => ?_)
        · have : (v3_4 : Int32).toInt = (-100000000) := congrArg Int32.toInt h_5
          unfold fX10_span_210
          refine hs_th1 I (hs_any _) (fun r => ⟨hm_Ri (by decide) r.1, ri 0 (by decide) _ _ r.2⟩) (fun σ1_6 eσ1_6 Iσ1_6 => ?_)
          refine hs_ite (fun h_7 => ?_) (fun h_7 => ?_)
          · exact absurd h_7 (by decide)
          · skip
            exact hs_some (hQ σ1_6 (0 : Int32) Iσ1_6 )
        · have : ¬ (v3_4 : Int32).toInt = (-100000000) := fun z => h_5 (Int32.toInt_inj.mp z)
          unfold fX10_span_210
          refine hs_th0 ?_
          refine hs_ite (fun h_8 => ?_) (fun h_8 => ?_)
          · skip
            refine hs_ite (fun h_9 => ?_) (fun h_9 => ?_)
            · have : (x2 : Int32).toInt = (0) := congrArg Int32.toInt h_9
              exact hs_some (hQ σ (v3_4 : Int32) I )
            · have : ¬ (x2 : Int32).toInt = (0) := fun z => h_9 (Int32.toInt_inj.mp z)
              obtain ⟨e_10, he_10⟩ : ∃ e9 : Int32, e9 = (-v3_4) := ⟨_, rfl⟩
              try have : e_10.toInt = -(v3_4 : Int32).toInt := by rw [he_10]; exact hs_neg (by omega) (by omega)
              try rw [← he_10]
              exact hs_some (hQ σ (e_10 : Int32) I )
          · exact absurd (by decide) h_8
      · have : ¬ (x2 : Int32).toInt = (0) := fun z => h_2 (Int32.toInt_inj.mp z)
        obtain ⟨e_11, he_11⟩ : ∃ e9 : Int32, e9 = (13 * x1) := ⟨_, rfl⟩
        try have : e_11.toInt = (13) * (x1 : Int32).toInt := by rw [he_11]; exact hs_mull (13) rfl (by omega) (by omega)
        try rw [← he_11]
        obtain ⟨e_12, he_12⟩ : ∃ e9 : Int32, e9 = (e_11 + 12) := ⟨_, rfl⟩
        try have : e_12.toInt = (e_11 : Int32).toInt + (12) := by rw [he_12]; exact hs_addk (12) rfl (by omega) (by omega)
        try rw [← he_12]
        refine hs_ga (j := 28) I (by omega) (by omega) (fun v6_13 ev6_13 (bv6_13 : (-2147483648 : Int) ≤ v6_13.toInt ∧ v6_13.toInt ≤ 2147483647) => ?_)
        unfold fX10_span_195
        refine hs_ite (fun h_14 => ?_) (fun h_14 => ?_)
        · have : (v6_13 : Int32).toInt = (-100000000) := congrArg Int32.toInt h_14
          unfold fX10_span_210
          refine hs_th1 I (hs_any _) (fun r => ⟨hm_Ri (by decide) r.1, ri 0 (by decide) _ _ r.2⟩) (fun σ1_15 eσ1_15 Iσ1_15 => ?_)
          refine hs_ite (fun h_16 => ?_) (fun h_16 => ?_)
          · exact absurd h_16 (by decide)
          · skip
            exact hs_some (hQ σ1_15 (0 : Int32) Iσ1_15 )
        · have : ¬ (v6_13 : Int32).toInt = (-100000000) := fun z => h_14 (Int32.toInt_inj.mp z)
          unfold fX10_span_210
          refine hs_th0 ?_
          refine hs_ite (fun h_17 => ?_) (fun h_17 => ?_)
          · skip
            refine hs_ite (fun h_18 => ?_) (fun h_18 => ?_)
            · have : (x2 : Int32).toInt = (0) := congrArg Int32.toInt h_18
              exact hs_some (hQ σ (v6_13 : Int32) I )
            · have : ¬ (x2 : Int32).toInt = (0) := fun z => h_18 (Int32.toInt_inj.mp z)
              obtain ⟨e_19, he_19⟩ : ∃ e9 : Int32, e9 = (-v6_13) := ⟨_, rfl⟩
              try have : e_19.toInt = -(v6_13 : Int32).toInt := by rw [he_19]; exact hs_neg (by omega) (by omega)
              try rw [← he_19]
              exact hs_some (hQ σ (e_19 : Int32) I )
          · exact absurd (by decide) h_17
    · have : ¬ (13) ≤ (x4 : Int32).toInt := fun z => h_1 (Int32.le_iff_toInt_le.mpr z)
      have hfu : ((hy_fu : Nat) : Int) = 5000 := rfl
      refine s_fX10_span_53 (fun j h => ra j (hs_inc (by decide) h)) (fun j h => ri j (hs_inc (by decide) h)) ((x1 : Int32).toInt) ((x4 : Int32).toInt) hQ (fun τ_26 y_20 y_21 y_22 I_23 h_24 h_25 => by exact ih τ_26 y_20 y_21 y_22 I_23 (by omega) (by omega) (by omega) (by omega) (by omega)) hy_fu σ (x1 : Int32) (x2 : Int32) (x4 : Int32) (0 : Int32) I (show 0 ≤ (x4 : Int32).toInt by omega) (show (x4 : Int32).toInt ≤ 12 by omega) (show 0 ≤ (0) by omega) (show (0) ≤ 13 by omega) (show (x1 : Int32).toInt = ((x1 : Int32).toInt) by omega) (show (x4 : Int32).toInt = ((x4 : Int32).toInt) by omega)  (show 13 - (0) < ((hy_fu : Nat) : Int) by rw [hfu]; omega)
theorem s_fX10_span {R : hy_S → Prop} (ra : ∀ j, j ∈ ([28, 29, 30] : List Nat) → ∀ (τ : hy_S) (g : Nat → Int32), R τ → R (hy_sc τ j g)) (ri : ∀ j, j ∈ ([0] : List Nat) → ∀ (τ : hy_S) (v : Int32), R τ → R (hy_si τ j v)) (σ : hy_S) (x1 : Int32) (x2 : Int32) (x3 : Int32) {P : hy_S → Int32 → Prop} (I : hm_I R σ) (hQ : ∀ (σ9 : hy_S) (v9 : Int32), hm_I R σ9 → P σ9 v9) : hs_ok2 (fX10_span σ x1 x2 x3) P := by
  unfold fX10_span
  show hs_ok _ _
  have : (-2147483648 : Int) ≤ (σ.2 0).toInt ∧ (σ.2 0).toInt ≤ 2147483647 := I.2.1 0
  refine hs_pf (v := 0) I (hs_any _) (fun r => ⟨hm_Ri (by decide) r.1, ri 0 (by decide) _ _ r.2⟩) (fun σ1_1 eσ1_1 Iσ1_1 => ?_)
  have : (σ1_1.2 0).toInt = (0) := by rw [eσ1_1]; rfl
  have : (-2147483648 : Int) ≤ (σ1_1.2 0).toInt ∧ (σ1_1.2 0).toInt ≤ 2147483647 := Iσ1_1.2.1 0
  refine hs_noT (fun (u_2_0 : (0 : Int) ≤ (x1 : Int32).toInt) (u_2_1 : (x1 : Int32).toInt < 12) => ?_) (fun (u_2_0 : (x1 : Int32).toInt < 0 ∨ 12 ≤ (x1 : Int32).toInt) => ?_)
  · skip
    refine hs_th0 ?_
    refine hs_ite (fun h_3 => ?_) (fun h_3 => ?_)
    · skip
      refine hs_bd (s_fX10_round (fun j h => ra j (hs_inc (by decide) h)) (fun j h => ri j (hs_inc (by decide) h)) σ1_1 x3 Iσ1_1  (fun σ10_5 v11_4 Iσ10_5  => ?_))
      have : (-2147483648 : Int) ≤ (σ10_5.2 0).toInt ∧ (σ10_5.2 0).toInt ≤ 2147483647 := Iσ10_5.2.1 0
      refine hs_ite (fun h_6 => ?_) (fun h_6 => ?_)
      · have : (v11_4 : Int32).toInt ≤ (0) := Int32.le_iff_toInt_le.mp h_6
        unfold fX10_span_31
        refine hs_th0 ?_
        refine hs_ite (fun h_7 => ?_) (fun h_7 => ?_)
        · skip
          have hfu : ((hy_fu : Nat) : Int) = 5000 := rfl
          refine s_fX10_span_43 (fun j h => ra j (hs_inc (by decide) h)) (fun j h => ri j (hs_inc (by decide) h))  (fun τ_8 v_9 Iτ_8  => ?_)  hy_fu σ10_5 (x1 : Int32) (x2 : Int32) (0 : Int32) Iσ10_5 (show 0 ≤ (x1 : Int32).toInt by omega) (show (x1 : Int32).toInt ≤ 11 by omega) (show 0 ≤ (0) by omega) (show (0) ≤ 13 by omega)  (show 13 - (0) < ((hy_fu : Nat) : Int) by rw [hfu]; omega)
          have : (-2147483648 : Int) ≤ (τ_8.2 0).toInt ∧ (τ_8.2 0).toInt ≤ 2147483647 := Iτ_8.2.1 0
          exact (hQ τ_8 (v_9 : Int32) Iτ_8 )
        · exact absurd (by decide) h_7
      · have : ¬ (v11_4 : Int32).toInt ≤ (0) := fun z => h_6 (Int32.le_iff_toInt_le.mpr z)
        unfold fX10_span_31
        refine hs_th1 Iσ10_5 (hs_any _) (fun r => ⟨hm_Ri (by decide) r.1, ri 0 (by decide) _ _ r.2⟩) (fun σ1_10 eσ1_10 Iσ1_10 => ?_)
        have : (σ1_10.2 0).toInt = (2) := by rw [eσ1_10]; rfl
        have : (-2147483648 : Int) ≤ (σ1_10.2 0).toInt ∧ (σ1_10.2 0).toInt ≤ 2147483647 := Iσ1_10.2.1 0
        refine hs_ite (fun h_11 => ?_) (fun h_11 => ?_)
        · exact absurd h_11 (by decide)
        · skip
          exact hs_some (hQ σ1_10 (0 : Int32) Iσ1_10 )
    · exact absurd (by decide) h_3
  · skip
    refine hs_th1 Iσ1_1 (hs_any _) (fun r => ⟨hm_Ri (by decide) r.1, ri 0 (by decide) _ _ r.2⟩) (fun σ6_12 eσ6_12 Iσ6_12 => ?_)
    have : (σ6_12.2 0).toInt = (1) := by rw [eσ6_12]; rfl
    have : (-2147483648 : Int) ≤ (σ6_12.2 0).toInt ∧ (σ6_12.2 0).toInt ≤ 2147483647 := Iσ6_12.2.1 0
    refine hs_ite (fun h_13 => ?_) (fun h_13 => ?_)
    · exact absurd h_13 (by decide)
    · skip
      exact hs_some (hQ σ6_12 (0 : Int32) Iσ6_12 )
theorem s_fX10_count_114 {R : hy_S → Prop} (ra : ∀ j, j ∈ ([] : List Nat) → ∀ (τ : hy_S) (g : Nat → Int32), R τ → R (hy_sc τ j g)) (ri : ∀ j, j ∈ ([] : List Nat) → ∀ (τ : hy_S) (v : Int32), R τ → R (hy_si τ j v)) {Q : hy_S × Int32 → Prop} (hQ : ∀ (σ9 : hy_S) (v9 : Int32), hm_I R σ9 → Q (σ9, v9)) : ∀ (n : Nat) (σ : hy_S) (x2 : Int32) (x3 : Int32), hm_I R σ → 0 ≤ x3.toInt → x3.toInt ≤ 60 → 60 - x3.toInt < (n : Int) → hs_ok (fX10_count_114 n σ x2 x3) Q := by
  intro n
  induction n with
  | zero =>
    intro σ x2 x3 I p0 p1  hm
    have : (0 : Int) ≤ (σ.2 2).toInt ∧ (σ.2 2).toInt ≤ 60 := I.2.1 2
    exact absurd hm (by omega)
  | succ n ih =>
    intro σ x2 x3 I p0 p1  hm
    unfold fX10_count_114
    have : (0 : Int) ≤ (σ.2 2).toInt ∧ (σ.2 2).toInt ≤ 60 := I.2.1 2
    refine hs_ite (fun h_1 => ?_) (fun h_1 => ?_)
    · have : ((σ.2 2) : Int32).toInt ≤ (x3 : Int32).toInt := Int32.le_iff_toInt_le.mp h_1
      exact hs_some (hQ σ (x2 : Int32) I )
    · have : ¬ ((σ.2 2) : Int32).toInt ≤ (x3 : Int32).toInt := fun z => h_1 (Int32.le_iff_toInt_le.mpr z)
      refine hs_ga (j := 7) I (by omega) (by omega) (fun v2_2 ev2_2 (bv2_2 : (-2147483648 : Int) ≤ v2_2.toInt ∧ v2_2.toInt ≤ 2147483647) => ?_)
      refine hs_ite (fun h_3 => ?_) (fun h_3 => ?_)
      · have : (v2_2 : Int32).toInt = (3) := congrArg Int32.toInt h_3
        unfold fX10_count_143
        obtain ⟨e_4, he_4⟩ : ∃ e9 : Int32, e9 = (x2 + 0) := ⟨_, rfl⟩
        try have : e_4.toInt = (x2 : Int32).toInt + (0) := by rw [he_4]; exact hs_addk (0) rfl (by omega) (by omega)
        try rw [← he_4]
        obtain ⟨e_5, he_5⟩ : ∃ e9 : Int32, e9 = (x3 + 1) := ⟨_, rfl⟩
        try have : e_5.toInt = (x3 : Int32).toInt + (1) := by rw [he_5]; exact hs_addk (1) rfl (by omega) (by omega)
        try rw [← he_5]
        exact ih σ (e_4 : Int32) (e_5 : Int32) I (show 0 ≤ (e_5 : Int32).toInt by omega) (show (e_5 : Int32).toInt ≤ 60 by omega)  (by omega)
      · have : ¬ (v2_2 : Int32).toInt = (3) := fun z => h_3 (Int32.toInt_inj.mp z)
        refine hs_ga (j := 6) I (by omega) (by omega) (fun v6_6 ev6_6 (bv6_6 : (-2147483648 : Int) ≤ v6_6.toInt ∧ v6_6.toInt ≤ 2147483647) => ?_)
        unfold fX10_count_143
        obtain ⟨e_7, he_7⟩ : ∃ e9 : Int32, e9 = (x2 + v6_6) := ⟨_, rfl⟩
        try have : e_7.toInt = (x2 : Int32).toInt + (v6_6 : Int32).toInt := by rw [he_7]; exact hs_add (by omega) (by omega)
        try rw [← he_7]
        obtain ⟨e_8, he_8⟩ : ∃ e9 : Int32, e9 = (x3 + 1) := ⟨_, rfl⟩
        try have : e_8.toInt = (x3 : Int32).toInt + (1) := by rw [he_8]; exact hs_addk (1) rfl (by omega) (by omega)
        try rw [← he_8]
        exact ih σ (e_7 : Int32) (e_8 : Int32) I (show 0 ≤ (e_8 : Int32).toInt by omega) (show (e_8 : Int32).toInt ≤ 60 by omega)  (by omega)
theorem s_fX10_count_76 {R : hy_S → Prop} (ra : ∀ j, j ∈ ([] : List Nat) → ∀ (τ : hy_S) (g : Nat → Int32), R τ → R (hy_sc τ j g)) (ri : ∀ j, j ∈ ([] : List Nat) → ∀ (τ : hy_S) (v : Int32), R τ → R (hy_si τ j v)) {Q : hy_S × Int32 → Prop} (hQ : ∀ (σ9 : hy_S) (v9 : Int32), hm_I R σ9 → Q (σ9, v9)) : ∀ (n : Nat) (σ : hy_S) (x1 : Int32) (x2 : Int32) (x3 : Int32), hm_I R σ → 0 ≤ x3.toInt → x3.toInt ≤ 60 → 60 - x3.toInt < (n : Int) → hs_ok (fX10_count_76 n σ x1 x2 x3) Q := by
  intro n
  induction n with
  | zero =>
    intro σ x1 x2 x3 I p0 p1  hm
    have : (0 : Int) ≤ (σ.2 2).toInt ∧ (σ.2 2).toInt ≤ 60 := I.2.1 2
    exact absurd hm (by omega)
  | succ n ih =>
    intro σ x1 x2 x3 I p0 p1  hm
    unfold fX10_count_76
    have : (0 : Int) ≤ (σ.2 2).toInt ∧ (σ.2 2).toInt ≤ 60 := I.2.1 2
    refine hs_ite (fun h_1 => ?_) (fun h_1 => ?_)
    · have : ((σ.2 2) : Int32).toInt ≤ (x3 : Int32).toInt := Int32.le_iff_toInt_le.mp h_1
      exact hs_some (hQ σ (x2 : Int32) I )
    · have : ¬ ((σ.2 2) : Int32).toInt ≤ (x3 : Int32).toInt := fun z => h_1 (Int32.le_iff_toInt_le.mpr z)
      refine hs_ga (j := 7) I (by omega) (by omega) (fun v2_2 ev2_2 (bv2_2 : (-2147483648 : Int) ≤ v2_2.toInt ∧ v2_2.toInt ≤ 2147483647) => ?_)
      obtain ⟨e_3, he_3⟩ : ∃ e9 : Int32, e9 = (x1 - 2) := ⟨_, rfl⟩
      try have : e_3.toInt = (x1 : Int32).toInt - (2) := by rw [he_3]; exact hs_subk (2) rfl (by omega) (by omega)
      try rw [← he_3]
      refine hs_ite (fun h_4 => ?_) (fun h_4 => ?_)
      · have : (v2_2 : Int32).toInt = (e_3 : Int32).toInt := congrArg Int32.toInt h_4
        unfold fX10_count_102
        obtain ⟨e_5, he_5⟩ : ∃ e9 : Int32, e9 = (x2 + 1) := ⟨_, rfl⟩
        try have : e_5.toInt = (x2 : Int32).toInt + (1) := by rw [he_5]; exact hs_addk (1) rfl (by omega) (by omega)
        try rw [← he_5]
        obtain ⟨e_6, he_6⟩ : ∃ e9 : Int32, e9 = (x3 + 1) := ⟨_, rfl⟩
        try have : e_6.toInt = (x3 : Int32).toInt + (1) := by rw [he_6]; exact hs_addk (1) rfl (by omega) (by omega)
        try rw [← he_6]
        exact ih σ (x1 : Int32) (e_5 : Int32) (e_6 : Int32) I (show 0 ≤ (e_6 : Int32).toInt by omega) (show (e_6 : Int32).toInt ≤ 60 by omega)  (by omega)
      · have : ¬ (v2_2 : Int32).toInt = (e_3 : Int32).toInt := fun z => h_4 (Int32.toInt_inj.mp z)
        unfold fX10_count_102
        obtain ⟨e_7, he_7⟩ : ∃ e9 : Int32, e9 = (x2 + 0) := ⟨_, rfl⟩
        try have : e_7.toInt = (x2 : Int32).toInt + (0) := by rw [he_7]; exact hs_addk (0) rfl (by omega) (by omega)
        try rw [← he_7]
        obtain ⟨e_8, he_8⟩ : ∃ e9 : Int32, e9 = (x3 + 1) := ⟨_, rfl⟩
        try have : e_8.toInt = (x3 : Int32).toInt + (1) := by rw [he_8]; exact hs_addk (1) rfl (by omega) (by omega)
        try rw [← he_8]
        exact ih σ (x1 : Int32) (e_7 : Int32) (e_8 : Int32) I (show 0 ≤ (e_8 : Int32).toInt by omega) (show (e_8 : Int32).toInt ≤ 60 by omega)  (by omega)
theorem s_fX10_count {R : hy_S → Prop} (ra : ∀ j, j ∈ ([] : List Nat) → ∀ (τ : hy_S) (g : Nat → Int32), R τ → R (hy_sc τ j g)) (ri : ∀ j, j ∈ ([0] : List Nat) → ∀ (τ : hy_S) (v : Int32), R τ → R (hy_si τ j v)) (σ : hy_S) (x1 : Int32) {P : hy_S → Int32 → Prop} (I : hm_I R σ) (hQ : ∀ (σ9 : hy_S) (v9 : Int32), hm_I R σ9 → P σ9 v9) : hs_ok2 (fX10_count σ x1) P := by
  unfold fX10_count
  show hs_ok _ _
  have : (-2147483648 : Int) ≤ (σ.2 0).toInt ∧ (σ.2 0).toInt ≤ 2147483647 := I.2.1 0
  have : (0 : Int) ≤ (σ.2 1).toInt ∧ (σ.2 1).toInt ≤ 8 := I.2.1 1
  have : (0 : Int) ≤ (σ.2 2).toInt ∧ (σ.2 2).toInt ≤ 60 := I.2.1 2
  have : (0 : Int) ≤ (σ.2 9).toInt ∧ (σ.2 9).toInt ≤ 60 := I.2.1 9
  have : (0 : Int) ≤ (σ.2 10).toInt ∧ (σ.2 10).toInt ≤ 60 := I.2.1 10
  have : (-2147483648 : Int) ≤ (σ.2 11).toInt ∧ (σ.2 11).toInt ≤ 2147483647 := I.2.1 11
  refine hs_pf (v := 0) I (hs_any _) (fun r => ⟨hm_Ri (by decide) r.1, ri 0 (by decide) _ _ r.2⟩) (fun σ1_1 eσ1_1 Iσ1_1 => ?_)
  have : (σ1_1.2 0).toInt = (0) := by rw [eσ1_1]; rfl
  have : (σ1_1.2 1).toInt = (σ.2 1).toInt := by rw [eσ1_1]; rfl
  have : (σ1_1.2 2).toInt = (σ.2 2).toInt := by rw [eσ1_1]; rfl
  have : (σ1_1.2 9).toInt = (σ.2 9).toInt := by rw [eσ1_1]; rfl
  have : (σ1_1.2 10).toInt = (σ.2 10).toInt := by rw [eσ1_1]; rfl
  have : (σ1_1.2 11).toInt = (σ.2 11).toInt := by rw [eσ1_1]; rfl
  have : (-2147483648 : Int) ≤ (σ1_1.2 0).toInt ∧ (σ1_1.2 0).toInt ≤ 2147483647 := Iσ1_1.2.1 0
  have : (0 : Int) ≤ (σ1_1.2 1).toInt ∧ (σ1_1.2 1).toInt ≤ 8 := Iσ1_1.2.1 1
  have : (0 : Int) ≤ (σ1_1.2 2).toInt ∧ (σ1_1.2 2).toInt ≤ 60 := Iσ1_1.2.1 2
  have : (0 : Int) ≤ (σ1_1.2 9).toInt ∧ (σ1_1.2 9).toInt ≤ 60 := Iσ1_1.2.1 9
  have : (0 : Int) ≤ (σ1_1.2 10).toInt ∧ (σ1_1.2 10).toInt ≤ 60 := Iσ1_1.2.1 10
  have : (-2147483648 : Int) ≤ (σ1_1.2 11).toInt ∧ (σ1_1.2 11).toInt ≤ 2147483647 := Iσ1_1.2.1 11
  refine hs_ite (fun h_2 => ?_) (fun h_2 => ?_)
  · have : (x1 : Int32).toInt = (0) := congrArg Int32.toInt h_2
    exact hs_some (hQ σ1_1 ((σ1_1.2 1) : Int32) Iσ1_1 )
  · have : ¬ (x1 : Int32).toInt = (0) := fun z => h_2 (Int32.toInt_inj.mp z)
    refine hs_ite (fun h_3 => ?_) (fun h_3 => ?_)
    · have : (x1 : Int32).toInt = (1) := congrArg Int32.toInt h_3
      exact hs_some (hQ σ1_1 ((σ1_1.2 2) : Int32) Iσ1_1 )
    · have : ¬ (x1 : Int32).toInt = (1) := fun z => h_3 (Int32.toInt_inj.mp z)
      refine hs_ite (fun h_4 => ?_) (fun h_4 => ?_)
      · have : (x1 : Int32).toInt = (2) := congrArg Int32.toInt h_4
        have hfu : ((hy_fu : Nat) : Int) = 5000 := rfl
        refine s_fX10_count_76 (fun j h => ra j (hs_inc (by decide) h)) (fun j h => ri j (hs_inc (by decide) h))  (fun τ_5 v_6 Iτ_5  => ?_)  hy_fu σ1_1 (x1 : Int32) (0 : Int32) (0 : Int32) Iσ1_1 (show 0 ≤ (0) by omega) (show (0) ≤ 60 by omega)  (show 60 - (0) < ((hy_fu : Nat) : Int) by rw [hfu]; omega)
        have : (-2147483648 : Int) ≤ (τ_5.2 0).toInt ∧ (τ_5.2 0).toInt ≤ 2147483647 := Iτ_5.2.1 0
        have : (0 : Int) ≤ (τ_5.2 1).toInt ∧ (τ_5.2 1).toInt ≤ 8 := Iτ_5.2.1 1
        have : (0 : Int) ≤ (τ_5.2 2).toInt ∧ (τ_5.2 2).toInt ≤ 60 := Iτ_5.2.1 2
        have : (0 : Int) ≤ (τ_5.2 9).toInt ∧ (τ_5.2 9).toInt ≤ 60 := Iτ_5.2.1 9
        have : (0 : Int) ≤ (τ_5.2 10).toInt ∧ (τ_5.2 10).toInt ≤ 60 := Iτ_5.2.1 10
        have : (-2147483648 : Int) ≤ (τ_5.2 11).toInt ∧ (τ_5.2 11).toInt ≤ 2147483647 := Iτ_5.2.1 11
        exact (hQ τ_5 (v_6 : Int32) Iτ_5 )
      · have : ¬ (x1 : Int32).toInt = (2) := fun z => h_4 (Int32.toInt_inj.mp z)
        refine hs_ite (fun h_7 => ?_) (fun h_7 => ?_)
        · have : (x1 : Int32).toInt = (3) := congrArg Int32.toInt h_7
          have hfu : ((hy_fu : Nat) : Int) = 5000 := rfl
          refine s_fX10_count_76 (fun j h => ra j (hs_inc (by decide) h)) (fun j h => ri j (hs_inc (by decide) h))  (fun τ_8 v_9 Iτ_8  => ?_)  hy_fu σ1_1 (x1 : Int32) (0 : Int32) (0 : Int32) Iσ1_1 (show 0 ≤ (0) by omega) (show (0) ≤ 60 by omega)  (show 60 - (0) < ((hy_fu : Nat) : Int) by rw [hfu]; omega)
          have : (-2147483648 : Int) ≤ (τ_8.2 0).toInt ∧ (τ_8.2 0).toInt ≤ 2147483647 := Iτ_8.2.1 0
          have : (0 : Int) ≤ (τ_8.2 1).toInt ∧ (τ_8.2 1).toInt ≤ 8 := Iτ_8.2.1 1
          have : (0 : Int) ≤ (τ_8.2 2).toInt ∧ (τ_8.2 2).toInt ≤ 60 := Iτ_8.2.1 2
          have : (0 : Int) ≤ (τ_8.2 9).toInt ∧ (τ_8.2 9).toInt ≤ 60 := Iτ_8.2.1 9
          have : (0 : Int) ≤ (τ_8.2 10).toInt ∧ (τ_8.2 10).toInt ≤ 60 := Iτ_8.2.1 10
          have : (-2147483648 : Int) ≤ (τ_8.2 11).toInt ∧ (τ_8.2 11).toInt ≤ 2147483647 := Iτ_8.2.1 11
          exact (hQ τ_8 (v_9 : Int32) Iτ_8 )
        · have : ¬ (x1 : Int32).toInt = (3) := fun z => h_7 (Int32.toInt_inj.mp z)
          refine hs_ite (fun h_10 => ?_) (fun h_10 => ?_)
          · have : (x1 : Int32).toInt = (4) := congrArg Int32.toInt h_10
            have hfu : ((hy_fu : Nat) : Int) = 5000 := rfl
            refine s_fX10_count_76 (fun j h => ra j (hs_inc (by decide) h)) (fun j h => ri j (hs_inc (by decide) h))  (fun τ_11 v_12 Iτ_11  => ?_)  hy_fu σ1_1 (x1 : Int32) (0 : Int32) (0 : Int32) Iσ1_1 (show 0 ≤ (0) by omega) (show (0) ≤ 60 by omega)  (show 60 - (0) < ((hy_fu : Nat) : Int) by rw [hfu]; omega)
            have : (-2147483648 : Int) ≤ (τ_11.2 0).toInt ∧ (τ_11.2 0).toInt ≤ 2147483647 := Iτ_11.2.1 0
            have : (0 : Int) ≤ (τ_11.2 1).toInt ∧ (τ_11.2 1).toInt ≤ 8 := Iτ_11.2.1 1
            have : (0 : Int) ≤ (τ_11.2 2).toInt ∧ (τ_11.2 2).toInt ≤ 60 := Iτ_11.2.1 2
            have : (0 : Int) ≤ (τ_11.2 9).toInt ∧ (τ_11.2 9).toInt ≤ 60 := Iτ_11.2.1 9
            have : (0 : Int) ≤ (τ_11.2 10).toInt ∧ (τ_11.2 10).toInt ≤ 60 := Iτ_11.2.1 10
            have : (-2147483648 : Int) ≤ (τ_11.2 11).toInt ∧ (τ_11.2 11).toInt ≤ 2147483647 := Iτ_11.2.1 11
            exact (hQ τ_11 (v_12 : Int32) Iτ_11 )
          · have : ¬ (x1 : Int32).toInt = (4) := fun z => h_10 (Int32.toInt_inj.mp z)
            refine hs_ite (fun h_13 => ?_) (fun h_13 => ?_)
            · have : (x1 : Int32).toInt = (5) := congrArg Int32.toInt h_13
              have hfu : ((hy_fu : Nat) : Int) = 5000 := rfl
              refine s_fX10_count_76 (fun j h => ra j (hs_inc (by decide) h)) (fun j h => ri j (hs_inc (by decide) h))  (fun τ_14 v_15 Iτ_14  => ?_)  hy_fu σ1_1 (x1 : Int32) (0 : Int32) (0 : Int32) Iσ1_1 (show 0 ≤ (0) by omega) (show (0) ≤ 60 by omega)  (show 60 - (0) < ((hy_fu : Nat) : Int) by rw [hfu]; omega)
              have : (-2147483648 : Int) ≤ (τ_14.2 0).toInt ∧ (τ_14.2 0).toInt ≤ 2147483647 := Iτ_14.2.1 0
              have : (0 : Int) ≤ (τ_14.2 1).toInt ∧ (τ_14.2 1).toInt ≤ 8 := Iτ_14.2.1 1
              have : (0 : Int) ≤ (τ_14.2 2).toInt ∧ (τ_14.2 2).toInt ≤ 60 := Iτ_14.2.1 2
              have : (0 : Int) ≤ (τ_14.2 9).toInt ∧ (τ_14.2 9).toInt ≤ 60 := Iτ_14.2.1 9
              have : (0 : Int) ≤ (τ_14.2 10).toInt ∧ (τ_14.2 10).toInt ≤ 60 := Iτ_14.2.1 10
              have : (-2147483648 : Int) ≤ (τ_14.2 11).toInt ∧ (τ_14.2 11).toInt ≤ 2147483647 := Iτ_14.2.1 11
              exact (hQ τ_14 (v_15 : Int32) Iτ_14 )
            · have : ¬ (x1 : Int32).toInt = (5) := fun z => h_13 (Int32.toInt_inj.mp z)
              refine hs_ite (fun h_16 => ?_) (fun h_16 => ?_)
              · have : (x1 : Int32).toInt = (6) := congrArg Int32.toInt h_16
                have hfu : ((hy_fu : Nat) : Int) = 5000 := rfl
                refine s_fX10_count_114 (fun j h => ra j (hs_inc (by decide) h)) (fun j h => ri j (hs_inc (by decide) h))  (fun τ_17 v_18 Iτ_17  => ?_)  hy_fu σ1_1 (0 : Int32) (0 : Int32) Iσ1_1 (show 0 ≤ (0) by omega) (show (0) ≤ 60 by omega)  (show 60 - (0) < ((hy_fu : Nat) : Int) by rw [hfu]; omega)
                have : (-2147483648 : Int) ≤ (τ_17.2 0).toInt ∧ (τ_17.2 0).toInt ≤ 2147483647 := Iτ_17.2.1 0
                have : (0 : Int) ≤ (τ_17.2 1).toInt ∧ (τ_17.2 1).toInt ≤ 8 := Iτ_17.2.1 1
                have : (0 : Int) ≤ (τ_17.2 2).toInt ∧ (τ_17.2 2).toInt ≤ 60 := Iτ_17.2.1 2
                have : (0 : Int) ≤ (τ_17.2 9).toInt ∧ (τ_17.2 9).toInt ≤ 60 := Iτ_17.2.1 9
                have : (0 : Int) ≤ (τ_17.2 10).toInt ∧ (τ_17.2 10).toInt ≤ 60 := Iτ_17.2.1 10
                have : (-2147483648 : Int) ≤ (τ_17.2 11).toInt ∧ (τ_17.2 11).toInt ≤ 2147483647 := Iτ_17.2.1 11
                exact (hQ τ_17 (v_18 : Int32) Iτ_17 )
              · have : ¬ (x1 : Int32).toInt = (6) := fun z => h_16 (Int32.toInt_inj.mp z)
                refine hs_ite (fun h_19 => ?_) (fun h_19 => ?_)
                · have : (x1 : Int32).toInt = (7) := congrArg Int32.toInt h_19
                  exact hs_some (hQ σ1_1 ((σ1_1.2 9) : Int32) Iσ1_1 )
                · have : ¬ (x1 : Int32).toInt = (7) := fun z => h_19 (Int32.toInt_inj.mp z)
                  refine hs_ite (fun h_20 => ?_) (fun h_20 => ?_)
                  · have : (x1 : Int32).toInt = (8) := congrArg Int32.toInt h_20
                    exact hs_some (hQ σ1_1 ((σ1_1.2 10) : Int32) Iσ1_1 )
                  · have : ¬ (x1 : Int32).toInt = (8) := fun z => h_20 (Int32.toInt_inj.mp z)
                    refine hs_ite (fun h_21 => ?_) (fun h_21 => ?_)
                    · have : (x1 : Int32).toInt = (9) := congrArg Int32.toInt h_21
                      exact hs_some (hQ σ1_1 ((σ1_1.2 11) : Int32) Iσ1_1 )
                    · have : ¬ (x1 : Int32).toInt = (9) := fun z => h_21 (Int32.toInt_inj.mp z)
                      exact hs_some (hQ σ1_1 ((-1) : Int32) Iσ1_1 )
theorem s_fX10_tallest_160 {R : hy_S → Prop} (ra : ∀ j, j ∈ ([12] : List Nat) → ∀ (τ : hy_S) (g : Nat → Int32), R τ → R (hy_sc τ j g)) (ri : ∀ j, j ∈ ([] : List Nat) → ∀ (τ : hy_S) (v : Int32), R τ → R (hy_si τ j v)) (a : Int) (d : Int) {k92 : hy_S → Int32 → Int32 → Int32 → Option (hy_S × Int32)} {Q : hy_S × Int32 → Prop} (hQ : ∀ (σ9 : hy_S) (v9 : Int32), hm_I R σ9 → Q (σ9, v9)) (hk92 : ∀ (σ : hy_S) (y2 : Int32) (y3 : Int32) (y4 : Int32), hm_I R σ → y2.toInt = a → y4.toInt = d + 1 → hs_ok (k92 σ y2 y3 y4) Q) : ∀ (n : Nat) (σ : hy_S) (x2 : Int32) (x3 : Int32) (x4 : Int32) (x5 : Int32) (x6 : Int32), hm_I R σ → 0 ≤ x2.toInt → x2.toInt ≤ 12 → 1 ≤ x4.toInt → x4.toInt < 4096 → 0 ≤ x6.toInt → x6.toInt ≤ 12 → x2.toInt = a → x4.toInt = d → 12 - x6.toInt < (n : Int) → hs_ok (fX10_tallest_160 k92 n σ x2 x3 x4 x5 x6) Q := by
  intro n
  induction n with
  | zero =>
    intro σ x2 x3 x4 x5 x6 I p0 p1 p2 p3 p4 p5 p6 p7  hm
    exact absurd hm (by omega)
  | succ n ih =>
    intro σ x2 x3 x4 x5 x6 I p0 p1 p2 p3 p4 p5 p6 p7  hm
    unfold fX10_tallest_160
    refine hs_ite (fun h_1 => ?_) (fun h_1 => ?_)
    · have : (x2 : Int32).toInt ≤ (x6 : Int32).toInt := Int32.le_iff_toInt_le.mp h_1
      refine hs_ga (j := 12) I (by omega) (by omega) (fun v2_2 ev2_2 (bv2_2 : (-2147483648 : Int) ≤ v2_2.toInt ∧ v2_2.toInt ≤ 2147483647) => ?_)
      refine hs_ite (fun h_3 => ?_) (fun h_3 => ?_)
      · have : (v2_2 : Int32).toInt = (0) := congrArg Int32.toInt h_3
        unfold fX10_tallest_262
        obtain ⟨e_4, he_4⟩ : ∃ e9 : Int32, e9 = (x4 + 1) := ⟨_, rfl⟩
        try have : e_4.toInt = (x4 : Int32).toInt + (1) := by rw [he_4]; exact hs_addk (1) rfl (by omega) (by omega)
        try rw [← he_4]
        exact hk92 σ (x2 : Int32) (x3 : Int32) (e_4 : Int32) I (show (x2 : Int32).toInt = a by omega) (show (e_4 : Int32).toInt = d + 1 by omega)
      · have : ¬ (v2_2 : Int32).toInt = (0) := fun z => h_3 (Int32.toInt_inj.mp z)
        refine hs_bd (s_fJ6_bitCount_0f7a4 σ x4 I  (fun v7_5  => ?_))
        unfold fX10_tallest_262
        obtain ⟨e_6, he_6⟩ : ∃ e9 : Int32, e9 = (if (x3 < v7_5) then v7_5 else x3) := ⟨_, rfl⟩
        have : e_6.toInt = (v7_5 : Int32).toInt ∨ e_6.toInt = (x3 : Int32).toInt := by rw [he_6]; split <;> first | exact Or.inl rfl | exact Or.inr rfl
        try rw [← he_6]
        obtain ⟨e_7, he_7⟩ : ∃ e9 : Int32, e9 = (x4 + 1) := ⟨_, rfl⟩
        try have : e_7.toInt = (x4 : Int32).toInt + (1) := by rw [he_7]; exact hs_addk (1) rfl (by omega) (by omega)
        try rw [← he_7]
        exact hk92 σ (x2 : Int32) (e_6 : Int32) (e_7 : Int32) I (show (x2 : Int32).toInt = a by omega) (show (e_7 : Int32).toInt = d + 1 by omega)
    · have : ¬ (x2 : Int32).toInt ≤ (x6 : Int32).toInt := fun z => h_1 (Int32.le_iff_toInt_le.mpr z)
      refine hs_ite (fun h_8 => ?_) (fun h_8 => ?_)
      · skip
        obtain ⟨e_9, he_9⟩ : ∃ e9 : Int32, e9 = (x4 &&& ((1 <<< (x6 &&& 31)) ^^^ (-1))) := ⟨_, rfl⟩
        try have : 0 ≤ e_9.toInt ∧ e_9.toInt ≤ (x4 : Int32).toInt := by rw [he_9]; exact hs_and (by omega)
        try rw [← he_9]
        refine hs_ga (j := 12) I (by omega) (by omega) (fun v12_10 ev12_10 (bv12_10 : (-2147483648 : Int) ≤ v12_10.toInt ∧ v12_10.toInt ≤ 2147483647) => ?_)
        refine hs_ite (fun h_11 => ?_) (fun h_11 => ?_)
        · have : (v12_10 : Int32).toInt = (0) := congrArg Int32.toInt h_11
          unfold fX10_tallest_236
          obtain ⟨e_12, he_12⟩ : ∃ e9 : Int32, e9 = (x6 + 1) := ⟨_, rfl⟩
          try have : e_12.toInt = (x6 : Int32).toInt + (1) := by rw [he_12]; exact hs_addk (1) rfl (by omega) (by omega)
          try rw [← he_12]
          exact ih σ (x2 : Int32) (x3 : Int32) (x4 : Int32) (x5 : Int32) (e_12 : Int32) I (show 0 ≤ (x2 : Int32).toInt by omega) (show (x2 : Int32).toInt ≤ 12 by omega) (show 1 ≤ (x4 : Int32).toInt by omega) (show (x4 : Int32).toInt < 4096 by omega) (show 0 ≤ (e_12 : Int32).toInt by omega) (show (e_12 : Int32).toInt ≤ 12 by omega) (show (x2 : Int32).toInt = a by omega) (show (x4 : Int32).toInt = d by omega)  (by omega)
        · have : ¬ (v12_10 : Int32).toInt = (0) := fun z => h_11 (Int32.toInt_inj.mp z)
          refine hs_ga (j := 13) I (by omega) (by omega) (fun v16_13 ev16_13 (bv16_13 : (0 : Int) ≤ v16_13.toInt ∧ v16_13.toInt ≤ 59) => ?_)
          refine hs_bd (s_fX10_weight σ v16_13 I (show 0 ≤ (v16_13 : Int32).toInt by omega) (show (v16_13 : Int32).toInt < 60 by omega) (fun v20_14  => ?_))
          refine hs_ga (j := 13) I (by omega) (by omega) (fun v22_15 ev22_15 (bv22_15 : (0 : Int) ≤ v22_15.toInt ∧ v22_15.toInt ≤ 59) => ?_)
          refine hs_ga (j := 3) I (by omega) (by omega) (fun v25_16 ev25_16 (bv25_16 : (0 : Int) ≤ v25_16.toInt ∧ v25_16.toInt ≤ 7) => ?_)
          refine hs_ga (j := 2) I (by omega) (by omega) (fun v28_17 ev28_17 (bv28_17 : (-2147483648 : Int) ≤ v28_17.toInt ∧ v28_17.toInt ≤ 2147483647) => ?_)
          obtain ⟨e_18, he_18⟩ : ∃ e9 : Int32, e9 = (x5 - v20_14) := ⟨_, rfl⟩
          try have : e_18.toInt = (x5 : Int32).toInt - (v20_14 : Int32).toInt := by rw [he_18]; exact hs_sub (by omega) (by omega)
          try rw [← he_18]
          refine hs_ite (fun h_19 => ?_) (fun h_19 => ?_)
          · have : (v28_17 : Int32).toInt < (e_18 : Int32).toInt := Int32.lt_iff_toInt_lt.mp h_19
            unfold fX10_tallest_236
            obtain ⟨e_20, he_20⟩ : ∃ e9 : Int32, e9 = (x6 + 1) := ⟨_, rfl⟩
            try have : e_20.toInt = (x6 : Int32).toInt + (1) := by rw [he_20]; exact hs_addk (1) rfl (by omega) (by omega)
            try rw [← he_20]
            exact ih σ (x2 : Int32) (x3 : Int32) (x4 : Int32) (x5 : Int32) (e_20 : Int32) I (show 0 ≤ (x2 : Int32).toInt by omega) (show (x2 : Int32).toInt ≤ 12 by omega) (show 1 ≤ (x4 : Int32).toInt by omega) (show (x4 : Int32).toInt < 4096 by omega) (show 0 ≤ (e_20 : Int32).toInt by omega) (show (e_20 : Int32).toInt ≤ 12 by omega) (show (x2 : Int32).toInt = a by omega) (show (x4 : Int32).toInt = d by omega)  (by omega)
          · have : ¬ (v28_17 : Int32).toInt < (e_18 : Int32).toInt := fun z => h_19 (Int32.lt_iff_toInt_lt.mpr z)
            refine hs_pa (idx := x4) (v := _) I (by omega) (by omega) (hs_any _) (fun r => ⟨hm_Ra (by decide) r.1, ra 12 (by decide) _ _ r.2⟩) (fun σ32_21 eσ32_21 Iσ32_21 => ?_)
            unfold fX10_tallest_236
            obtain ⟨e_22, he_22⟩ : ∃ e9 : Int32, e9 = (x6 + 1) := ⟨_, rfl⟩
            try have : e_22.toInt = (x6 : Int32).toInt + (1) := by rw [he_22]; exact hs_addk (1) rfl (by omega) (by omega)
            try rw [← he_22]
            exact ih σ32_21 (x2 : Int32) (x3 : Int32) (x4 : Int32) (x5 : Int32) (e_22 : Int32) Iσ32_21 (show 0 ≤ (x2 : Int32).toInt by omega) (show (x2 : Int32).toInt ≤ 12 by omega) (show 1 ≤ (x4 : Int32).toInt by omega) (show (x4 : Int32).toInt < 4096 by omega) (show 0 ≤ (e_22 : Int32).toInt by omega) (show (e_22 : Int32).toInt ≤ 12 by omega) (show (x2 : Int32).toInt = a by omega) (show (x4 : Int32).toInt = d by omega)  (by omega)
      · skip
        unfold fX10_tallest_236
        obtain ⟨e_23, he_23⟩ : ∃ e9 : Int32, e9 = (x6 + 1) := ⟨_, rfl⟩
        try have : e_23.toInt = (x6 : Int32).toInt + (1) := by rw [he_23]; exact hs_addk (1) rfl (by omega) (by omega)
        try rw [← he_23]
        exact ih σ (x2 : Int32) (x3 : Int32) (x4 : Int32) (x5 : Int32) (e_23 : Int32) I (show 0 ≤ (x2 : Int32).toInt by omega) (show (x2 : Int32).toInt ≤ 12 by omega) (show 1 ≤ (x4 : Int32).toInt by omega) (show (x4 : Int32).toInt < 4096 by omega) (show 0 ≤ (e_23 : Int32).toInt by omega) (show (e_23 : Int32).toInt ≤ 12 by omega) (show (x2 : Int32).toInt = a by omega) (show (x4 : Int32).toInt = d by omega)  (by omega)
theorem s_fX10_tallest_106 {R : hy_S → Prop} (ra : ∀ j, j ∈ ([12] : List Nat) → ∀ (τ : hy_S) (g : Nat → Int32), R τ → R (hy_sc τ j g)) (ri : ∀ j, j ∈ ([] : List Nat) → ∀ (τ : hy_S) (v : Int32), R τ → R (hy_si τ j v)) (a : Int) (d : Int) {k92 : hy_S → Int32 → Int32 → Int32 → Option (hy_S × Int32)} {Q : hy_S × Int32 → Prop} (hQ : ∀ (σ9 : hy_S) (v9 : Int32), hm_I R σ9 → Q (σ9, v9)) (hk92 : ∀ (σ : hy_S) (y2 : Int32) (y3 : Int32) (y4 : Int32), hm_I R σ → y2.toInt = a → y4.toInt = d + 1 → hs_ok (k92 σ y2 y3 y4) Q) : ∀ (n : Nat) (σ : hy_S) (x2 : Int32) (x3 : Int32) (x4 : Int32) (x5 : Int32) (x6 : Int32), hm_I R σ → 0 ≤ x2.toInt → x2.toInt ≤ 12 → 1 ≤ x4.toInt → x4.toInt < 4096 → 0 ≤ x6.toInt → x6.toInt ≤ 12 → x2.toInt = a → x4.toInt = d → 12 - x6.toInt < (n : Int) → hs_ok (fX10_tallest_106 k92 n σ x2 x3 x4 x5 x6) Q := by
  intro n
  induction n with
  | zero =>
    intro σ x2 x3 x4 x5 x6 I p0 p1 p2 p3 p4 p5 p6 p7  hm
    exact absurd hm (by omega)
  | succ n ih =>
    intro σ x2 x3 x4 x5 x6 I p0 p1 p2 p3 p4 p5 p6 p7  hm
    unfold fX10_tallest_106
    refine hs_ite (fun h_1 => ?_) (fun h_1 => ?_)
    · have : (x2 : Int32).toInt ≤ (x6 : Int32).toInt := Int32.le_iff_toInt_le.mp h_1
      refine hs_pa (idx := x4) (v := _) I (by omega) (by omega) (hs_any _) (fun r => ⟨hm_Ra (by decide) r.1, ra 12 (by decide) _ _ r.2⟩) (fun σ2_2 eσ2_2 Iσ2_2 => ?_)
      have hfu : ((hy_fu : Nat) : Int) = 5000 := rfl
      refine s_fX10_tallest_160 (fun j h => ra j (hs_inc (by decide) h)) (fun j h => ri j (hs_inc (by decide) h)) ((x2 : Int32).toInt) ((x4 : Int32).toInt) hQ (fun τ_9 y_3 y_4 y_5 I_6 h_7 h_8 => hk92 τ_9 y_3 y_4 y_5 I_6 (by omega) (by omega)) hy_fu σ2_2 (x2 : Int32) (x3 : Int32) (x4 : Int32) (x5 : Int32) (0 : Int32) Iσ2_2 (show 0 ≤ (x2 : Int32).toInt by omega) (show (x2 : Int32).toInt ≤ 12 by omega) (show 1 ≤ (x4 : Int32).toInt by omega) (show (x4 : Int32).toInt < 4096 by omega) (show 0 ≤ (0) by omega) (show (0) ≤ 12 by omega) (show (x2 : Int32).toInt = ((x2 : Int32).toInt) by omega) (show (x4 : Int32).toInt = ((x4 : Int32).toInt) by omega)  (show 12 - (0) < ((hy_fu : Nat) : Int) by rw [hfu]; omega)
    · have : ¬ (x2 : Int32).toInt ≤ (x6 : Int32).toInt := fun z => h_1 (Int32.le_iff_toInt_le.mpr z)
      refine hs_ite (fun h_10 => ?_) (fun h_10 => ?_)
      · skip
        refine hs_ga (j := 13) I (by omega) (by omega) (fun v6_11 ev6_11 (bv6_11 : (0 : Int) ≤ v6_11.toInt ∧ v6_11.toInt ≤ 59) => ?_)
        refine hs_bd (s_fX10_weight σ v6_11 I (show 0 ≤ (v6_11 : Int32).toInt by omega) (show (v6_11 : Int32).toInt < 60 by omega) (fun v10_12  => ?_))
        unfold fX10_tallest_140
        obtain ⟨e_13, he_13⟩ : ∃ e9 : Int32, e9 = (x5 + v10_12) := ⟨_, rfl⟩
        try have : e_13.toInt = (x5 : Int32).toInt + (v10_12 : Int32).toInt := by rw [he_13]; exact hs_add (by omega) (by omega)
        try rw [← he_13]
        obtain ⟨e_14, he_14⟩ : ∃ e9 : Int32, e9 = (x6 + 1) := ⟨_, rfl⟩
        try have : e_14.toInt = (x6 : Int32).toInt + (1) := by rw [he_14]; exact hs_addk (1) rfl (by omega) (by omega)
        try rw [← he_14]
        exact ih σ (x2 : Int32) (x3 : Int32) (x4 : Int32) (e_13 : Int32) (e_14 : Int32) I (show 0 ≤ (x2 : Int32).toInt by omega) (show (x2 : Int32).toInt ≤ 12 by omega) (show 1 ≤ (x4 : Int32).toInt by omega) (show (x4 : Int32).toInt < 4096 by omega) (show 0 ≤ (e_14 : Int32).toInt by omega) (show (e_14 : Int32).toInt ≤ 12 by omega) (show (x2 : Int32).toInt = a by omega) (show (x4 : Int32).toInt = d by omega)  (by omega)
      · skip
        unfold fX10_tallest_140
        obtain ⟨e_15, he_15⟩ : ∃ e9 : Int32, e9 = (x5 + 0) := ⟨_, rfl⟩
        try have : e_15.toInt = (x5 : Int32).toInt + (0) := by rw [he_15]; exact hs_addk (0) rfl (by omega) (by omega)
        try rw [← he_15]
        obtain ⟨e_16, he_16⟩ : ∃ e9 : Int32, e9 = (x6 + 1) := ⟨_, rfl⟩
        try have : e_16.toInt = (x6 : Int32).toInt + (1) := by rw [he_16]; exact hs_addk (1) rfl (by omega) (by omega)
        try rw [← he_16]
        exact ih σ (x2 : Int32) (x3 : Int32) (x4 : Int32) (e_15 : Int32) (e_16 : Int32) I (show 0 ≤ (x2 : Int32).toInt by omega) (show (x2 : Int32).toInt ≤ 12 by omega) (show 1 ≤ (x4 : Int32).toInt by omega) (show (x4 : Int32).toInt < 4096 by omega) (show 0 ≤ (e_16 : Int32).toInt by omega) (show (e_16 : Int32).toInt ≤ 12 by omega) (show (x2 : Int32).toInt = a by omega) (show (x4 : Int32).toInt = d by omega)  (by omega)
theorem s_fX10_tallest_92 {R : hy_S → Prop} (ra : ∀ j, j ∈ ([12] : List Nat) → ∀ (τ : hy_S) (g : Nat → Int32), R τ → R (hy_sc τ j g)) (ri : ∀ j, j ∈ ([] : List Nat) → ∀ (τ : hy_S) (v : Int32), R τ → R (hy_si τ j v)) {Q : hy_S × Int32 → Prop} (hQ : ∀ (σ9 : hy_S) (v9 : Int32), hm_I R σ9 → Q (σ9, v9)) : ∀ (n : Nat) (σ : hy_S) (x2 : Int32) (x3 : Int32) (x4 : Int32), hm_I R σ → 0 ≤ x2.toInt → x2.toInt ≤ 12 → 1 ≤ x4.toInt → x4.toInt ≤ 4096 → 4096 - x4.toInt < (n : Int) → hs_ok (fX10_tallest_92 n σ x2 x3 x4) Q := by
  intro n
  induction n with
  | zero =>
    intro σ x2 x3 x4 I p0 p1 p2 p3  hm
    exact absurd hm (by omega)
  | succ n ih =>
    intro σ x2 x3 x4 I p0 p1 p2 p3  hm
    unfold fX10_tallest_92
    obtain ⟨e_1, he_1⟩ : ∃ e9 : Int32, e9 = (1 <<< (x2 &&& 31)) := ⟨_, rfl⟩
    try have : 1 ≤ e_1.toInt ∧ e_1.toInt ≤ 4096 := by rw [he_1]; exact hs_shl (by omega) (by omega)
    try rw [← he_1]
    refine hs_ite (fun h_2 => ?_) (fun h_2 => ?_)
    · have : (e_1 : Int32).toInt ≤ (x4 : Int32).toInt := Int32.le_iff_toInt_le.mp h_2
      exact hs_some (hQ σ (x3 : Int32) I )
    · have : ¬ (e_1 : Int32).toInt ≤ (x4 : Int32).toInt := fun z => h_2 (Int32.le_iff_toInt_le.mpr z)
      have hfu : ((hy_fu : Nat) : Int) = 5000 := rfl
      refine s_fX10_tallest_106 (fun j h => ra j (hs_inc (by decide) h)) (fun j h => ri j (hs_inc (by decide) h)) ((x2 : Int32).toInt) ((x4 : Int32).toInt) hQ (fun τ_9 y_3 y_4 y_5 I_6 h_7 h_8 => by exact ih τ_9 y_3 y_4 y_5 I_6 (by omega) (by omega) (by omega) (by omega) (by omega)) hy_fu σ (x2 : Int32) (x3 : Int32) (x4 : Int32) (0 : Int32) (0 : Int32) I (show 0 ≤ (x2 : Int32).toInt by omega) (show (x2 : Int32).toInt ≤ 12 by omega) (show 1 ≤ (x4 : Int32).toInt by omega) (show (x4 : Int32).toInt < 4096 by omega) (show 0 ≤ (0) by omega) (show (0) ≤ 12 by omega) (show (x2 : Int32).toInt = ((x2 : Int32).toInt) by omega) (show (x4 : Int32).toInt = ((x4 : Int32).toInt) by omega)  (show 12 - (0) < ((hy_fu : Nat) : Int) by rw [hfu]; omega)
theorem s_fX10_tallest_9 {R : hy_S → Prop} (ra : ∀ j, j ∈ ([12, 13] : List Nat) → ∀ (τ : hy_S) (g : Nat → Int32), R τ → R (hy_sc τ j g)) (ri : ∀ j, j ∈ ([0] : List Nat) → ∀ (τ : hy_S) (v : Int32), R τ → R (hy_si τ j v)) {Q : hy_S × Int32 → Prop} (hQ : ∀ (σ9 : hy_S) (v9 : Int32), hm_I R σ9 → Q (σ9, v9)) : ∀ (n : Nat) (σ : hy_S) (x1 : Int32) (x2 : Int32) (x3 : Int32), hm_I R σ → 0 ≤ x2.toInt → x2.toInt ≤ 12 → 0 ≤ x3.toInt → x3.toInt ≤ 20 → 20 - x3.toInt < (n : Int) → hs_ok (fX10_tallest_9 n σ x1 x2 x3) Q := by
  intro n
  induction n with
  | zero =>
    intro σ x1 x2 x3 I p0 p1 p2 p3  hm
    have : (0 : Int) ≤ (σ.2 2).toInt ∧ (σ.2 2).toInt ≤ 60 := I.2.1 2
    exact absurd hm (by omega)
  | succ n ih =>
    intro σ x1 x2 x3 I p0 p1 p2 p3  hm
    unfold fX10_tallest_9
    have : (0 : Int) ≤ (σ.2 2).toInt ∧ (σ.2 2).toInt ≤ 60 := I.2.1 2
    refine hs_ite (fun h_1 => ?_) (fun h_1 => ?_)
    · have : (20) ≤ (x3 : Int32).toInt := Int32.le_iff_toInt_le.mp h_1
      unfold fX10_tallest_80
      refine hs_pa (idx := 0) (v := _) I (by decide) (by decide) (hs_any _) (fun r => ⟨hm_Ra (by decide) r.1, ra 12 (by decide) _ _ r.2⟩) (fun σ1_2 eσ1_2 Iσ1_2 => ?_)
      have : (σ1_2.2 2).toInt = (σ.2 2).toInt := by rw [eσ1_2]; rfl
      have : (0 : Int) ≤ (σ1_2.2 2).toInt ∧ (σ1_2.2 2).toInt ≤ 60 := Iσ1_2.2.1 2
      have hfu : ((hy_fu : Nat) : Int) = 5000 := rfl
      refine s_fX10_tallest_92 (fun j h => ra j (hs_inc (by decide) h)) (fun j h => ri j (hs_inc (by decide) h))  hQ  hy_fu σ1_2 (x2 : Int32) (0 : Int32) (1 : Int32) Iσ1_2 (show 0 ≤ (x2 : Int32).toInt by omega) (show (x2 : Int32).toInt ≤ 12 by omega) (show 1 ≤ (1) by omega) (show (1) ≤ 4096 by omega)  (show 4096 - (1) < ((hy_fu : Nat) : Int) by rw [hfu]; omega)
    · have : ¬ (20) ≤ (x3 : Int32).toInt := fun z => h_1 (Int32.le_iff_toInt_le.mpr z)
      refine hs_ite (fun h_3 => ?_) (fun h_3 => ?_)
      · have : ((σ.2 2) : Int32).toInt ≤ (x3 : Int32).toInt := Int32.le_iff_toInt_le.mp h_3
        unfold fX10_tallest_80
        refine hs_pa (idx := 0) (v := _) I (by decide) (by decide) (hs_any _) (fun r => ⟨hm_Ra (by decide) r.1, ra 12 (by decide) _ _ r.2⟩) (fun σ1_4 eσ1_4 Iσ1_4 => ?_)
        have : (σ1_4.2 2).toInt = (σ.2 2).toInt := by rw [eσ1_4]; rfl
        have : (0 : Int) ≤ (σ1_4.2 2).toInt ∧ (σ1_4.2 2).toInt ≤ 60 := Iσ1_4.2.1 2
        have hfu : ((hy_fu : Nat) : Int) = 5000 := rfl
        refine s_fX10_tallest_92 (fun j h => ra j (hs_inc (by decide) h)) (fun j h => ri j (hs_inc (by decide) h))  hQ  hy_fu σ1_4 (x2 : Int32) (0 : Int32) (1 : Int32) Iσ1_4 (show 0 ≤ (x2 : Int32).toInt by omega) (show (x2 : Int32).toInt ≤ 12 by omega) (show 1 ≤ (1) by omega) (show (1) ≤ 4096 by omega)  (show 4096 - (1) < ((hy_fu : Nat) : Int) by rw [hfu]; omega)
      · have : ¬ ((σ.2 2) : Int32).toInt ≤ (x3 : Int32).toInt := fun z => h_3 (Int32.le_iff_toInt_le.mpr z)
        refine hs_ite (fun h_5 => ?_) (fun h_5 => ?_)
        · skip
          unfold fX10_tallest_74
          obtain ⟨e_6, he_6⟩ : ∃ e9 : Int32, e9 = (x3 + 1) := ⟨_, rfl⟩
          try have : e_6.toInt = (x3 : Int32).toInt + (1) := by rw [he_6]; exact hs_addk (1) rfl (by omega) (by omega)
          try rw [← he_6]
          exact ih σ (x1 : Int32) (x2 : Int32) (e_6 : Int32) I (show 0 ≤ (x2 : Int32).toInt by omega) (show (x2 : Int32).toInt ≤ 12 by omega) (show 0 ≤ (e_6 : Int32).toInt by omega) (show (e_6 : Int32).toInt ≤ 20 by omega)  (by omega)
        · skip
          refine hs_ga (j := 7) I (by omega) (by omega) (fun v4_7 ev4_7 (bv4_7 : (-2147483648 : Int) ≤ v4_7.toInt ∧ v4_7.toInt ≤ 2147483647) => ?_)
          refine hs_ite (fun h_8 => ?_) (fun h_8 => ?_)
          · have : (v4_7 : Int32).toInt = (0) := congrArg Int32.toInt h_8
            refine hs_ite (fun h_9 => ?_) (fun h_9 => ?_)
            · have : (x2 : Int32).toInt = (12) := congrArg Int32.toInt h_9
              unfold fX10_tallest_55
              refine hs_th1 I (hs_any _) (fun r => ⟨hm_Ri (by decide) r.1, ri 0 (by decide) _ _ r.2⟩) (fun σ1_10 eσ1_10 Iσ1_10 => ?_)
              have : (σ1_10.2 2).toInt = (σ.2 2).toInt := by rw [eσ1_10]; rfl
              have : (0 : Int) ≤ (σ1_10.2 2).toInt ∧ (σ1_10.2 2).toInt ≤ 60 := Iσ1_10.2.1 2
              refine hs_ite (fun h_11 => ?_) (fun h_11 => ?_)
              · exact absurd h_11 (by decide)
              · skip
                exact hs_some (hQ σ1_10 (0 : Int32) Iσ1_10 )
            · have : ¬ (x2 : Int32).toInt = (12) := fun z => h_9 (Int32.toInt_inj.mp z)
              unfold fX10_tallest_55
              refine hs_th0 ?_
              refine hs_ite (fun h_12 => ?_) (fun h_12 => ?_)
              · skip
                refine hs_pa (idx := x2) (v := x3) I (by omega) (by omega) ⟨(by omega : (0 : Int) ≤ (x3 : Int32).toInt), (by omega : (x3 : Int32).toInt ≤ 59)⟩ (fun r => ⟨hm_Ra (by decide) r.1, ra 13 (by decide) _ _ r.2⟩) (fun σ5_13 eσ5_13 Iσ5_13 => ?_)
                have : (σ5_13.2 2).toInt = (σ.2 2).toInt := by rw [eσ5_13]; rfl
                have : (0 : Int) ≤ (σ5_13.2 2).toInt ∧ (σ5_13.2 2).toInt ≤ 60 := Iσ5_13.2.1 2
                unfold fX10_tallest_74
                obtain ⟨e_14, he_14⟩ : ∃ e9 : Int32, e9 = (x2 + 1) := ⟨_, rfl⟩
                try have : e_14.toInt = (x2 : Int32).toInt + (1) := by rw [he_14]; exact hs_addk (1) rfl (by omega) (by omega)
                try rw [← he_14]
                obtain ⟨e_15, he_15⟩ : ∃ e9 : Int32, e9 = (x3 + 1) := ⟨_, rfl⟩
                try have : e_15.toInt = (x3 : Int32).toInt + (1) := by rw [he_15]; exact hs_addk (1) rfl (by omega) (by omega)
                try rw [← he_15]
                exact ih σ5_13 (x1 : Int32) (e_14 : Int32) (e_15 : Int32) Iσ5_13 (show 0 ≤ (e_14 : Int32).toInt by omega) (show (e_14 : Int32).toInt ≤ 12 by omega) (show 0 ≤ (e_15 : Int32).toInt by omega) (show (e_15 : Int32).toInt ≤ 20 by omega)  (by omega)
              · exact absurd (by decide) h_12
          · have : ¬ (v4_7 : Int32).toInt = (0) := fun z => h_8 (Int32.toInt_inj.mp z)
            unfold fX10_tallest_74
            obtain ⟨e_16, he_16⟩ : ∃ e9 : Int32, e9 = (x3 + 1) := ⟨_, rfl⟩
            try have : e_16.toInt = (x3 : Int32).toInt + (1) := by rw [he_16]; exact hs_addk (1) rfl (by omega) (by omega)
            try rw [← he_16]
            exact ih σ (x1 : Int32) (x2 : Int32) (e_16 : Int32) I (show 0 ≤ (x2 : Int32).toInt by omega) (show (x2 : Int32).toInt ≤ 12 by omega) (show 0 ≤ (e_16 : Int32).toInt by omega) (show (e_16 : Int32).toInt ≤ 20 by omega)  (by omega)
theorem s_fX10_tallest {R : hy_S → Prop} (ra : ∀ j, j ∈ ([12, 13] : List Nat) → ∀ (τ : hy_S) (g : Nat → Int32), R τ → R (hy_sc τ j g)) (ri : ∀ j, j ∈ ([0] : List Nat) → ∀ (τ : hy_S) (v : Int32), R τ → R (hy_si τ j v)) (σ : hy_S) (x1 : Int32) {P : hy_S → Int32 → Prop} (I : hm_I R σ) (hQ : ∀ (σ9 : hy_S) (v9 : Int32), hm_I R σ9 → P σ9 v9) : hs_ok2 (fX10_tallest σ x1) P := by
  unfold fX10_tallest
  show hs_ok _ _
  have : (-2147483648 : Int) ≤ (σ.2 0).toInt ∧ (σ.2 0).toInt ≤ 2147483647 := I.2.1 0
  refine hs_pf (v := 0) I (hs_any _) (fun r => ⟨hm_Ri (by decide) r.1, ri 0 (by decide) _ _ r.2⟩) (fun σ1_1 eσ1_1 Iσ1_1 => ?_)
  have : (σ1_1.2 0).toInt = (0) := by rw [eσ1_1]; rfl
  have : (-2147483648 : Int) ≤ (σ1_1.2 0).toInt ∧ (σ1_1.2 0).toInt ≤ 2147483647 := Iσ1_1.2.1 0
  have hfu : ((hy_fu : Nat) : Int) = 5000 := rfl
  refine s_fX10_tallest_9 (fun j h => ra j (hs_inc (by decide) h)) (fun j h => ri j (hs_inc (by decide) h))  (fun τ_2 v_3 Iτ_2  => ?_)  hy_fu σ1_1 (x1 : Int32) (0 : Int32) (0 : Int32) Iσ1_1 (show 0 ≤ (0) by omega) (show (0) ≤ 12 by omega) (show 0 ≤ (0) by omega) (show (0) ≤ 20 by omega)  (show 20 - (0) < ((hy_fu : Nat) : Int) by rw [hfu]; omega)
  have : (-2147483648 : Int) ≤ (τ_2.2 0).toInt ∧ (τ_2.2 0).toInt ≤ 2147483647 := Iτ_2.2.1 0
  exact (hQ τ_2 (v_3 : Int32) Iτ_2 )
theorem s_fX10_word {R : hy_S → Prop} (σ : hy_S) (x0 : Int32) {P : hy_S → Int32 → Prop} (I : hm_I R σ) (hQ : ∀ v9 : Int32, 0 ≤ v9.toInt → v9.toInt ≤ 4 → P σ v9) : hs_ok2 (fX10_word σ x0) P := by
  unfold fX10_word
  show hs_ok _ _
  refine hs_ite (fun h_1 => ?_) (fun h_1 => ?_)
  · have : (x0 : Int32).toInt = (0) := congrArg Int32.toInt h_1
    exact hs_some (hQ (0 : Int32) (show 0 ≤ (0) by omega) (show (0) ≤ 4 by omega))
  · have : ¬ (x0 : Int32).toInt = (0) := fun z => h_1 (Int32.toInt_inj.mp z)
    refine hs_ite (fun h_2 => ?_) (fun h_2 => ?_)
    · have : (x0 : Int32).toInt = (1) := congrArg Int32.toInt h_2
      exact hs_some (hQ (1 : Int32) (show 0 ≤ (1) by omega) (show (1) ≤ 4 by omega))
    · have : ¬ (x0 : Int32).toInt = (1) := fun z => h_2 (Int32.toInt_inj.mp z)
      refine hs_ite (fun h_3 => ?_) (fun h_3 => ?_)
      · have : (x0 : Int32).toInt = (2) := congrArg Int32.toInt h_3
        exact hs_some (hQ (2 : Int32) (show 0 ≤ (2) by omega) (show (2) ≤ 4 by omega))
      · have : ¬ (x0 : Int32).toInt = (2) := fun z => h_3 (Int32.toInt_inj.mp z)
        refine hs_ite (fun h_4 => ?_) (fun h_4 => ?_)
        · have : (x0 : Int32).toInt = (3) := congrArg Int32.toInt h_4
          exact hs_some (hQ (3 : Int32) (show 0 ≤ (3) by omega) (show (3) ≤ 4 by omega))
        · have : ¬ (x0 : Int32).toInt = (3) := fun z => h_4 (Int32.toInt_inj.mp z)
          exact hs_some (hQ (4 : Int32) (show 0 ≤ (4) by omega) (show (4) ≤ 4 by omega))
theorem s_fX10_readNote_59 {R : hy_S → Prop} (ra : ∀ j, j ∈ ([19] : List Nat) → ∀ (τ : hy_S) (g : Nat → Int32), R τ → R (hy_sc τ j g)) (ri : ∀ j, j ∈ ([5] : List Nat) → ∀ (τ : hy_S) (v : Int32), R τ → R (hy_si τ j v)) (g : Int) (a : Int) (h : Int) {k7 : hy_S → Int32 → Option (hy_S × Int32)} {Q : hy_S × Int32 → Prop} (hQ : ∀ (σ9 : hy_S) (v9 : Int32), hm_I R σ9 → (σ9.2 4).toInt = h → Q (σ9, v9)) (hk7 : ∀ (σ : hy_S) (y1 : Int32), hm_I R σ → y1.toInt = a + 1 → (σ.2 6).toInt = g → (σ.2 5).toInt ≤ g → (σ.2 4).toInt = h → hs_ok (k7 σ y1) Q) : ∀ (n : Nat) (σ : hy_S) (x1 : Int32) (x2 : Int32), hm_I R σ → 0 ≤ x1.toInt → x1.toInt ≤ 4 → (σ.2 7).toInt ≤ (σ.2 5).toInt → (σ.2 5).toInt ≤ (σ.2 6).toInt → (σ.2 6).toInt = g → x1.toInt = a → (σ.2 4).toInt = h → (σ.2 6).toInt - (σ.2 5).toInt < (n : Int) → hs_ok (fX10_readNote_59 k7 n σ x1 x2) Q := by
  intro n
  induction n with
  | zero =>
    intro σ x1 x2 I p0 p1 p2 p3 p4 p5 p6  hm
    have : (0 : Int) ≤ (σ.2 4).toInt ∧ (σ.2 4).toInt ≤ 400 := I.2.1 4
    have : (0 : Int) ≤ (σ.2 5).toInt ∧ (σ.2 5).toInt ≤ 400 := I.2.1 5
    have : (0 : Int) ≤ (σ.2 6).toInt ∧ (σ.2 6).toInt ≤ 400 := I.2.1 6
    have : (0 : Int) ≤ (σ.2 7).toInt ∧ (σ.2 7).toInt ≤ 400 := I.2.1 7
    exact absurd hm (by omega)
  | succ n ih =>
    intro σ x1 x2 I p0 p1 p2 p3 p4 p5 p6  hm
    unfold fX10_readNote_59
    have : (0 : Int) ≤ (σ.2 4).toInt ∧ (σ.2 4).toInt ≤ 400 := I.2.1 4
    have : (0 : Int) ≤ (σ.2 5).toInt ∧ (σ.2 5).toInt ≤ 400 := I.2.1 5
    have : (0 : Int) ≤ (σ.2 6).toInt ∧ (σ.2 6).toInt ≤ 400 := I.2.1 6
    have : (0 : Int) ≤ (σ.2 7).toInt ∧ (σ.2 7).toInt ≤ 400 := I.2.1 7
    refine hs_bd (s_fX10_isAt σ (48 : Int32) (57 : Int32) I  (fun v2_1 (gv2_1_0 : 0 ≤ v2_1.toInt) (gv2_1_1 : v2_1.toInt ≤ 1) (gv2_1_2 : v2_1.toInt = 0 ∨ (σ.2 5).toInt < (σ.2 6).toInt) => ?_))
    refine hs_ite (fun h_2 => ?_) (fun h_2 => ?_)
    · have : (v2_1 : Int32).toInt = (0) := congrArg Int32.toInt h_2
      refine hs_ite (fun h_3 => ?_) (fun h_3 => ?_)
      · have : ((σ.2 5) : Int32).toInt = ((σ.2 7) : Int32).toInt := congrArg Int32.toInt h_3
        exact hs_some (hQ σ (0 : Int32) I (show (σ.2 4).toInt = h by omega))
      · have : ¬ ((σ.2 5) : Int32).toInt = ((σ.2 7) : Int32).toInt := fun z => h_3 (Int32.toInt_inj.mp z)
        obtain ⟨e_4, he_4⟩ : ∃ e9 : Int32, e9 = ((σ.2 5) - (σ.2 7)) := ⟨_, rfl⟩
        try have : e_4.toInt = ((σ.2 5) : Int32).toInt - ((σ.2 7) : Int32).toInt := by rw [he_4]; exact hs_sub (by omega) (by omega)
        try rw [← he_4]
        refine hs_ite (fun h_5 => ?_) (fun h_5 => ?_)
        · have : (e_4 : Int32).toInt ≤ (5) := Int32.le_iff_toInt_le.mp h_5
          refine hs_pa (idx := x1) (v := _) I (by omega) (by omega) (hs_any _) (fun r => ⟨hm_Ra (by decide) r.1, ra 19 (by decide) _ _ r.2⟩) (fun σ7_6 eσ7_6 Iσ7_6 => ?_)
          have : (σ7_6.2 4).toInt = (σ.2 4).toInt := by rw [eσ7_6]; rfl
          have : (σ7_6.2 5).toInt = (σ.2 5).toInt := by rw [eσ7_6]; rfl
          have : (σ7_6.2 6).toInt = (σ.2 6).toInt := by rw [eσ7_6]; rfl
          have : (σ7_6.2 7).toInt = (σ.2 7).toInt := by rw [eσ7_6]; rfl
          have : (0 : Int) ≤ (σ7_6.2 4).toInt ∧ (σ7_6.2 4).toInt ≤ 400 := Iσ7_6.2.1 4
          have : (0 : Int) ≤ (σ7_6.2 5).toInt ∧ (σ7_6.2 5).toInt ≤ 400 := Iσ7_6.2.1 5
          have : (0 : Int) ≤ (σ7_6.2 6).toInt ∧ (σ7_6.2 6).toInt ≤ 400 := Iσ7_6.2.1 6
          have : (0 : Int) ≤ (σ7_6.2 7).toInt ∧ (σ7_6.2 7).toInt ≤ 400 := Iσ7_6.2.1 7
          obtain ⟨e_7, he_7⟩ : ∃ e9 : Int32, e9 = (x1 + 1) := ⟨_, rfl⟩
          try have : e_7.toInt = (x1 : Int32).toInt + (1) := by rw [he_7]; exact hs_addk (1) rfl (by omega) (by omega)
          try rw [← he_7]
          exact hk7 σ7_6 (e_7 : Int32) Iσ7_6 (show (e_7 : Int32).toInt = a + 1 by omega) (show (σ7_6.2 6).toInt = g by omega) (show (σ7_6.2 5).toInt ≤ g by omega) (show (σ7_6.2 4).toInt = h by omega)
        · have : ¬ (e_4 : Int32).toInt ≤ (5) := fun z => h_5 (Int32.le_iff_toInt_le.mpr z)
          exact hs_some (hQ σ (0 : Int32) I (show (σ.2 4).toInt = h by omega))
    · have : ¬ (v2_1 : Int32).toInt = (0) := fun z => h_2 (Int32.toInt_inj.mp z)
      obtain ⟨e_8, he_8⟩ : ∃ e9 : Int32, e9 = ((σ.2 5) - (σ.2 7)) := ⟨_, rfl⟩
      try have : e_8.toInt = ((σ.2 5) : Int32).toInt - ((σ.2 7) : Int32).toInt := by rw [he_8]; exact hs_sub (by omega) (by omega)
      try rw [← he_8]
      refine hs_ite (fun h_9 => ?_) (fun h_9 => ?_)
      · have : (5) ≤ (e_8 : Int32).toInt := Int32.le_iff_toInt_le.mp h_9
        unfold fX10_readNote_104
        obtain ⟨e_10, he_10⟩ : ∃ e9 : Int32, e9 = ((σ.2 5) + 1) := ⟨_, rfl⟩
        try have : e_10.toInt = ((σ.2 5) : Int32).toInt + (1) := by rw [he_10]; exact hs_addk (1) rfl (by omega) (by omega)
        try rw [← he_10]
        refine hs_pf (v := e_10) I ⟨(by omega : (0 : Int) ≤ (e_10 : Int32).toInt), (by omega : (e_10 : Int32).toInt ≤ 400)⟩ (fun r => ⟨hm_Ri (by decide) r.1, ri 5 (by decide) _ _ r.2⟩) (fun σ1_11 eσ1_11 Iσ1_11 => ?_)
        have : (σ1_11.2 4).toInt = (σ.2 4).toInt := by rw [eσ1_11]; rfl
        have : (σ1_11.2 5).toInt = (e_10 : Int32).toInt := by rw [eσ1_11]; rfl
        have : (σ1_11.2 6).toInt = (σ.2 6).toInt := by rw [eσ1_11]; rfl
        have : (σ1_11.2 7).toInt = (σ.2 7).toInt := by rw [eσ1_11]; rfl
        have : (0 : Int) ≤ (σ1_11.2 4).toInt ∧ (σ1_11.2 4).toInt ≤ 400 := Iσ1_11.2.1 4
        have : (0 : Int) ≤ (σ1_11.2 5).toInt ∧ (σ1_11.2 5).toInt ≤ 400 := Iσ1_11.2.1 5
        have : (0 : Int) ≤ (σ1_11.2 6).toInt ∧ (σ1_11.2 6).toInt ≤ 400 := Iσ1_11.2.1 6
        have : (0 : Int) ≤ (σ1_11.2 7).toInt ∧ (σ1_11.2 7).toInt ≤ 400 := Iσ1_11.2.1 7
        exact ih σ1_11 (x1 : Int32) (x2 : Int32) Iσ1_11 (show 0 ≤ (x1 : Int32).toInt by omega) (show (x1 : Int32).toInt ≤ 4 by omega) (show (σ1_11.2 7).toInt ≤ (σ1_11.2 5).toInt by omega) (show (σ1_11.2 5).toInt ≤ (σ1_11.2 6).toInt by omega) (show (σ1_11.2 6).toInt = g by omega) (show (x1 : Int32).toInt = a by omega) (show (σ1_11.2 4).toInt = h by omega)  (by omega)
      · have : ¬ (5) ≤ (e_8 : Int32).toInt := fun z => h_9 (Int32.le_iff_toInt_le.mpr z)
        refine hs_ga (j := 17) I (by omega) (by omega) (fun v11_12 ev11_12 (bv11_12 : (-2147483648 : Int) ≤ v11_12.toInt ∧ v11_12.toInt ≤ 2147483647) => ?_)
        unfold fX10_readNote_104
        obtain ⟨e_13, he_13⟩ : ∃ e9 : Int32, e9 = ((σ.2 5) + 1) := ⟨_, rfl⟩
        try have : e_13.toInt = ((σ.2 5) : Int32).toInt + (1) := by rw [he_13]; exact hs_addk (1) rfl (by omega) (by omega)
        try rw [← he_13]
        refine hs_pf (v := e_13) I ⟨(by omega : (0 : Int) ≤ (e_13 : Int32).toInt), (by omega : (e_13 : Int32).toInt ≤ 400)⟩ (fun r => ⟨hm_Ri (by decide) r.1, ri 5 (by decide) _ _ r.2⟩) (fun σ1_14 eσ1_14 Iσ1_14 => ?_)
        have : (σ1_14.2 4).toInt = (σ.2 4).toInt := by rw [eσ1_14]; rfl
        have : (σ1_14.2 5).toInt = (e_13 : Int32).toInt := by rw [eσ1_14]; rfl
        have : (σ1_14.2 6).toInt = (σ.2 6).toInt := by rw [eσ1_14]; rfl
        have : (σ1_14.2 7).toInt = (σ.2 7).toInt := by rw [eσ1_14]; rfl
        have : (0 : Int) ≤ (σ1_14.2 4).toInt ∧ (σ1_14.2 4).toInt ≤ 400 := Iσ1_14.2.1 4
        have : (0 : Int) ≤ (σ1_14.2 5).toInt ∧ (σ1_14.2 5).toInt ≤ 400 := Iσ1_14.2.1 5
        have : (0 : Int) ≤ (σ1_14.2 6).toInt ∧ (σ1_14.2 6).toInt ≤ 400 := Iσ1_14.2.1 6
        have : (0 : Int) ≤ (σ1_14.2 7).toInt ∧ (σ1_14.2 7).toInt ≤ 400 := Iσ1_14.2.1 7
        obtain ⟨e_15, he_15⟩ : ∃ e9 : Int32, e9 = (10 * x2) := ⟨_, rfl⟩
        try have : e_15.toInt = (10) * (x2 : Int32).toInt := by rw [he_15]; exact hs_mull (10) rfl (by omega) (by omega)
        try rw [← he_15]
        obtain ⟨e_16, he_16⟩ : ∃ e9 : Int32, e9 = (e_15 + v11_12) := ⟨_, rfl⟩
        try have : e_16.toInt = (e_15 : Int32).toInt + (v11_12 : Int32).toInt := by rw [he_16]; exact hs_add (by omega) (by omega)
        try rw [← he_16]
        obtain ⟨e_17, he_17⟩ : ∃ e9 : Int32, e9 = (e_16 - 48) := ⟨_, rfl⟩
        try have : e_17.toInt = (e_16 : Int32).toInt - (48) := by rw [he_17]; exact hs_subk (48) rfl (by omega) (by omega)
        try rw [← he_17]
        exact ih σ1_14 (x1 : Int32) (e_17 : Int32) Iσ1_14 (show 0 ≤ (x1 : Int32).toInt by omega) (show (x1 : Int32).toInt ≤ 4 by omega) (show (σ1_14.2 7).toInt ≤ (σ1_14.2 5).toInt by omega) (show (σ1_14.2 5).toInt ≤ (σ1_14.2 6).toInt by omega) (show (σ1_14.2 6).toInt = g by omega) (show (x1 : Int32).toInt = a by omega) (show (σ1_14.2 4).toInt = h by omega)  (by omega)
theorem s_fX10_readNote_16 {R : hy_S → Prop} (ra : ∀ j, j ∈ ([19] : List Nat) → ∀ (τ : hy_S) (g : Nat → Int32), R τ → R (hy_sc τ j g)) (ri : ∀ j, j ∈ ([5, 7] : List Nat) → ∀ (τ : hy_S) (v : Int32), R τ → R (hy_si τ j v)) (g : Int) (a : Int) (h : Int) {k7 : hy_S → Int32 → Option (hy_S × Int32)} {Q : hy_S × Int32 → Prop} (hQ : ∀ (σ9 : hy_S) (v9 : Int32), hm_I R σ9 → (σ9.2 4).toInt = h → Q (σ9, v9)) (hk7 : ∀ (σ : hy_S) (y1 : Int32), hm_I R σ → y1.toInt = a + 1 → (σ.2 6).toInt = g → (σ.2 5).toInt ≤ g → (σ.2 4).toInt = h → hs_ok (k7 σ y1) Q) : ∀ (n : Nat) (σ : hy_S) (x1 : Int32), hm_I R σ → 0 ≤ x1.toInt → x1.toInt ≤ 4 → (σ.2 7).toInt ≤ (σ.2 5).toInt → (σ.2 5).toInt ≤ (σ.2 6).toInt → (σ.2 6).toInt = g → x1.toInt = a → (σ.2 4).toInt = h → (σ.2 6).toInt - (σ.2 5).toInt < (n : Int) → hs_ok (fX10_readNote_16 k7 n σ x1) Q := by
  intro n
  induction n with
  | zero =>
    intro σ x1 I p0 p1 p2 p3 p4 p5 p6  hm
    have : (0 : Int) ≤ (σ.2 4).toInt ∧ (σ.2 4).toInt ≤ 400 := I.2.1 4
    have : (0 : Int) ≤ (σ.2 5).toInt ∧ (σ.2 5).toInt ≤ 400 := I.2.1 5
    have : (0 : Int) ≤ (σ.2 6).toInt ∧ (σ.2 6).toInt ≤ 400 := I.2.1 6
    have : (0 : Int) ≤ (σ.2 7).toInt ∧ (σ.2 7).toInt ≤ 400 := I.2.1 7
    exact absurd hm (by omega)
  | succ n ih =>
    intro σ x1 I p0 p1 p2 p3 p4 p5 p6  hm
    unfold fX10_readNote_16
    have : (0 : Int) ≤ (σ.2 4).toInt ∧ (σ.2 4).toInt ≤ 400 := I.2.1 4
    have : (0 : Int) ≤ (σ.2 5).toInt ∧ (σ.2 5).toInt ≤ 400 := I.2.1 5
    have : (0 : Int) ≤ (σ.2 6).toInt ∧ (σ.2 6).toInt ≤ 400 := I.2.1 6
    have : (0 : Int) ≤ (σ.2 7).toInt ∧ (σ.2 7).toInt ≤ 400 := I.2.1 7
    refine hs_bd (s_fX10_isAt σ (97 : Int32) (122 : Int32) I  (fun v2_1 (gv2_1_0 : 0 ≤ v2_1.toInt) (gv2_1_1 : v2_1.toInt ≤ 1) (gv2_1_2 : v2_1.toInt = 0 ∨ (σ.2 5).toInt < (σ.2 6).toInt) => ?_))
    refine hs_ite (fun h_2 => ?_) (fun h_2 => ?_)
    · have : (v2_1 : Int32).toInt = (0) := congrArg Int32.toInt h_2
      refine hs_bd (s_fX10_word σ x1 I  (fun v6_3 (gv6_3_0 : 0 ≤ v6_3.toInt) (gv6_3_1 : v6_3.toInt ≤ 4) => ?_))
      refine hs_bd (s_fX10_isWord σ v6_3 I (show 0 ≤ (v6_3 : Int32).toInt by omega) (show (v6_3 : Int32).toInt ≤ 4 by omega) (show (σ.2 7).toInt ≤ (σ.2 5).toInt by omega) (fun v9_4 (gv9_4_0 : 0 ≤ v9_4.toInt) (gv9_4_1 : v9_4.toInt ≤ 1) => ?_))
      refine hs_ite (fun h_5 => ?_) (fun h_5 => ?_)
      · have : (v9_4 : Int32).toInt = (0) := congrArg Int32.toInt h_5
        exact hs_some (hQ σ (0 : Int32) I (show (σ.2 4).toInt = h by omega))
      · have : ¬ (v9_4 : Int32).toInt = (0) := fun z => h_5 (Int32.toInt_inj.mp z)
        refine hs_bd (s_fX10_blanks (fun j h => ra j (hs_inc (by decide) h)) (fun j h => ri j (hs_inc (by decide) h)) σ  I (show (σ.2 5).toInt ≤ (σ.2 6).toInt by omega) (fun σ12_7 v13_6 Iσ12_7 (gv13_6_0 : (σ12_7.2 6).toInt = (σ.2 6).toInt) (gv13_6_1 : (σ12_7.2 5).toInt ≤ (σ.2 6).toInt) (gv13_6_2 : (σ12_7.2 7).toInt = (σ12_7.2 5).toInt) (gv13_6_3 : (σ12_7.2 4).toInt = (σ.2 4).toInt) => ?_))
        have : (0 : Int) ≤ (σ12_7.2 4).toInt ∧ (σ12_7.2 4).toInt ≤ 400 := Iσ12_7.2.1 4
        have : (0 : Int) ≤ (σ12_7.2 5).toInt ∧ (σ12_7.2 5).toInt ≤ 400 := Iσ12_7.2.1 5
        have : (0 : Int) ≤ (σ12_7.2 6).toInt ∧ (σ12_7.2 6).toInt ≤ 400 := Iσ12_7.2.1 6
        have : (0 : Int) ≤ (σ12_7.2 7).toInt ∧ (σ12_7.2 7).toInt ≤ 400 := Iσ12_7.2.1 7
        have hfu : ((hy_fu : Nat) : Int) = 5000 := rfl
        refine s_fX10_readNote_59 (fun j h => ra j (hs_inc (by decide) h)) (fun j h => ri j (hs_inc (by decide) h)) ((σ12_7.2 6).toInt) ((x1 : Int32).toInt) (h) hQ (fun τ_14 y_8 I_9 h_10 h_11 h_12 h_13 => hk7 τ_14 y_8 I_9 (by omega) (by omega) (by omega) (by omega)) hy_fu σ12_7 (x1 : Int32) (0 : Int32) Iσ12_7 (show 0 ≤ (x1 : Int32).toInt by omega) (show (x1 : Int32).toInt ≤ 4 by omega) (show (σ12_7.2 7).toInt ≤ (σ12_7.2 5).toInt by omega) (show (σ12_7.2 5).toInt ≤ (σ12_7.2 6).toInt by omega) (show (σ12_7.2 6).toInt = ((σ12_7.2 6).toInt) by omega) (show (x1 : Int32).toInt = ((x1 : Int32).toInt) by omega) (show (σ12_7.2 4).toInt = (h) by omega)  (show (σ12_7.2 6).toInt - (σ12_7.2 5).toInt < ((hy_fu : Nat) : Int) by rw [hfu]; omega)
    · have : ¬ (v2_1 : Int32).toInt = (0) := fun z => h_2 (Int32.toInt_inj.mp z)
      obtain ⟨e_15, he_15⟩ : ∃ e9 : Int32, e9 = ((σ.2 5) + 1) := ⟨_, rfl⟩
      try have : e_15.toInt = ((σ.2 5) : Int32).toInt + (1) := by rw [he_15]; exact hs_addk (1) rfl (by omega) (by omega)
      try rw [← he_15]
      refine hs_pf (v := e_15) I ⟨(by omega : (0 : Int) ≤ (e_15 : Int32).toInt), (by omega : (e_15 : Int32).toInt ≤ 400)⟩ (fun r => ⟨hm_Ri (by decide) r.1, ri 5 (by decide) _ _ r.2⟩) (fun σ15_16 eσ15_16 Iσ15_16 => ?_)
      have : (σ15_16.2 4).toInt = (σ.2 4).toInt := by rw [eσ15_16]; rfl
      have : (σ15_16.2 5).toInt = (e_15 : Int32).toInt := by rw [eσ15_16]; rfl
      have : (σ15_16.2 6).toInt = (σ.2 6).toInt := by rw [eσ15_16]; rfl
      have : (σ15_16.2 7).toInt = (σ.2 7).toInt := by rw [eσ15_16]; rfl
      have : (0 : Int) ≤ (σ15_16.2 4).toInt ∧ (σ15_16.2 4).toInt ≤ 400 := Iσ15_16.2.1 4
      have : (0 : Int) ≤ (σ15_16.2 5).toInt ∧ (σ15_16.2 5).toInt ≤ 400 := Iσ15_16.2.1 5
      have : (0 : Int) ≤ (σ15_16.2 6).toInt ∧ (σ15_16.2 6).toInt ≤ 400 := Iσ15_16.2.1 6
      have : (0 : Int) ≤ (σ15_16.2 7).toInt ∧ (σ15_16.2 7).toInt ≤ 400 := Iσ15_16.2.1 7
      exact ih σ15_16 (x1 : Int32) Iσ15_16 (show 0 ≤ (x1 : Int32).toInt by omega) (show (x1 : Int32).toInt ≤ 4 by omega) (show (σ15_16.2 7).toInt ≤ (σ15_16.2 5).toInt by omega) (show (σ15_16.2 5).toInt ≤ (σ15_16.2 6).toInt by omega) (show (σ15_16.2 6).toInt = g by omega) (show (x1 : Int32).toInt = a by omega) (show (σ15_16.2 4).toInt = h by omega)  (by omega)
theorem s_fX10_readNote_7 {R : hy_S → Prop} (ra : ∀ j, j ∈ ([19] : List Nat) → ∀ (τ : hy_S) (g : Nat → Int32), R τ → R (hy_sc τ j g)) (ri : ∀ j, j ∈ ([5, 7] : List Nat) → ∀ (τ : hy_S) (v : Int32), R τ → R (hy_si τ j v)) (h : Int) {Q : hy_S × Int32 → Prop} (hQ : ∀ (σ9 : hy_S) (v9 : Int32), hm_I R σ9 → (σ9.2 4).toInt = h → Q (σ9, v9)) : ∀ (n : Nat) (σ : hy_S) (x1 : Int32), hm_I R σ → 0 ≤ x1.toInt → x1.toInt ≤ 5 → (σ.2 5).toInt ≤ (σ.2 6).toInt → (σ.2 4).toInt = h → 5 - x1.toInt < (n : Int) → hs_ok (fX10_readNote_7 n σ x1) Q := by
  intro n
  induction n with
  | zero =>
    intro σ x1 I p0 p1 p2 p3  hm
    have : (0 : Int) ≤ (σ.2 4).toInt ∧ (σ.2 4).toInt ≤ 400 := I.2.1 4
    have : (0 : Int) ≤ (σ.2 5).toInt ∧ (σ.2 5).toInt ≤ 400 := I.2.1 5
    have : (0 : Int) ≤ (σ.2 6).toInt ∧ (σ.2 6).toInt ≤ 400 := I.2.1 6
    exact absurd hm (by omega)
  | succ n ih =>
    intro σ x1 I p0 p1 p2 p3  hm
    unfold fX10_readNote_7
    have : (0 : Int) ≤ (σ.2 4).toInt ∧ (σ.2 4).toInt ≤ 400 := I.2.1 4
    have : (0 : Int) ≤ (σ.2 5).toInt ∧ (σ.2 5).toInt ≤ 400 := I.2.1 5
    have : (0 : Int) ≤ (σ.2 6).toInt ∧ (σ.2 6).toInt ≤ 400 := I.2.1 6
    refine hs_ite (fun h_1 => ?_) (fun h_1 => ?_)
    · have : (5) ≤ (x1 : Int32).toInt := Int32.le_iff_toInt_le.mp h_1
      refine hs_bd (s_fX10_blanks (fun j h => ra j (hs_inc (by decide) h)) (fun j h => ri j (hs_inc (by decide) h)) σ  I (show (σ.2 5).toInt ≤ (σ.2 6).toInt by omega) (fun σ2_3 v3_2 Iσ2_3 (gv3_2_0 : (σ2_3.2 6).toInt = (σ.2 6).toInt) (gv3_2_1 : (σ2_3.2 5).toInt ≤ (σ.2 6).toInt) (gv3_2_2 : (σ2_3.2 7).toInt = (σ2_3.2 5).toInt) (gv3_2_3 : (σ2_3.2 4).toInt = (σ.2 4).toInt) => ?_))
      have : (0 : Int) ≤ (σ2_3.2 4).toInt ∧ (σ2_3.2 4).toInt ≤ 400 := Iσ2_3.2.1 4
      have : (0 : Int) ≤ (σ2_3.2 5).toInt ∧ (σ2_3.2 5).toInt ≤ 400 := Iσ2_3.2.1 5
      have : (0 : Int) ≤ (σ2_3.2 6).toInt ∧ (σ2_3.2 6).toInt ≤ 400 := Iσ2_3.2.1 6
      refine hs_ite (fun h_4 => ?_) (fun h_4 => ?_)
      · have : ((σ2_3.2 5) : Int32).toInt = ((σ2_3.2 6) : Int32).toInt := congrArg Int32.toInt h_4
        exact hs_some (hQ σ2_3 (1 : Int32) Iσ2_3 (show (σ2_3.2 4).toInt = h by omega))
      · have : ¬ ((σ2_3.2 5) : Int32).toInt = ((σ2_3.2 6) : Int32).toInt := fun z => h_4 (Int32.toInt_inj.mp z)
        exact hs_some (hQ σ2_3 (0 : Int32) Iσ2_3 (show (σ2_3.2 4).toInt = h by omega))
    · have : ¬ (5) ≤ (x1 : Int32).toInt := fun z => h_1 (Int32.le_iff_toInt_le.mpr z)
      refine hs_bd (s_fX10_blanks (fun j h => ra j (hs_inc (by decide) h)) (fun j h => ri j (hs_inc (by decide) h)) σ  I (show (σ.2 5).toInt ≤ (σ.2 6).toInt by omega) (fun σ6_6 v7_5 Iσ6_6 (gv7_5_0 : (σ6_6.2 6).toInt = (σ.2 6).toInt) (gv7_5_1 : (σ6_6.2 5).toInt ≤ (σ.2 6).toInt) (gv7_5_2 : (σ6_6.2 7).toInt = (σ6_6.2 5).toInt) (gv7_5_3 : (σ6_6.2 4).toInt = (σ.2 4).toInt) => ?_))
      have : (0 : Int) ≤ (σ6_6.2 4).toInt ∧ (σ6_6.2 4).toInt ≤ 400 := Iσ6_6.2.1 4
      have : (0 : Int) ≤ (σ6_6.2 5).toInt ∧ (σ6_6.2 5).toInt ≤ 400 := Iσ6_6.2.1 5
      have : (0 : Int) ≤ (σ6_6.2 6).toInt ∧ (σ6_6.2 6).toInt ≤ 400 := Iσ6_6.2.1 6
      have hfu : ((hy_fu : Nat) : Int) = 5000 := rfl
      refine s_fX10_readNote_16 (fun j h => ra j (hs_inc (by decide) h)) (fun j h => ri j (hs_inc (by decide) h)) ((σ6_6.2 6).toInt) ((x1 : Int32).toInt) (h) hQ (fun τ_13 y_7 I_8 h_9 h_10 h_11 h_12 => by have : (0 : Int) ≤ (τ_13.2 4).toInt ∧ (τ_13.2 4).toInt ≤ 400 := I_8.2.1 4; have : (0 : Int) ≤ (τ_13.2 5).toInt ∧ (τ_13.2 5).toInt ≤ 400 := I_8.2.1 5; have : (0 : Int) ≤ (τ_13.2 6).toInt ∧ (τ_13.2 6).toInt ≤ 400 := I_8.2.1 6; exact ih τ_13 y_7 I_8 (by omega) (by omega) (by omega) (by omega) (by omega)) hy_fu σ6_6 (x1 : Int32) Iσ6_6 (show 0 ≤ (x1 : Int32).toInt by omega) (show (x1 : Int32).toInt ≤ 4 by omega) (show (σ6_6.2 7).toInt ≤ (σ6_6.2 5).toInt by omega) (show (σ6_6.2 5).toInt ≤ (σ6_6.2 6).toInt by omega) (show (σ6_6.2 6).toInt = ((σ6_6.2 6).toInt) by omega) (show (x1 : Int32).toInt = ((x1 : Int32).toInt) by omega) (show (σ6_6.2 4).toInt = (h) by omega)  (show (σ6_6.2 6).toInt - (σ6_6.2 5).toInt < ((hy_fu : Nat) : Int) by rw [hfu]; omega)
theorem s_fX10_readNote {R : hy_S → Prop} (ra : ∀ j, j ∈ ([19] : List Nat) → ∀ (τ : hy_S) (g : Nat → Int32), R τ → R (hy_sc τ j g)) (ri : ∀ j, j ∈ ([5, 7] : List Nat) → ∀ (τ : hy_S) (v : Int32), R τ → R (hy_si τ j v)) (σ : hy_S) {P : hy_S → Int32 → Prop} (I : hm_I R σ) (hQ : ∀ (σ9 : hy_S) (v9 : Int32), hm_I R σ9 → (σ9.2 4).toInt = (σ.2 4).toInt → P σ9 v9) : hs_ok2 (fX10_readNote σ ) P := by
  unfold fX10_readNote
  show hs_ok _ _
  have : (0 : Int) ≤ (σ.2 4).toInt ∧ (σ.2 4).toInt ≤ 400 := I.2.1 4
  have : (0 : Int) ≤ (σ.2 5).toInt ∧ (σ.2 5).toInt ≤ 400 := I.2.1 5
  have : (0 : Int) ≤ (σ.2 6).toInt ∧ (σ.2 6).toInt ≤ 400 := I.2.1 6
  refine hs_pf (v := 0) I ⟨by decide, by decide⟩ (fun r => ⟨hm_Ri (by decide) r.1, ri 5 (by decide) _ _ r.2⟩) (fun σ1_1 eσ1_1 Iσ1_1 => ?_)
  have : (σ1_1.2 4).toInt = (σ.2 4).toInt := by rw [eσ1_1]; rfl
  have : (σ1_1.2 5).toInt = (0) := by rw [eσ1_1]; rfl
  have : (σ1_1.2 6).toInt = (σ.2 6).toInt := by rw [eσ1_1]; rfl
  have : (0 : Int) ≤ (σ1_1.2 4).toInt ∧ (σ1_1.2 4).toInt ≤ 400 := Iσ1_1.2.1 4
  have : (0 : Int) ≤ (σ1_1.2 5).toInt ∧ (σ1_1.2 5).toInt ≤ 400 := Iσ1_1.2.1 5
  have : (0 : Int) ≤ (σ1_1.2 6).toInt ∧ (σ1_1.2 6).toInt ≤ 400 := Iσ1_1.2.1 6
  have hfu : ((hy_fu : Nat) : Int) = 5000 := rfl
  refine s_fX10_readNote_7 (fun j h => ra j (hs_inc (by decide) h)) (fun j h => ri j (hs_inc (by decide) h)) ((σ1_1.2 4).toInt) (fun τ_2 v_3 Iτ_2 gv_3_0 => ?_)  hy_fu σ1_1 (0 : Int32) Iσ1_1 (show 0 ≤ (0) by omega) (show (0) ≤ 5 by omega) (show (σ1_1.2 5).toInt ≤ (σ1_1.2 6).toInt by omega) (show (σ1_1.2 4).toInt = ((σ1_1.2 4).toInt) by omega)  (show 5 - (0) < ((hy_fu : Nat) : Int) by rw [hfu]; omega)
  have : (0 : Int) ≤ (τ_2.2 4).toInt ∧ (τ_2.2 4).toInt ≤ 400 := Iτ_2.2.1 4
  have : (0 : Int) ≤ (τ_2.2 5).toInt ∧ (τ_2.2 5).toInt ≤ 400 := Iτ_2.2.1 5
  have : (0 : Int) ≤ (τ_2.2 6).toInt ∧ (τ_2.2 6).toInt ≤ 400 := Iτ_2.2.1 6
  exact (hQ τ_2 (v_3 : Int32) Iτ_2 (show (τ_2.2 4).toInt = (σ.2 4).toInt by omega))
theorem s_fX10_check {R : hy_S → Prop} (ra : ∀ j, j ∈ ([15, 16, 19] : List Nat) → ∀ (τ : hy_S) (g : Nat → Int32), R τ → R (hy_sc τ j g)) (ri : ∀ j, j ∈ ([0, 4, 5, 6, 7, 8] : List Nat) → ∀ (τ : hy_S) (v : Int32), R τ → R (hy_si τ j v)) (σ : hy_S) (x1 : Int32) {P : hy_S → Int32 → Prop} (I : hm_I R σ) (hQ : ∀ (σ9 : hy_S) (v9 : Int32), hm_I R σ9 → (σ9.2 4).toInt = 0 → P σ9 v9) : hs_ok2 (fX10_check σ x1) P := by
  unfold fX10_check
  show hs_ok _ _
  have : (-2147483648 : Int) ≤ (σ.2 0).toInt ∧ (σ.2 0).toInt ≤ 2147483647 := I.2.1 0
  have : (0 : Int) ≤ (σ.2 4).toInt ∧ (σ.2 4).toInt ≤ 400 := I.2.1 4
  have : (0 : Int) ≤ (σ.2 5).toInt ∧ (σ.2 5).toInt ≤ 400 := I.2.1 5
  have : (0 : Int) ≤ (σ.2 6).toInt ∧ (σ.2 6).toInt ≤ 400 := I.2.1 6
  have : (0 : Int) ≤ (σ.2 7).toInt ∧ (σ.2 7).toInt ≤ 400 := I.2.1 7
  have : (-2147483648 : Int) ≤ (σ.2 8).toInt ∧ (σ.2 8).toInt ≤ 2147483647 := I.2.1 8
  refine hs_pf (v := 0) I (hs_any _) (fun r => ⟨hm_Ri (by decide) r.1, ri 0 (by decide) _ _ r.2⟩) (fun σ1_1 eσ1_1 Iσ1_1 => ?_)
  have : (σ1_1.2 0).toInt = (0) := by rw [eσ1_1]; rfl
  have : (σ1_1.2 4).toInt = (σ.2 4).toInt := by rw [eσ1_1]; rfl
  have : (σ1_1.2 5).toInt = (σ.2 5).toInt := by rw [eσ1_1]; rfl
  have : (σ1_1.2 6).toInt = (σ.2 6).toInt := by rw [eσ1_1]; rfl
  have : (σ1_1.2 7).toInt = (σ.2 7).toInt := by rw [eσ1_1]; rfl
  have : (σ1_1.2 8).toInt = (σ.2 8).toInt := by rw [eσ1_1]; rfl
  have : (-2147483648 : Int) ≤ (σ1_1.2 0).toInt ∧ (σ1_1.2 0).toInt ≤ 2147483647 := Iσ1_1.2.1 0
  have : (0 : Int) ≤ (σ1_1.2 4).toInt ∧ (σ1_1.2 4).toInt ≤ 400 := Iσ1_1.2.1 4
  have : (0 : Int) ≤ (σ1_1.2 5).toInt ∧ (σ1_1.2 5).toInt ≤ 400 := Iσ1_1.2.1 5
  have : (0 : Int) ≤ (σ1_1.2 6).toInt ∧ (σ1_1.2 6).toInt ≤ 400 := Iσ1_1.2.1 6
  have : (0 : Int) ≤ (σ1_1.2 7).toInt ∧ (σ1_1.2 7).toInt ≤ 400 := Iσ1_1.2.1 7
  have : (-2147483648 : Int) ≤ (σ1_1.2 8).toInt ∧ (σ1_1.2 8).toInt ≤ 2147483647 := Iσ1_1.2.1 8
  refine hs_pf (v := (σ1_1.2 4)) Iσ1_1 ⟨(by omega : (0 : Int) ≤ ((σ1_1.2 4) : Int32).toInt), (by omega : ((σ1_1.2 4) : Int32).toInt ≤ 400)⟩ (fun r => ⟨hm_Ri (by decide) r.1, ri 6 (by decide) _ _ r.2⟩) (fun σ3_2 eσ3_2 Iσ3_2 => ?_)
  have : (σ3_2.2 0).toInt = (σ1_1.2 0).toInt := by rw [eσ3_2]; rfl
  have : (σ3_2.2 4).toInt = (σ1_1.2 4).toInt := by rw [eσ3_2]; rfl
  have : (σ3_2.2 5).toInt = (σ1_1.2 5).toInt := by rw [eσ3_2]; rfl
  have : (σ3_2.2 6).toInt = ((σ1_1.2 4) : Int32).toInt := by rw [eσ3_2]; rfl
  have : (σ3_2.2 7).toInt = (σ1_1.2 7).toInt := by rw [eσ3_2]; rfl
  have : (σ3_2.2 8).toInt = (σ1_1.2 8).toInt := by rw [eσ3_2]; rfl
  have : (-2147483648 : Int) ≤ (σ3_2.2 0).toInt ∧ (σ3_2.2 0).toInt ≤ 2147483647 := Iσ3_2.2.1 0
  have : (0 : Int) ≤ (σ3_2.2 4).toInt ∧ (σ3_2.2 4).toInt ≤ 400 := Iσ3_2.2.1 4
  have : (0 : Int) ≤ (σ3_2.2 5).toInt ∧ (σ3_2.2 5).toInt ≤ 400 := Iσ3_2.2.1 5
  have : (0 : Int) ≤ (σ3_2.2 6).toInt ∧ (σ3_2.2 6).toInt ≤ 400 := Iσ3_2.2.1 6
  have : (0 : Int) ≤ (σ3_2.2 7).toInt ∧ (σ3_2.2 7).toInt ≤ 400 := Iσ3_2.2.1 7
  have : (-2147483648 : Int) ≤ (σ3_2.2 8).toInt ∧ (σ3_2.2 8).toInt ≤ 2147483647 := Iσ3_2.2.1 8
  refine hs_pf (v := 0) Iσ3_2 ⟨by decide, by decide⟩ (fun r => ⟨hm_Ri (by decide) r.1, ri 4 (by decide) _ _ r.2⟩) (fun σ5_3 eσ5_3 Iσ5_3 => ?_)
  have : (σ5_3.2 0).toInt = (σ3_2.2 0).toInt := by rw [eσ5_3]; rfl
  have : (σ5_3.2 4).toInt = (0) := by rw [eσ5_3]; rfl
  have : (σ5_3.2 5).toInt = (σ3_2.2 5).toInt := by rw [eσ5_3]; rfl
  have : (σ5_3.2 6).toInt = (σ3_2.2 6).toInt := by rw [eσ5_3]; rfl
  have : (σ5_3.2 7).toInt = (σ3_2.2 7).toInt := by rw [eσ5_3]; rfl
  have : (σ5_3.2 8).toInt = (σ3_2.2 8).toInt := by rw [eσ5_3]; rfl
  have : (-2147483648 : Int) ≤ (σ5_3.2 0).toInt ∧ (σ5_3.2 0).toInt ≤ 2147483647 := Iσ5_3.2.1 0
  have : (0 : Int) ≤ (σ5_3.2 4).toInt ∧ (σ5_3.2 4).toInt ≤ 400 := Iσ5_3.2.1 4
  have : (0 : Int) ≤ (σ5_3.2 5).toInt ∧ (σ5_3.2 5).toInt ≤ 400 := Iσ5_3.2.1 5
  have : (0 : Int) ≤ (σ5_3.2 6).toInt ∧ (σ5_3.2 6).toInt ≤ 400 := Iσ5_3.2.1 6
  have : (0 : Int) ≤ (σ5_3.2 7).toInt ∧ (σ5_3.2 7).toInt ≤ 400 := Iσ5_3.2.1 7
  have : (-2147483648 : Int) ≤ (σ5_3.2 8).toInt ∧ (σ5_3.2 8).toInt ≤ 2147483647 := Iσ5_3.2.1 8
  refine hs_bIn (fun (u_4_0 : (0) ≤ (x1 : Int32).toInt) (u_4_1 : (x1 : Int32).toInt ≤ (7)) => ?_) (fun (u_4_0 : (x1 : Int32).toInt < (0) ∨ (7) < (x1 : Int32).toInt) => ?_)
  · skip
    refine hs_ite (fun h_5 => ?_) (fun h_5 => ?_)
    · exact absurd h_5 (by decide)
    · skip
      unfold fX10_check_34
      refine hs_th0 ?_
      refine hs_ite (fun h_6 => ?_) (fun h_6 => ?_)
      · skip
        refine hs_bd (s_fX10_readNote (fun j h => ra j (hs_inc (by decide) h)) (fun j h => ri j (hs_inc (by decide) h)) σ5_3  Iσ5_3  (fun σ5_8 v6_7 Iσ5_8 (gv6_7_0 : (σ5_8.2 4).toInt = (σ5_3.2 4).toInt) => ?_))
        have : (-2147483648 : Int) ≤ (σ5_8.2 0).toInt ∧ (σ5_8.2 0).toInt ≤ 2147483647 := Iσ5_8.2.1 0
        have : (0 : Int) ≤ (σ5_8.2 4).toInt ∧ (σ5_8.2 4).toInt ≤ 400 := Iσ5_8.2.1 4
        have : (0 : Int) ≤ (σ5_8.2 5).toInt ∧ (σ5_8.2 5).toInt ≤ 400 := Iσ5_8.2.1 5
        have : (0 : Int) ≤ (σ5_8.2 6).toInt ∧ (σ5_8.2 6).toInt ≤ 400 := Iσ5_8.2.1 6
        have : (0 : Int) ≤ (σ5_8.2 7).toInt ∧ (σ5_8.2 7).toInt ≤ 400 := Iσ5_8.2.1 7
        have : (-2147483648 : Int) ≤ (σ5_8.2 8).toInt ∧ (σ5_8.2 8).toInt ≤ 2147483647 := Iσ5_8.2.1 8
        refine hs_ite (fun h_9 => ?_) (fun h_9 => ?_)
        · have : (v6_7 : Int32).toInt = (0) := congrArg Int32.toInt h_9
          unfold fX10_check_61
          refine hs_pf (v := (σ5_8.2 7)) Iσ5_8 (hs_any _) (fun r => ⟨hm_Ri (by decide) r.1, ri 8 (by decide) _ _ r.2⟩) (fun σ1_10 eσ1_10 Iσ1_10 => ?_)
          have : (σ1_10.2 0).toInt = (σ5_8.2 0).toInt := by rw [eσ1_10]; rfl
          have : (σ1_10.2 4).toInt = (σ5_8.2 4).toInt := by rw [eσ1_10]; rfl
          have : (σ1_10.2 5).toInt = (σ5_8.2 5).toInt := by rw [eσ1_10]; rfl
          have : (σ1_10.2 6).toInt = (σ5_8.2 6).toInt := by rw [eσ1_10]; rfl
          have : (σ1_10.2 7).toInt = (σ5_8.2 7).toInt := by rw [eσ1_10]; rfl
          have : (σ1_10.2 8).toInt = ((σ5_8.2 7) : Int32).toInt := by rw [eσ1_10]; rfl
          have : (-2147483648 : Int) ≤ (σ1_10.2 0).toInt ∧ (σ1_10.2 0).toInt ≤ 2147483647 := Iσ1_10.2.1 0
          have : (0 : Int) ≤ (σ1_10.2 4).toInt ∧ (σ1_10.2 4).toInt ≤ 400 := Iσ1_10.2.1 4
          have : (0 : Int) ≤ (σ1_10.2 5).toInt ∧ (σ1_10.2 5).toInt ≤ 400 := Iσ1_10.2.1 5
          have : (0 : Int) ≤ (σ1_10.2 6).toInt ∧ (σ1_10.2 6).toInt ≤ 400 := Iσ1_10.2.1 6
          have : (0 : Int) ≤ (σ1_10.2 7).toInt ∧ (σ1_10.2 7).toInt ≤ 400 := Iσ1_10.2.1 7
          have : (-2147483648 : Int) ≤ (σ1_10.2 8).toInt ∧ (σ1_10.2 8).toInt ≤ 2147483647 := Iσ1_10.2.1 8
          refine hs_ite (fun h_11 => ?_) (fun h_11 => ?_)
          · have : (v6_7 : Int32).toInt = (0) := congrArg Int32.toInt h_11
            unfold fX10_check_74
            refine hs_th1 Iσ1_10 (hs_any _) (fun r => ⟨hm_Ri (by decide) r.1, ri 0 (by decide) _ _ r.2⟩) (fun σ1_12 eσ1_12 Iσ1_12 => ?_)
            have : (σ1_12.2 0).toInt = (2) := by rw [eσ1_12]; rfl
            have : (σ1_12.2 4).toInt = (σ1_10.2 4).toInt := by rw [eσ1_12]; rfl
            have : (σ1_12.2 5).toInt = (σ1_10.2 5).toInt := by rw [eσ1_12]; rfl
            have : (σ1_12.2 6).toInt = (σ1_10.2 6).toInt := by rw [eσ1_12]; rfl
            have : (σ1_12.2 7).toInt = (σ1_10.2 7).toInt := by rw [eσ1_12]; rfl
            have : (σ1_12.2 8).toInt = (σ1_10.2 8).toInt := by rw [eσ1_12]; rfl
            have : (-2147483648 : Int) ≤ (σ1_12.2 0).toInt ∧ (σ1_12.2 0).toInt ≤ 2147483647 := Iσ1_12.2.1 0
            have : (0 : Int) ≤ (σ1_12.2 4).toInt ∧ (σ1_12.2 4).toInt ≤ 400 := Iσ1_12.2.1 4
            have : (0 : Int) ≤ (σ1_12.2 5).toInt ∧ (σ1_12.2 5).toInt ≤ 400 := Iσ1_12.2.1 5
            have : (0 : Int) ≤ (σ1_12.2 6).toInt ∧ (σ1_12.2 6).toInt ≤ 400 := Iσ1_12.2.1 6
            have : (0 : Int) ≤ (σ1_12.2 7).toInt ∧ (σ1_12.2 7).toInt ≤ 400 := Iσ1_12.2.1 7
            have : (-2147483648 : Int) ≤ (σ1_12.2 8).toInt ∧ (σ1_12.2 8).toInt ≤ 2147483647 := Iσ1_12.2.1 8
            refine hs_ite (fun h_13 => ?_) (fun h_13 => ?_)
            · exact absurd h_13 (by decide)
            · skip
              exact hs_some (hQ σ1_12 (0 : Int32) Iσ1_12 (show (σ1_12.2 4).toInt = 0 by omega))
          · have : ¬ (v6_7 : Int32).toInt = (0) := fun z => h_11 (Int32.toInt_inj.mp z)
            unfold fX10_check_74
            refine hs_th0 ?_
            refine hs_ite (fun h_14 => ?_) (fun h_14 => ?_)
            · skip
              refine hs_bd (s_fX10_isFalse σ1_10 x1 Iσ1_10 (show 0 ≤ (x1 : Int32).toInt by omega) (show (x1 : Int32).toInt < 8 by omega) (fun v6_15  => ?_))
              refine hs_ga (j := 15) Iσ1_10 (by omega) (by omega) (fun v8_16 ev8_16 (bv8_16 : (-2147483648 : Int) ≤ v8_16.toInt ∧ v8_16.toInt ≤ 2147483647) => ?_)
              refine hs_pa (idx := x1) (v := _) Iσ1_10 (by omega) (by omega) (hs_any _) (fun r => ⟨hm_Ra (by decide) r.1, ra 15 (by decide) _ _ r.2⟩) (fun σ11_17 eσ11_17 Iσ11_17 => ?_)
              have : (σ11_17.2 0).toInt = (σ1_10.2 0).toInt := by rw [eσ11_17]; rfl
              have : (σ11_17.2 4).toInt = (σ1_10.2 4).toInt := by rw [eσ11_17]; rfl
              have : (σ11_17.2 5).toInt = (σ1_10.2 5).toInt := by rw [eσ11_17]; rfl
              have : (σ11_17.2 6).toInt = (σ1_10.2 6).toInt := by rw [eσ11_17]; rfl
              have : (σ11_17.2 7).toInt = (σ1_10.2 7).toInt := by rw [eσ11_17]; rfl
              have : (σ11_17.2 8).toInt = (σ1_10.2 8).toInt := by rw [eσ11_17]; rfl
              have : (-2147483648 : Int) ≤ (σ11_17.2 0).toInt ∧ (σ11_17.2 0).toInt ≤ 2147483647 := Iσ11_17.2.1 0
              have : (0 : Int) ≤ (σ11_17.2 4).toInt ∧ (σ11_17.2 4).toInt ≤ 400 := Iσ11_17.2.1 4
              have : (0 : Int) ≤ (σ11_17.2 5).toInt ∧ (σ11_17.2 5).toInt ≤ 400 := Iσ11_17.2.1 5
              have : (0 : Int) ≤ (σ11_17.2 6).toInt ∧ (σ11_17.2 6).toInt ≤ 400 := Iσ11_17.2.1 6
              have : (0 : Int) ≤ (σ11_17.2 7).toInt ∧ (σ11_17.2 7).toInt ≤ 400 := Iσ11_17.2.1 7
              have : (-2147483648 : Int) ≤ (σ11_17.2 8).toInt ∧ (σ11_17.2 8).toInt ≤ 2147483647 := Iσ11_17.2.1 8
              refine hs_ga (j := 16) Iσ11_17 (by omega) (by omega) (fun v14_18 ev14_18 (bv14_18 : (-2147483648 : Int) ≤ v14_18.toInt ∧ v14_18.toInt ≤ 2147483647) => ?_)
              refine hs_ite (fun h_19 => ?_) (fun h_19 => ?_)
              · have : (v6_15 : Int32).toInt ≤ (0) := Int32.le_iff_toInt_le.mp h_19
                unfold fX10_check_115
                refine hs_pa (idx := x1) (v := _) Iσ11_17 (by omega) (by omega) (hs_any _) (fun r => ⟨hm_Ra (by decide) r.1, ra 16 (by decide) _ _ r.2⟩) (fun σ1_20 eσ1_20 Iσ1_20 => ?_)
                have : (σ1_20.2 0).toInt = (σ11_17.2 0).toInt := by rw [eσ1_20]; rfl
                have : (σ1_20.2 4).toInt = (σ11_17.2 4).toInt := by rw [eσ1_20]; rfl
                have : (σ1_20.2 5).toInt = (σ11_17.2 5).toInt := by rw [eσ1_20]; rfl
                have : (σ1_20.2 6).toInt = (σ11_17.2 6).toInt := by rw [eσ1_20]; rfl
                have : (σ1_20.2 7).toInt = (σ11_17.2 7).toInt := by rw [eσ1_20]; rfl
                have : (σ1_20.2 8).toInt = (σ11_17.2 8).toInt := by rw [eσ1_20]; rfl
                have : (-2147483648 : Int) ≤ (σ1_20.2 0).toInt ∧ (σ1_20.2 0).toInt ≤ 2147483647 := Iσ1_20.2.1 0
                have : (0 : Int) ≤ (σ1_20.2 4).toInt ∧ (σ1_20.2 4).toInt ≤ 400 := Iσ1_20.2.1 4
                have : (0 : Int) ≤ (σ1_20.2 5).toInt ∧ (σ1_20.2 5).toInt ≤ 400 := Iσ1_20.2.1 5
                have : (0 : Int) ≤ (σ1_20.2 6).toInt ∧ (σ1_20.2 6).toInt ≤ 400 := Iσ1_20.2.1 6
                have : (0 : Int) ≤ (σ1_20.2 7).toInt ∧ (σ1_20.2 7).toInt ≤ 400 := Iσ1_20.2.1 7
                have : (-2147483648 : Int) ≤ (σ1_20.2 8).toInt ∧ (σ1_20.2 8).toInt ≤ 2147483647 := Iσ1_20.2.1 8
                exact hs_some (hQ σ1_20 (v6_15 : Int32) Iσ1_20 (show (σ1_20.2 4).toInt = 0 by omega))
              · have : ¬ (v6_15 : Int32).toInt ≤ (0) := fun z => h_19 (Int32.le_iff_toInt_le.mpr z)
                unfold fX10_check_115
                refine hs_pa (idx := x1) (v := _) Iσ11_17 (by omega) (by omega) (hs_any _) (fun r => ⟨hm_Ra (by decide) r.1, ra 16 (by decide) _ _ r.2⟩) (fun σ1_21 eσ1_21 Iσ1_21 => ?_)
                have : (σ1_21.2 0).toInt = (σ11_17.2 0).toInt := by rw [eσ1_21]; rfl
                have : (σ1_21.2 4).toInt = (σ11_17.2 4).toInt := by rw [eσ1_21]; rfl
                have : (σ1_21.2 5).toInt = (σ11_17.2 5).toInt := by rw [eσ1_21]; rfl
                have : (σ1_21.2 6).toInt = (σ11_17.2 6).toInt := by rw [eσ1_21]; rfl
                have : (σ1_21.2 7).toInt = (σ11_17.2 7).toInt := by rw [eσ1_21]; rfl
                have : (σ1_21.2 8).toInt = (σ11_17.2 8).toInt := by rw [eσ1_21]; rfl
                have : (-2147483648 : Int) ≤ (σ1_21.2 0).toInt ∧ (σ1_21.2 0).toInt ≤ 2147483647 := Iσ1_21.2.1 0
                have : (0 : Int) ≤ (σ1_21.2 4).toInt ∧ (σ1_21.2 4).toInt ≤ 400 := Iσ1_21.2.1 4
                have : (0 : Int) ≤ (σ1_21.2 5).toInt ∧ (σ1_21.2 5).toInt ≤ 400 := Iσ1_21.2.1 5
                have : (0 : Int) ≤ (σ1_21.2 6).toInt ∧ (σ1_21.2 6).toInt ≤ 400 := Iσ1_21.2.1 6
                have : (0 : Int) ≤ (σ1_21.2 7).toInt ∧ (σ1_21.2 7).toInt ≤ 400 := Iσ1_21.2.1 7
                have : (-2147483648 : Int) ≤ (σ1_21.2 8).toInt ∧ (σ1_21.2 8).toInt ≤ 2147483647 := Iσ1_21.2.1 8
                exact hs_some (hQ σ1_21 (v6_15 : Int32) Iσ1_21 (show (σ1_21.2 4).toInt = 0 by omega))
            · exact absurd (by decide) h_14
        · have : ¬ (v6_7 : Int32).toInt = (0) := fun z => h_9 (Int32.toInt_inj.mp z)
          unfold fX10_check_61
          refine hs_pf (v := (-1)) Iσ5_8 (hs_any _) (fun r => ⟨hm_Ri (by decide) r.1, ri 8 (by decide) _ _ r.2⟩) (fun σ1_22 eσ1_22 Iσ1_22 => ?_)
          have : (σ1_22.2 0).toInt = (σ5_8.2 0).toInt := by rw [eσ1_22]; rfl
          have : (σ1_22.2 4).toInt = (σ5_8.2 4).toInt := by rw [eσ1_22]; rfl
          have : (σ1_22.2 5).toInt = (σ5_8.2 5).toInt := by rw [eσ1_22]; rfl
          have : (σ1_22.2 6).toInt = (σ5_8.2 6).toInt := by rw [eσ1_22]; rfl
          have : (σ1_22.2 7).toInt = (σ5_8.2 7).toInt := by rw [eσ1_22]; rfl
          have : (σ1_22.2 8).toInt = (-1) := by rw [eσ1_22]; rfl
          have : (-2147483648 : Int) ≤ (σ1_22.2 0).toInt ∧ (σ1_22.2 0).toInt ≤ 2147483647 := Iσ1_22.2.1 0
          have : (0 : Int) ≤ (σ1_22.2 4).toInt ∧ (σ1_22.2 4).toInt ≤ 400 := Iσ1_22.2.1 4
          have : (0 : Int) ≤ (σ1_22.2 5).toInt ∧ (σ1_22.2 5).toInt ≤ 400 := Iσ1_22.2.1 5
          have : (0 : Int) ≤ (σ1_22.2 6).toInt ∧ (σ1_22.2 6).toInt ≤ 400 := Iσ1_22.2.1 6
          have : (0 : Int) ≤ (σ1_22.2 7).toInt ∧ (σ1_22.2 7).toInt ≤ 400 := Iσ1_22.2.1 7
          have : (-2147483648 : Int) ≤ (σ1_22.2 8).toInt ∧ (σ1_22.2 8).toInt ≤ 2147483647 := Iσ1_22.2.1 8
          refine hs_ite (fun h_23 => ?_) (fun h_23 => ?_)
          · have : (v6_7 : Int32).toInt = (0) := congrArg Int32.toInt h_23
            unfold fX10_check_74
            refine hs_th1 Iσ1_22 (hs_any _) (fun r => ⟨hm_Ri (by decide) r.1, ri 0 (by decide) _ _ r.2⟩) (fun σ1_24 eσ1_24 Iσ1_24 => ?_)
            have : (σ1_24.2 0).toInt = (2) := by rw [eσ1_24]; rfl
            have : (σ1_24.2 4).toInt = (σ1_22.2 4).toInt := by rw [eσ1_24]; rfl
            have : (σ1_24.2 5).toInt = (σ1_22.2 5).toInt := by rw [eσ1_24]; rfl
            have : (σ1_24.2 6).toInt = (σ1_22.2 6).toInt := by rw [eσ1_24]; rfl
            have : (σ1_24.2 7).toInt = (σ1_22.2 7).toInt := by rw [eσ1_24]; rfl
            have : (σ1_24.2 8).toInt = (σ1_22.2 8).toInt := by rw [eσ1_24]; rfl
            have : (-2147483648 : Int) ≤ (σ1_24.2 0).toInt ∧ (σ1_24.2 0).toInt ≤ 2147483647 := Iσ1_24.2.1 0
            have : (0 : Int) ≤ (σ1_24.2 4).toInt ∧ (σ1_24.2 4).toInt ≤ 400 := Iσ1_24.2.1 4
            have : (0 : Int) ≤ (σ1_24.2 5).toInt ∧ (σ1_24.2 5).toInt ≤ 400 := Iσ1_24.2.1 5
            have : (0 : Int) ≤ (σ1_24.2 6).toInt ∧ (σ1_24.2 6).toInt ≤ 400 := Iσ1_24.2.1 6
            have : (0 : Int) ≤ (σ1_24.2 7).toInt ∧ (σ1_24.2 7).toInt ≤ 400 := Iσ1_24.2.1 7
            have : (-2147483648 : Int) ≤ (σ1_24.2 8).toInt ∧ (σ1_24.2 8).toInt ≤ 2147483647 := Iσ1_24.2.1 8
            refine hs_ite (fun h_25 => ?_) (fun h_25 => ?_)
            · exact absurd h_25 (by decide)
            · skip
              exact hs_some (hQ σ1_24 (0 : Int32) Iσ1_24 (show (σ1_24.2 4).toInt = 0 by omega))
          · have : ¬ (v6_7 : Int32).toInt = (0) := fun z => h_23 (Int32.toInt_inj.mp z)
            unfold fX10_check_74
            refine hs_th0 ?_
            refine hs_ite (fun h_26 => ?_) (fun h_26 => ?_)
            · skip
              refine hs_bd (s_fX10_isFalse σ1_22 x1 Iσ1_22 (show 0 ≤ (x1 : Int32).toInt by omega) (show (x1 : Int32).toInt < 8 by omega) (fun v6_27  => ?_))
              refine hs_ga (j := 15) Iσ1_22 (by omega) (by omega) (fun v8_28 ev8_28 (bv8_28 : (-2147483648 : Int) ≤ v8_28.toInt ∧ v8_28.toInt ≤ 2147483647) => ?_)
              refine hs_pa (idx := x1) (v := _) Iσ1_22 (by omega) (by omega) (hs_any _) (fun r => ⟨hm_Ra (by decide) r.1, ra 15 (by decide) _ _ r.2⟩) (fun σ11_29 eσ11_29 Iσ11_29 => ?_)
              have : (σ11_29.2 0).toInt = (σ1_22.2 0).toInt := by rw [eσ11_29]; rfl
              have : (σ11_29.2 4).toInt = (σ1_22.2 4).toInt := by rw [eσ11_29]; rfl
              have : (σ11_29.2 5).toInt = (σ1_22.2 5).toInt := by rw [eσ11_29]; rfl
              have : (σ11_29.2 6).toInt = (σ1_22.2 6).toInt := by rw [eσ11_29]; rfl
              have : (σ11_29.2 7).toInt = (σ1_22.2 7).toInt := by rw [eσ11_29]; rfl
              have : (σ11_29.2 8).toInt = (σ1_22.2 8).toInt := by rw [eσ11_29]; rfl
              have : (-2147483648 : Int) ≤ (σ11_29.2 0).toInt ∧ (σ11_29.2 0).toInt ≤ 2147483647 := Iσ11_29.2.1 0
              have : (0 : Int) ≤ (σ11_29.2 4).toInt ∧ (σ11_29.2 4).toInt ≤ 400 := Iσ11_29.2.1 4
              have : (0 : Int) ≤ (σ11_29.2 5).toInt ∧ (σ11_29.2 5).toInt ≤ 400 := Iσ11_29.2.1 5
              have : (0 : Int) ≤ (σ11_29.2 6).toInt ∧ (σ11_29.2 6).toInt ≤ 400 := Iσ11_29.2.1 6
              have : (0 : Int) ≤ (σ11_29.2 7).toInt ∧ (σ11_29.2 7).toInt ≤ 400 := Iσ11_29.2.1 7
              have : (-2147483648 : Int) ≤ (σ11_29.2 8).toInt ∧ (σ11_29.2 8).toInt ≤ 2147483647 := Iσ11_29.2.1 8
              refine hs_ga (j := 16) Iσ11_29 (by omega) (by omega) (fun v14_30 ev14_30 (bv14_30 : (-2147483648 : Int) ≤ v14_30.toInt ∧ v14_30.toInt ≤ 2147483647) => ?_)
              refine hs_ite (fun h_31 => ?_) (fun h_31 => ?_)
              · have : (v6_27 : Int32).toInt ≤ (0) := Int32.le_iff_toInt_le.mp h_31
                unfold fX10_check_115
                refine hs_pa (idx := x1) (v := _) Iσ11_29 (by omega) (by omega) (hs_any _) (fun r => ⟨hm_Ra (by decide) r.1, ra 16 (by decide) _ _ r.2⟩) (fun σ1_32 eσ1_32 Iσ1_32 => ?_)
                have : (σ1_32.2 0).toInt = (σ11_29.2 0).toInt := by rw [eσ1_32]; rfl
                have : (σ1_32.2 4).toInt = (σ11_29.2 4).toInt := by rw [eσ1_32]; rfl
                have : (σ1_32.2 5).toInt = (σ11_29.2 5).toInt := by rw [eσ1_32]; rfl
                have : (σ1_32.2 6).toInt = (σ11_29.2 6).toInt := by rw [eσ1_32]; rfl
                have : (σ1_32.2 7).toInt = (σ11_29.2 7).toInt := by rw [eσ1_32]; rfl
                have : (σ1_32.2 8).toInt = (σ11_29.2 8).toInt := by rw [eσ1_32]; rfl
                have : (-2147483648 : Int) ≤ (σ1_32.2 0).toInt ∧ (σ1_32.2 0).toInt ≤ 2147483647 := Iσ1_32.2.1 0
                have : (0 : Int) ≤ (σ1_32.2 4).toInt ∧ (σ1_32.2 4).toInt ≤ 400 := Iσ1_32.2.1 4
                have : (0 : Int) ≤ (σ1_32.2 5).toInt ∧ (σ1_32.2 5).toInt ≤ 400 := Iσ1_32.2.1 5
                have : (0 : Int) ≤ (σ1_32.2 6).toInt ∧ (σ1_32.2 6).toInt ≤ 400 := Iσ1_32.2.1 6
                have : (0 : Int) ≤ (σ1_32.2 7).toInt ∧ (σ1_32.2 7).toInt ≤ 400 := Iσ1_32.2.1 7
                have : (-2147483648 : Int) ≤ (σ1_32.2 8).toInt ∧ (σ1_32.2 8).toInt ≤ 2147483647 := Iσ1_32.2.1 8
                exact hs_some (hQ σ1_32 (v6_27 : Int32) Iσ1_32 (show (σ1_32.2 4).toInt = 0 by omega))
              · have : ¬ (v6_27 : Int32).toInt ≤ (0) := fun z => h_31 (Int32.le_iff_toInt_le.mpr z)
                unfold fX10_check_115
                refine hs_pa (idx := x1) (v := _) Iσ11_29 (by omega) (by omega) (hs_any _) (fun r => ⟨hm_Ra (by decide) r.1, ra 16 (by decide) _ _ r.2⟩) (fun σ1_33 eσ1_33 Iσ1_33 => ?_)
                have : (σ1_33.2 0).toInt = (σ11_29.2 0).toInt := by rw [eσ1_33]; rfl
                have : (σ1_33.2 4).toInt = (σ11_29.2 4).toInt := by rw [eσ1_33]; rfl
                have : (σ1_33.2 5).toInt = (σ11_29.2 5).toInt := by rw [eσ1_33]; rfl
                have : (σ1_33.2 6).toInt = (σ11_29.2 6).toInt := by rw [eσ1_33]; rfl
                have : (σ1_33.2 7).toInt = (σ11_29.2 7).toInt := by rw [eσ1_33]; rfl
                have : (σ1_33.2 8).toInt = (σ11_29.2 8).toInt := by rw [eσ1_33]; rfl
                have : (-2147483648 : Int) ≤ (σ1_33.2 0).toInt ∧ (σ1_33.2 0).toInt ≤ 2147483647 := Iσ1_33.2.1 0
                have : (0 : Int) ≤ (σ1_33.2 4).toInt ∧ (σ1_33.2 4).toInt ≤ 400 := Iσ1_33.2.1 4
                have : (0 : Int) ≤ (σ1_33.2 5).toInt ∧ (σ1_33.2 5).toInt ≤ 400 := Iσ1_33.2.1 5
                have : (0 : Int) ≤ (σ1_33.2 6).toInt ∧ (σ1_33.2 6).toInt ≤ 400 := Iσ1_33.2.1 6
                have : (0 : Int) ≤ (σ1_33.2 7).toInt ∧ (σ1_33.2 7).toInt ≤ 400 := Iσ1_33.2.1 7
                have : (-2147483648 : Int) ≤ (σ1_33.2 8).toInt ∧ (σ1_33.2 8).toInt ≤ 2147483647 := Iσ1_33.2.1 8
                exact hs_some (hQ σ1_33 (v6_27 : Int32) Iσ1_33 (show (σ1_33.2 4).toInt = 0 by omega))
            · exact absurd (by decide) h_26
      · exact absurd (by decide) h_6
  · skip
    refine hs_ite (fun h_34 => ?_) (fun h_34 => ?_)
    · skip
      unfold fX10_check_34
      refine hs_th1 Iσ5_3 (hs_any _) (fun r => ⟨hm_Ri (by decide) r.1, ri 0 (by decide) _ _ r.2⟩) (fun σ1_35 eσ1_35 Iσ1_35 => ?_)
      have : (σ1_35.2 0).toInt = (1) := by rw [eσ1_35]; rfl
      have : (σ1_35.2 4).toInt = (σ5_3.2 4).toInt := by rw [eσ1_35]; rfl
      have : (σ1_35.2 5).toInt = (σ5_3.2 5).toInt := by rw [eσ1_35]; rfl
      have : (σ1_35.2 6).toInt = (σ5_3.2 6).toInt := by rw [eσ1_35]; rfl
      have : (σ1_35.2 7).toInt = (σ5_3.2 7).toInt := by rw [eσ1_35]; rfl
      have : (σ1_35.2 8).toInt = (σ5_3.2 8).toInt := by rw [eσ1_35]; rfl
      have : (-2147483648 : Int) ≤ (σ1_35.2 0).toInt ∧ (σ1_35.2 0).toInt ≤ 2147483647 := Iσ1_35.2.1 0
      have : (0 : Int) ≤ (σ1_35.2 4).toInt ∧ (σ1_35.2 4).toInt ≤ 400 := Iσ1_35.2.1 4
      have : (0 : Int) ≤ (σ1_35.2 5).toInt ∧ (σ1_35.2 5).toInt ≤ 400 := Iσ1_35.2.1 5
      have : (0 : Int) ≤ (σ1_35.2 6).toInt ∧ (σ1_35.2 6).toInt ≤ 400 := Iσ1_35.2.1 6
      have : (0 : Int) ≤ (σ1_35.2 7).toInt ∧ (σ1_35.2 7).toInt ≤ 400 := Iσ1_35.2.1 7
      have : (-2147483648 : Int) ≤ (σ1_35.2 8).toInt ∧ (σ1_35.2 8).toInt ≤ 2147483647 := Iσ1_35.2.1 8
      refine hs_ite (fun h_36 => ?_) (fun h_36 => ?_)
      · exact absurd h_36 (by decide)
      · skip
        exact hs_some (hQ σ1_35 (0 : Int32) Iσ1_35 (show (σ1_35.2 4).toInt = 0 by omega))
    · exact absurd (by decide) h_34
