noncomputable def hc_a : Nat → Int × Int := fun j => match j with
  | 1 => (0, 99999)
  | 5 => (0, 7)
  | 10 => (-1, 23)
  | 11 => (0, 59)
  | 12 => (0, 10)
  | 13 => (0, 59)
  | 18 => (0, 59)
  | 22 => (0, 12)
  | 23 => (0, 12)
  | 27 => (0, 59)
  | _ => (-2147483648, 2147483647)
noncomputable def hc_i : Nat → Int × Int := fun j => match j with
  | 2 => (0, 400)
  | 3 => (0, 8)
  | 4 => (0, 60)
  | 5 => (0, 4)
  | 6 => (0, 20)
  | 7 => (0, 60)
  | 8 => (0, 60)
  | 9 => (0, 60)
  | _ => (-2147483648, 2147483647)
noncomputable abbrev hc_I (R : hy_S → Prop) (σ : hy_S) : Prop := hs_I hc_a hc_i R σ
theorem s_fX2_add {R : hy_S → Prop} (ra : ∀ j, j ∈ ([2, 3, 4] : List Nat) → ∀ (τ : hy_S) (g : Nat → Int32), R τ → R (hy_sc τ j g)) (ri : ∀ j, j ∈ ([3] : List Nat) → ∀ (τ : hy_S) (v : Int32), R τ → R (hy_si τ j v)) (σ : hy_S) (x1 : Int32) (x2 : Int32) (x3 : Int32) {P : hy_S → Int32 → Prop} (I : hc_I R σ) (p0 : (σ.2 3).toInt < 8) (hQ : ∀ (σ9 : hy_S) (v9 : Int32), hc_I R σ9 → (σ9.2 3).toInt = (σ.2 3).toInt + 1 → v9.toInt = (σ.2 3).toInt → P σ9 v9) : hs_ok2 (fX2_add σ x1 x2 x3) P := by
  unfold fX2_add
  show hs_ok _ _
  have : (0 : Int) ≤ (σ.2 3).toInt ∧ (σ.2 3).toInt ≤ 8 := I.2.1 3
  refine hs_pa (idx := (σ.2 3)) (v := _) I (by omega) (by omega) (hs_any _) (ra 2 (by decide) _ _) (fun σ1_1 eσ1_1 Iσ1_1 => ?_)
  have : (σ1_1.2 3).toInt = (σ.2 3).toInt := by rw [eσ1_1]; rfl
  have : (0 : Int) ≤ (σ1_1.2 3).toInt ∧ (σ1_1.2 3).toInt ≤ 8 := Iσ1_1.2.1 3
  refine hs_pa (idx := (σ1_1.2 3)) (v := _) Iσ1_1 (by omega) (by omega) (hs_any _) (ra 3 (by decide) _ _) (fun σ4_2 eσ4_2 Iσ4_2 => ?_)
  have : (σ4_2.2 3).toInt = (σ1_1.2 3).toInt := by rw [eσ4_2]; rfl
  have : (0 : Int) ≤ (σ4_2.2 3).toInt ∧ (σ4_2.2 3).toInt ≤ 8 := Iσ4_2.2.1 3
  refine hs_pa (idx := (σ4_2.2 3)) (v := _) Iσ4_2 (by omega) (by omega) (hs_any _) (ra 4 (by decide) _ _) (fun σ7_3 eσ7_3 Iσ7_3 => ?_)
  have : (σ7_3.2 3).toInt = (σ4_2.2 3).toInt := by rw [eσ7_3]; rfl
  have : (0 : Int) ≤ (σ7_3.2 3).toInt ∧ (σ7_3.2 3).toInt ≤ 8 := Iσ7_3.2.1 3
  obtain ⟨e_4, he_4⟩ : ∃ e9 : Int32, e9 = ((σ7_3.2 3) + 1) := ⟨_, rfl⟩
  try have : e_4.toInt = ((σ7_3.2 3) : Int32).toInt + (1) := by rw [he_4]; exact hs_addk (1) rfl (by omega) (by omega)
  try rw [← he_4]
  refine hs_pf (v := e_4) Iσ7_3 ⟨(by omega : (0 : Int) ≤ (e_4 : Int32).toInt), (by omega : (e_4 : Int32).toInt ≤ 8)⟩ (ri 3 (by decide) _ _) (fun σ10_5 eσ10_5 Iσ10_5 => ?_)
  have : (σ10_5.2 3).toInt = (e_4 : Int32).toInt := by rw [eσ10_5]; rfl
  have : (0 : Int) ≤ (σ10_5.2 3).toInt ∧ (σ10_5.2 3).toInt ≤ 8 := Iσ10_5.2.1 3
  obtain ⟨e_6, he_6⟩ : ∃ e9 : Int32, e9 = ((σ10_5.2 3) - 1) := ⟨_, rfl⟩
  try have : e_6.toInt = ((σ10_5.2 3) : Int32).toInt - (1) := by rw [he_6]; exact hs_subk (1) rfl (by omega) (by omega)
  try rw [← he_6]
  exact hs_some (hQ σ10_5 (e_6 : Int32) Iσ10_5 (show (σ10_5.2 3).toInt = (σ.2 3).toInt + 1 by omega) (show (e_6 : Int32).toInt = (σ.2 3).toInt by omega))
theorem s_fX1_add {R : hy_S → Prop} (ra : ∀ j, j ∈ ([5, 6, 7, 8, 9, 10] : List Nat) → ∀ (τ : hy_S) (g : Nat → Int32), R τ → R (hy_sc τ j g)) (ri : ∀ j, j ∈ ([4] : List Nat) → ∀ (τ : hy_S) (v : Int32), R τ → R (hy_si τ j v)) (σ : hy_S) (x1 : Int32) (x2 : Int32) (x3 : Int32) {P : hy_S → Int32 → Prop} (I : hc_I R σ) (p0 : (σ.2 4).toInt < 60) (p1 : 0 ≤ x1.toInt) (p2 : x1.toInt ≤ 7) (hQ : ∀ (σ9 : hy_S) (v9 : Int32), hc_I R σ9 → (σ9.2 4).toInt = (σ.2 4).toInt + 1 → v9.toInt = (σ.2 4).toInt → P σ9 v9) : hs_ok2 (fX1_add σ x1 x2 x3) P := by
  unfold fX1_add
  show hs_ok _ _
  have : (0 : Int) ≤ (σ.2 4).toInt ∧ (σ.2 4).toInt ≤ 60 := I.2.1 4
  refine hs_pa (idx := (σ.2 4)) (v := x1) I (by omega) (by omega) ⟨(by omega : (0 : Int) ≤ (x1 : Int32).toInt), (by omega : (x1 : Int32).toInt ≤ 7)⟩ (ra 5 (by decide) _ _) (fun σ1_1 eσ1_1 Iσ1_1 => ?_)
  have : (σ1_1.2 4).toInt = (σ.2 4).toInt := by rw [eσ1_1]; rfl
  have : (0 : Int) ≤ (σ1_1.2 4).toInt ∧ (σ1_1.2 4).toInt ≤ 60 := Iσ1_1.2.1 4
  refine hs_pa (idx := (σ1_1.2 4)) (v := _) Iσ1_1 (by omega) (by omega) (hs_any _) (ra 6 (by decide) _ _) (fun σ4_2 eσ4_2 Iσ4_2 => ?_)
  have : (σ4_2.2 4).toInt = (σ1_1.2 4).toInt := by rw [eσ4_2]; rfl
  have : (0 : Int) ≤ (σ4_2.2 4).toInt ∧ (σ4_2.2 4).toInt ≤ 60 := Iσ4_2.2.1 4
  refine hs_pa (idx := (σ4_2.2 4)) (v := _) Iσ4_2 (by omega) (by omega) (hs_any _) (ra 7 (by decide) _ _) (fun σ7_3 eσ7_3 Iσ7_3 => ?_)
  have : (σ7_3.2 4).toInt = (σ4_2.2 4).toInt := by rw [eσ7_3]; rfl
  have : (0 : Int) ≤ (σ7_3.2 4).toInt ∧ (σ7_3.2 4).toInt ≤ 60 := Iσ7_3.2.1 4
  refine hs_pa (idx := (σ7_3.2 4)) (v := _) Iσ7_3 (by omega) (by omega) (hs_any _) (ra 8 (by decide) _ _) (fun σ10_4 eσ10_4 Iσ10_4 => ?_)
  have : (σ10_4.2 4).toInt = (σ7_3.2 4).toInt := by rw [eσ10_4]; rfl
  have : (0 : Int) ≤ (σ10_4.2 4).toInt ∧ (σ10_4.2 4).toInt ≤ 60 := Iσ10_4.2.1 4
  refine hs_pa (idx := (σ10_4.2 4)) (v := _) Iσ10_4 (by omega) (by omega) (hs_any _) (ra 9 (by decide) _ _) (fun σ13_5 eσ13_5 Iσ13_5 => ?_)
  have : (σ13_5.2 4).toInt = (σ10_4.2 4).toInt := by rw [eσ13_5]; rfl
  have : (0 : Int) ≤ (σ13_5.2 4).toInt ∧ (σ13_5.2 4).toInt ≤ 60 := Iσ13_5.2.1 4
  refine hs_pa (idx := (σ13_5.2 4)) (v := (-1)) Iσ13_5 (by omega) (by omega) ⟨by decide, by decide⟩ (ra 10 (by decide) _ _) (fun σ16_6 eσ16_6 Iσ16_6 => ?_)
  have : (σ16_6.2 4).toInt = (σ13_5.2 4).toInt := by rw [eσ16_6]; rfl
  have : (0 : Int) ≤ (σ16_6.2 4).toInt ∧ (σ16_6.2 4).toInt ≤ 60 := Iσ16_6.2.1 4
  obtain ⟨e_7, he_7⟩ : ∃ e9 : Int32, e9 = ((σ16_6.2 4) + 1) := ⟨_, rfl⟩
  try have : e_7.toInt = ((σ16_6.2 4) : Int32).toInt + (1) := by rw [he_7]; exact hs_addk (1) rfl (by omega) (by omega)
  try rw [← he_7]
  refine hs_pf (v := e_7) Iσ16_6 ⟨(by omega : (0 : Int) ≤ (e_7 : Int32).toInt), (by omega : (e_7 : Int32).toInt ≤ 60)⟩ (ri 4 (by decide) _ _) (fun σ19_8 eσ19_8 Iσ19_8 => ?_)
  have : (σ19_8.2 4).toInt = (e_7 : Int32).toInt := by rw [eσ19_8]; rfl
  have : (0 : Int) ≤ (σ19_8.2 4).toInt ∧ (σ19_8.2 4).toInt ≤ 60 := Iσ19_8.2.1 4
  obtain ⟨e_9, he_9⟩ : ∃ e9 : Int32, e9 = ((σ19_8.2 4) - 1) := ⟨_, rfl⟩
  try have : e_9.toInt = ((σ19_8.2 4) : Int32).toInt - (1) := by rw [he_9]; exact hs_subk (1) rfl (by omega) (by omega)
  try rw [← he_9]
  exact hs_some (hQ σ19_8 (e_9 : Int32) Iσ19_8 (show (σ19_8.2 4).toInt = (σ.2 4).toInt + 1 by omega) (show (e_9 : Int32).toInt = (σ.2 4).toInt by omega))
theorem s_fX1_pour {R : hy_S → Prop} (ra : ∀ j, j ∈ ([8] : List Nat) → ∀ (τ : hy_S) (g : Nat → Int32), R τ → R (hy_sc τ j g)) (ri : ∀ j, j ∈ ([] : List Nat) → ∀ (τ : hy_S) (v : Int32), R τ → R (hy_si τ j v)) (σ : hy_S) (x1 : Int32) (x2 : Int32) {P : hy_S → Int32 → Prop} (I : hc_I R σ) (p0 : 0 ≤ x1.toInt) (p1 : x1.toInt < 60) (hQ : ∀ (σ9 : hy_S) (v9 : Int32), hc_I R σ9 → P σ9 v9) : hs_ok2 (fX1_pour σ x1 x2) P := by
  unfold fX1_pour
  show hs_ok _ _
  refine hs_ga (j := 9) I (by omega) (by omega) (fun v1_1 ev1_1 (bv1_1 : (-2147483648 : Int) ≤ v1_1.toInt ∧ v1_1.toInt ≤ 2147483647) => ?_)
  refine hs_ite (fun h_2 => ?_) (fun h_2 => ?_)
  · have : (v1_1 : Int32).toInt = (0) := congrArg Int32.toInt h_2
    refine hs_ga (j := 8) I (by omega) (by omega) (fun v5_3 ev5_3 (bv5_3 : (-2147483648 : Int) ≤ v5_3.toInt ∧ v5_3.toInt ≤ 2147483647) => ?_)
    refine hs_ga (j := 5) I (by omega) (by omega) (fun v8_4 ev8_4 (bv8_4 : (0 : Int) ≤ v8_4.toInt ∧ v8_4.toInt ≤ 7) => ?_)
    refine hs_ga (j := 3) I (by omega) (by omega) (fun v11_5 ev11_5 (bv11_5 : (-2147483648 : Int) ≤ v11_5.toInt ∧ v11_5.toInt ≤ 2147483647) => ?_)
    obtain ⟨e_6, he_6⟩ : ∃ e9 : Int32, e9 = (v5_3 + x2) := ⟨_, rfl⟩
    try have : e_6.toInt = (v5_3 : Int32).toInt + (x2 : Int32).toInt := by rw [he_6]; exact hs_add (by omega) (by omega)
    try rw [← he_6]
    refine hs_ite (fun h_7 => ?_) (fun h_7 => ?_)
    · have : (e_6 : Int32).toInt ≤ (v11_5 : Int32).toInt := Int32.le_iff_toInt_le.mp h_7
      refine hs_ga (j := 8) I (by omega) (by omega) (fun v15_8 ev15_8 (bv15_8 : (-2147483648 : Int) ≤ v15_8.toInt ∧ v15_8.toInt ≤ 2147483647) => ?_)
      refine hs_pa (idx := x1) (v := _) I (by omega) (by omega) (hs_any _) (ra 8 (by decide) _ _) (fun σ18_9 eσ18_9 Iσ18_9 => ?_)
      refine hs_ga (j := 8) Iσ18_9 (by omega) (by omega) (fun v21_10 ev21_10 (bv21_10 : (-2147483648 : Int) ≤ v21_10.toInt ∧ v21_10.toInt ≤ 2147483647) => ?_)
      exact hs_some (hQ σ18_9 (v21_10 : Int32) Iσ18_9 )
    · have : ¬ (e_6 : Int32).toInt ≤ (v11_5 : Int32).toInt := fun z => h_7 (Int32.le_iff_toInt_le.mpr z)
      exact hs_some (hQ σ ((-1) : Int32) I )
  · have : ¬ (v1_1 : Int32).toInt = (0) := fun z => h_2 (Int32.toInt_inj.mp z)
    exact hs_some (hQ σ ((-1) : Int32) I )
theorem s_fX1_move {R : hy_S → Prop} (ra : ∀ j, j ∈ ([9, 10] : List Nat) → ∀ (τ : hy_S) (g : Nat → Int32), R τ → R (hy_sc τ j g)) (ri : ∀ j, j ∈ ([] : List Nat) → ∀ (τ : hy_S) (v : Int32), R τ → R (hy_si τ j v)) (σ : hy_S) (x1 : Int32) (x2 : Int32) (x3 : Int32) {P : hy_S → Int32 → Prop} (I : hc_I R σ) (p0 : 0 ≤ x1.toInt) (p1 : x1.toInt < 60) (p2 : -1 ≤ x3.toInt) (p3 : x3.toInt ≤ 23) (hQ : ∀ (σ9 : hy_S) (v9 : Int32), hc_I R σ9 → P σ9 v9) : hs_ok2 (fX1_move σ x1 x2 x3) P := by
  unfold fX1_move
  show hs_ok _ _
  refine hs_pa (idx := x1) (v := _) I (by omega) (by omega) (hs_any _) (ra 9 (by decide) _ _) (fun σ1_1 eσ1_1 Iσ1_1 => ?_)
  refine hs_pa (idx := x1) (v := x3) Iσ1_1 (by omega) (by omega) ⟨(by omega : (-1 : Int) ≤ (x3 : Int32).toInt), (by omega : (x3 : Int32).toInt ≤ 23)⟩ (ra 10 (by decide) _ _) (fun σ4_2 eσ4_2 Iσ4_2 => ?_)
  exact hs_some (hQ σ4_2 (0 : Int32) Iσ4_2 )
theorem s_fX1_weight {R : hy_S → Prop} (σ : hy_S) (x1 : Int32) {P : hy_S → Int32 → Prop} (I : hc_I R σ) (p0 : 0 ≤ x1.toInt) (p1 : x1.toInt < 60) (hQ : ∀ v9 : Int32, P σ v9) : hs_ok2 (fX1_weight σ x1) P := by
  unfold fX1_weight
  show hs_ok _ _
  refine hs_ga (j := 5) I (by omega) (by omega) (fun v1_1 ev1_1 (bv1_1 : (0 : Int) ≤ v1_1.toInt ∧ v1_1.toInt ≤ 7) => ?_)
  refine hs_ga (j := 2) I (by omega) (by omega) (fun v4_2 ev4_2 (bv4_2 : (-2147483648 : Int) ≤ v4_2.toInt ∧ v4_2.toInt ≤ 2147483647) => ?_)
  refine hs_ga (j := 8) I (by omega) (by omega) (fun v7_3 ev7_3 (bv7_3 : (-2147483648 : Int) ≤ v7_3.toInt ∧ v7_3.toInt ≤ 2147483647) => ?_)
  obtain ⟨e_4, he_4⟩ : ∃ e9 : Int32, e9 = (v4_2 + v7_3) := ⟨_, rfl⟩
  try have : e_4.toInt = (v4_2 : Int32).toInt + (v7_3 : Int32).toInt := by rw [he_4]; exact hs_add (by omega) (by omega)
  try rw [← he_4]
  exact hs_some (hQ (e_4 : Int32) )
theorem s_fX1_bears {R : hy_S → Prop} (σ : hy_S) (x1 : Int32) {P : hy_S → Int32 → Prop} (I : hc_I R σ) (p0 : 0 ≤ x1.toInt) (p1 : x1.toInt < 60) (hQ : ∀ v9 : Int32, P σ v9) : hs_ok2 (fX1_bears σ x1) P := by
  unfold fX1_bears
  show hs_ok _ _
  refine hs_ga (j := 5) I (by omega) (by omega) (fun v1_1 ev1_1 (bv1_1 : (0 : Int) ≤ v1_1.toInt ∧ v1_1.toInt ≤ 7) => ?_)
  refine hs_ga (j := 4) I (by omega) (by omega) (fun v4_2 ev4_2 (bv4_2 : (-2147483648 : Int) ≤ v4_2.toInt ∧ v4_2.toInt ≤ 2147483647) => ?_)
  exact hs_some (hQ (v4_2 : Int32) )
theorem s_fX1_countIn_4 {R : hy_S → Prop} {Q : hy_S × Int32 → Prop} : ∀ (n : Nat) (σ : hy_S) (x1 : Int32) (x2 : Int32) (x3 : Int32), hc_I R σ → 0 ≤ x3.toInt → x3.toInt ≤ 60 → 60 - x3.toInt < (n : Int) → (∀ v9 : Int32, Q (σ, v9)) → hs_ok (fX1_countIn_4 n σ x1 x2 x3) Q := by
  intro n
  induction n with
  | zero =>
    intro σ x1 x2 x3 I p0 p1  hm hQ
    have : (0 : Int) ≤ (σ.2 4).toInt ∧ (σ.2 4).toInt ≤ 60 := I.2.1 4
    exact absurd hm (by omega)
  | succ n ih =>
    intro σ x1 x2 x3 I p0 p1  hm hQ
    unfold fX1_countIn_4
    have : (0 : Int) ≤ (σ.2 4).toInt ∧ (σ.2 4).toInt ≤ 60 := I.2.1 4
    refine hs_ite (fun h_1 => ?_) (fun h_1 => ?_)
    · have : ((σ.2 4) : Int32).toInt ≤ (x3 : Int32).toInt := Int32.le_iff_toInt_le.mp h_1
      exact hs_some (hQ (x2 : Int32) )
    · have : ¬ ((σ.2 4) : Int32).toInt ≤ (x3 : Int32).toInt := fun z => h_1 (Int32.le_iff_toInt_le.mpr z)
      refine hs_ga (j := 9) I (by omega) (by omega) (fun v2_2 ev2_2 (bv2_2 : (-2147483648 : Int) ≤ v2_2.toInt ∧ v2_2.toInt ≤ 2147483647) => ?_)
      refine hs_ite (fun h_3 => ?_) (fun h_3 => ?_)
      · have : (v2_2 : Int32).toInt = (x1 : Int32).toInt := congrArg Int32.toInt h_3
        unfold fX1_countIn_25
        obtain ⟨e_4, he_4⟩ : ∃ e9 : Int32, e9 = (x2 + 1) := ⟨_, rfl⟩
        try have : e_4.toInt = (x2 : Int32).toInt + (1) := by rw [he_4]; exact hs_addk (1) rfl (by omega) (by omega)
        try rw [← he_4]
        obtain ⟨e_5, he_5⟩ : ∃ e9 : Int32, e9 = (x3 + 1) := ⟨_, rfl⟩
        try have : e_5.toInt = (x3 : Int32).toInt + (1) := by rw [he_5]; exact hs_addk (1) rfl (by omega) (by omega)
        try rw [← he_5]
        exact ih σ (x1 : Int32) (e_4 : Int32) (e_5 : Int32) I (show 0 ≤ (e_5 : Int32).toInt by omega) (show (e_5 : Int32).toInt ≤ 60 by omega)  (by omega) hQ
      · have : ¬ (v2_2 : Int32).toInt = (x1 : Int32).toInt := fun z => h_3 (Int32.toInt_inj.mp z)
        unfold fX1_countIn_25
        obtain ⟨e_6, he_6⟩ : ∃ e9 : Int32, e9 = (x3 + 1) := ⟨_, rfl⟩
        try have : e_6.toInt = (x3 : Int32).toInt + (1) := by rw [he_6]; exact hs_addk (1) rfl (by omega) (by omega)
        try rw [← he_6]
        exact ih σ (x1 : Int32) (x2 : Int32) (e_6 : Int32) I (show 0 ≤ (e_6 : Int32).toInt by omega) (show (e_6 : Int32).toInt ≤ 60 by omega)  (by omega) hQ
theorem s_fX1_countIn {R : hy_S → Prop} (σ : hy_S) (x1 : Int32) {P : hy_S → Int32 → Prop} (I : hc_I R σ) (hQ : ∀ v9 : Int32, P σ v9) : hs_ok2 (fX1_countIn σ x1) P := by
  unfold fX1_countIn
  show hs_ok _ _
  have hfu : ((hy_fu : Nat) : Int) = 5000 := rfl
  refine s_fX1_countIn_4   hy_fu σ (x1 : Int32) (0 : Int32) (0 : Int32) I (show 0 ≤ (0) by omega) (show (0) ≤ 60 by omega)  (show 60 - (0) < ((hy_fu : Nat) : Int) by rw [hfu]; omega) (fun v_1  => ?_)
  exact (hQ (v_1 : Int32) )
theorem s_fX1_oilUnbroken_4 {R : hy_S → Prop} {Q : hy_S × Int32 → Prop} : ∀ (n : Nat) (σ : hy_S) (x1 : Int32) (x2 : Int32), hc_I R σ → 0 ≤ x2.toInt → x2.toInt ≤ 60 → 60 - x2.toInt < (n : Int) → (∀ v9 : Int32, Q (σ, v9)) → hs_ok (fX1_oilUnbroken_4 n σ x1 x2) Q := by
  intro n
  induction n with
  | zero =>
    intro σ x1 x2 I p0 p1  hm hQ
    have : (0 : Int) ≤ (σ.2 4).toInt ∧ (σ.2 4).toInt ≤ 60 := I.2.1 4
    exact absurd hm (by omega)
  | succ n ih =>
    intro σ x1 x2 I p0 p1  hm hQ
    unfold fX1_oilUnbroken_4
    have : (0 : Int) ≤ (σ.2 4).toInt ∧ (σ.2 4).toInt ≤ 60 := I.2.1 4
    refine hs_ite (fun h_1 => ?_) (fun h_1 => ?_)
    · have : ((σ.2 4) : Int32).toInt ≤ (x2 : Int32).toInt := Int32.le_iff_toInt_le.mp h_1
      exact hs_some (hQ (x1 : Int32) )
    · have : ¬ ((σ.2 4) : Int32).toInt ≤ (x2 : Int32).toInt := fun z => h_1 (Int32.le_iff_toInt_le.mpr z)
      refine hs_ga (j := 9) I (by omega) (by omega) (fun v2_2 ev2_2 (bv2_2 : (-2147483648 : Int) ≤ v2_2.toInt ∧ v2_2.toInt ≤ 2147483647) => ?_)
      refine hs_ite (fun h_3 => ?_) (fun h_3 => ?_)
      · have : (v2_2 : Int32).toInt = (3) := congrArg Int32.toInt h_3
        unfold fX1_oilUnbroken_31
        obtain ⟨e_4, he_4⟩ : ∃ e9 : Int32, e9 = (x2 + 1) := ⟨_, rfl⟩
        try have : e_4.toInt = (x2 : Int32).toInt + (1) := by rw [he_4]; exact hs_addk (1) rfl (by omega) (by omega)
        try rw [← he_4]
        exact ih σ (x1 : Int32) (e_4 : Int32) I (show 0 ≤ (e_4 : Int32).toInt by omega) (show (e_4 : Int32).toInt ≤ 60 by omega)  (by omega) hQ
      · have : ¬ (v2_2 : Int32).toInt = (3) := fun z => h_3 (Int32.toInt_inj.mp z)
        refine hs_ga (j := 8) I (by omega) (by omega) (fun v6_5 ev6_5 (bv6_5 : (-2147483648 : Int) ≤ v6_5.toInt ∧ v6_5.toInt ≤ 2147483647) => ?_)
        unfold fX1_oilUnbroken_31
        obtain ⟨e_6, he_6⟩ : ∃ e9 : Int32, e9 = (x1 + v6_5) := ⟨_, rfl⟩
        try have : e_6.toInt = (x1 : Int32).toInt + (v6_5 : Int32).toInt := by rw [he_6]; exact hs_add (by omega) (by omega)
        try rw [← he_6]
        obtain ⟨e_7, he_7⟩ : ∃ e9 : Int32, e9 = (x2 + 1) := ⟨_, rfl⟩
        try have : e_7.toInt = (x2 : Int32).toInt + (1) := by rw [he_7]; exact hs_addk (1) rfl (by omega) (by omega)
        try rw [← he_7]
        exact ih σ (e_6 : Int32) (e_7 : Int32) I (show 0 ≤ (e_7 : Int32).toInt by omega) (show (e_7 : Int32).toInt ≤ 60 by omega)  (by omega) hQ
theorem s_fX1_oilUnbroken {R : hy_S → Prop} (σ : hy_S) {P : hy_S → Int32 → Prop} (I : hc_I R σ) (hQ : ∀ v9 : Int32, P σ v9) : hs_ok2 (fX1_oilUnbroken σ ) P := by
  unfold fX1_oilUnbroken
  show hs_ok _ _
  have hfu : ((hy_fu : Nat) : Int) = 5000 := rfl
  refine s_fX1_oilUnbroken_4   hy_fu σ (0 : Int32) (0 : Int32) I (show 0 ≤ (0) by omega) (show (0) ≤ 60 by omega)  (show 60 - (0) < ((hy_fu : Nat) : Int) by rw [hfu]; omega) (fun v_1  => ?_)
  exact (hQ (v_1 : Int32) )
theorem s_fX0_pileOf {R : hy_S → Prop} (σ : hy_S) (x0 : Int32) (x1 : Int32) {P : hy_S → Int32 → Prop} (I : hc_I R σ) (p0 : 0 ≤ x0.toInt) (p1 : x0.toInt ≤ 3) (p2 : 0 ≤ x1.toInt) (p3 : x1.toInt ≤ 5) (hQ : ∀ v9 : Int32, v9.toInt = x0.toInt * 6 + x1.toInt → P σ v9) : hs_ok2 (fX0_pileOf σ x0 x1) P := by
  unfold fX0_pileOf
  show hs_ok _ _
  obtain ⟨e_1, he_1⟩ : ∃ e9 : Int32, e9 = (x0 * 6) := ⟨_, rfl⟩
  try have : e_1.toInt = (x0 : Int32).toInt * (6) := by rw [he_1]; exact hs_mulr (6) rfl (by omega) (by omega)
  try rw [← he_1]
  obtain ⟨e_2, he_2⟩ : ∃ e9 : Int32, e9 = (e_1 + x1) := ⟨_, rfl⟩
  try have : e_2.toInt = (e_1 : Int32).toInt + (x1 : Int32).toInt := by rw [he_2]; exact hs_add (by omega) (by omega)
  try rw [← he_2]
  exact hs_some (hQ (e_2 : Int32) (show (e_2 : Int32).toInt = x0.toInt * 6 + x1.toInt by omega))
theorem s_fX0_shipOf {R : hy_S → Prop} (σ : hy_S) (x0 : Int32) {P : hy_S → Int32 → Prop} (I : hc_I R σ) (hQ : ∀ v9 : Int32, P σ v9) : hs_ok2 (fX0_shipOf σ x0) P := by
  unfold fX0_shipOf
  show hs_ok _ _
  refine hs_ite (fun h_1 => ?_) (fun h_1 => ?_)
  · have : (x0 : Int32).toInt = (-1) := congrArg Int32.toInt h_1
    exact hs_some (hQ ((-1) : Int32) )
  · have : ¬ (x0 : Int32).toInt = (-1) := fun z => h_1 (Int32.toInt_inj.mp z)
    obtain ⟨e_2, he_2⟩ : ∃ e9 : Int32, e9 = (x0 / 6) := ⟨_, rfl⟩
    try have : e_2.toInt = (x0 : Int32).toInt / (6) := by rw [he_2]; exact hs_div (6) rfl (by omega) (by omega)
    try rw [← he_2]
    exact hs_some (hQ (e_2 : Int32) )
theorem s_fX0_holdOf {R : hy_S → Prop} (σ : hy_S) (x0 : Int32) {P : hy_S → Int32 → Prop} (I : hc_I R σ) (hQ : ∀ v9 : Int32, P σ v9) : hs_ok2 (fX0_holdOf σ x0) P := by
  unfold fX0_holdOf
  show hs_ok _ _
  refine hs_ite (fun h_1 => ?_) (fun h_1 => ?_)
  · have : (x0 : Int32).toInt = (-1) := congrArg Int32.toInt h_1
    exact hs_some (hQ ((-1) : Int32) )
  · have : ¬ (x0 : Int32).toInt = (-1) := fun z => h_1 (Int32.toInt_inj.mp z)
    obtain ⟨e_2, he_2⟩ : ∃ e9 : Int32, e9 = (x0 / 6) := ⟨_, rfl⟩
    try have : e_2.toInt = (x0 : Int32).toInt / (6) := by rw [he_2]; exact hs_div (6) rfl (by omega) (by omega)
    try rw [← he_2]
    obtain ⟨e_3, he_3⟩ : ∃ e9 : Int32, e9 = (e_2 * 6) := ⟨_, rfl⟩
    try have : e_3.toInt = (e_2 : Int32).toInt * (6) := by rw [he_3]; exact hs_mulr (6) rfl (by omega) (by omega)
    try rw [← he_3]
    obtain ⟨e_4, he_4⟩ : ∃ e9 : Int32, e9 = (x0 - e_3) := ⟨_, rfl⟩
    try have : e_4.toInt = (x0 : Int32).toInt - (e_3 : Int32).toInt := by rw [he_4]; exact hs_sub (by omega) (by omega)
    try rw [← he_4]
    exact hs_some (hQ (e_4 : Int32) )
theorem s_fX0_add {R : hy_S → Prop} (ra : ∀ j, j ∈ ([] : List Nat) → ∀ (τ : hy_S) (g : Nat → Int32), R τ → R (hy_sc τ j g)) (ri : ∀ j, j ∈ ([5] : List Nat) → ∀ (τ : hy_S) (v : Int32), R τ → R (hy_si τ j v)) (σ : hy_S) {P : hy_S → Int32 → Prop} (I : hc_I R σ) (p0 : (σ.2 5).toInt < 4) (hQ : ∀ (σ9 : hy_S) (v9 : Int32), hc_I R σ9 → (σ9.2 5).toInt = (σ.2 5).toInt + 1 → v9.toInt = (σ.2 5).toInt → P σ9 v9) : hs_ok2 (fX0_add σ ) P := by
  unfold fX0_add
  show hs_ok _ _
  have : (0 : Int) ≤ (σ.2 5).toInt ∧ (σ.2 5).toInt ≤ 4 := I.2.1 5
  obtain ⟨e_1, he_1⟩ : ∃ e9 : Int32, e9 = ((σ.2 5) + 1) := ⟨_, rfl⟩
  try have : e_1.toInt = ((σ.2 5) : Int32).toInt + (1) := by rw [he_1]; exact hs_addk (1) rfl (by omega) (by omega)
  try rw [← he_1]
  refine hs_pf (v := e_1) I ⟨(by omega : (0 : Int) ≤ (e_1 : Int32).toInt), (by omega : (e_1 : Int32).toInt ≤ 4)⟩ (ri 5 (by decide) _ _) (fun σ1_2 eσ1_2 Iσ1_2 => ?_)
  have : (σ1_2.2 5).toInt = (e_1 : Int32).toInt := by rw [eσ1_2]; rfl
  have : (0 : Int) ≤ (σ1_2.2 5).toInt ∧ (σ1_2.2 5).toInt ≤ 4 := Iσ1_2.2.1 5
  obtain ⟨e_3, he_3⟩ : ∃ e9 : Int32, e9 = ((σ1_2.2 5) - 1) := ⟨_, rfl⟩
  try have : e_3.toInt = ((σ1_2.2 5) : Int32).toInt - (1) := by rw [he_3]; exact hs_subk (1) rfl (by omega) (by omega)
  try rw [← he_3]
  exact hs_some (hQ σ1_2 (e_3 : Int32) Iσ1_2 (show (σ1_2.2 5).toInt = (σ.2 5).toInt + 1 by omega) (show (e_3 : Int32).toInt = (σ.2 5).toInt by omega))
theorem s_fX0_jarAt {R : hy_S → Prop} (σ : hy_S) (x1 : Int32) (x2 : Int32) {P : hy_S → Int32 → Prop} (I : hc_I R σ) (p0 : 0 ≤ x1.toInt) (p1 : x1.toInt < 24) (hQ : ∀ v9 : Int32, -1 ≤ v9.toInt → v9.toInt ≤ 59 → v9.toInt = -1 ∨ 0 ≤ x2.toInt → P σ v9) : hs_ok2 (fX0_jarAt σ x1 x2) P := by
  unfold fX0_jarAt
  show hs_ok _ _
  refine hs_ite (fun h_1 => ?_) (fun h_1 => ?_)
  · have : (x2 : Int32).toInt < (0) := Int32.lt_iff_toInt_lt.mp h_1
    unfold fX0_jarAt_14
    exact hs_some (hQ ((-1) : Int32) (show -1 ≤ (-1) by omega) (show (-1) ≤ 59 by omega) (show (-1) = -1 ∨ 0 ≤ x2.toInt by omega))
  · have : ¬ (x2 : Int32).toInt < (0) := fun z => h_1 (Int32.lt_iff_toInt_lt.mpr z)
    refine hs_ga (j := 12) I (by omega) (by omega) (fun v2_2 ev2_2 (bv2_2 : (0 : Int) ≤ v2_2.toInt ∧ v2_2.toInt ≤ 10) => ?_)
    have : (σ.1 12 (x1 : Int32).toNatClampNeg).toInt = v2_2.toInt := by rw [ev2_2]
    refine hs_ite (fun h_3 => ?_) (fun h_3 => ?_)
    · have : (x2 : Int32).toInt < (v2_2 : Int32).toInt := Int32.lt_iff_toInt_lt.mp h_3
      obtain ⟨e_4, he_4⟩ : ∃ e9 : Int32, e9 = (x1 * 10) := ⟨_, rfl⟩
      try have : e_4.toInt = (x1 : Int32).toInt * (10) := by rw [he_4]; exact hs_mulr (10) rfl (by omega) (by omega)
      try rw [← he_4]
      obtain ⟨e_5, he_5⟩ : ∃ e9 : Int32, e9 = (e_4 + x2) := ⟨_, rfl⟩
      try have : e_5.toInt = (e_4 : Int32).toInt + (x2 : Int32).toInt := by rw [he_5]; exact hs_add (by omega) (by omega)
      try rw [← he_5]
      refine hs_ga (j := 11) I (by omega) (by omega) (fun v6_6 ev6_6 (bv6_6 : (0 : Int) ≤ v6_6.toInt ∧ v6_6.toInt ≤ 59) => ?_)
      exact hs_some (hQ (v6_6 : Int32) (show -1 ≤ (v6_6 : Int32).toInt by omega) (show (v6_6 : Int32).toInt ≤ 59 by omega) (show (v6_6 : Int32).toInt = -1 ∨ 0 ≤ x2.toInt by omega))
    · have : ¬ (x2 : Int32).toInt < (v2_2 : Int32).toInt := fun z => h_3 (Int32.lt_iff_toInt_lt.mpr z)
      unfold fX0_jarAt_14
      exact hs_some (hQ ((-1) : Int32) (show -1 ≤ (-1) by omega) (show (-1) ≤ 59 by omega) (show (-1) = -1 ∨ 0 ≤ x2.toInt by omega))
theorem s_fX0_setTop {R : hy_S → Prop} (ra : ∀ j, j ∈ ([11, 12] : List Nat) → ∀ (τ : hy_S) (g : Nat → Int32), R τ → R (hy_sc τ j g)) (ri : ∀ j, j ∈ ([] : List Nat) → ∀ (τ : hy_S) (v : Int32), R τ → R (hy_si τ j v)) (σ : hy_S) (x1 : Int32) (x2 : Int32) {P : hy_S → Int32 → Prop} (I : hc_I R σ) (p0 : 0 ≤ x1.toInt) (p1 : x1.toInt < 24) (p2 : 0 ≤ x2.toInt) (p3 : x2.toInt ≤ 59) (p4 : (σ.1 12 (x1 : Int32).toNatClampNeg).toInt < 10) (hQ : ∀ (σ9 : hy_S) (v9 : Int32), hc_I R σ9 → (σ9.1 12 (x1 : Int32).toNatClampNeg).toInt = (σ.1 12 (x1 : Int32).toNatClampNeg).toInt + 1 → P σ9 v9) : hs_ok2 (fX0_setTop σ x1 x2) P := by
  unfold fX0_setTop
  show hs_ok _ _
  have : (0 : Int) ≤ (σ.1 12 (x1 : Int32).toNatClampNeg).toInt ∧ (σ.1 12 (x1 : Int32).toNatClampNeg).toInt ≤ 10 := I.1 12 _
  refine hs_ga (j := 12) I (by omega) (by omega) (fun v1_1 ev1_1 (bv1_1 : (0 : Int) ≤ v1_1.toInt ∧ v1_1.toInt ≤ 10) => ?_)
  have : (σ.1 12 (x1 : Int32).toNatClampNeg).toInt = v1_1.toInt := by rw [ev1_1]
  obtain ⟨e_2, he_2⟩ : ∃ e9 : Int32, e9 = (x1 * 10) := ⟨_, rfl⟩
  try have : e_2.toInt = (x1 : Int32).toInt * (10) := by rw [he_2]; exact hs_mulr (10) rfl (by omega) (by omega)
  try rw [← he_2]
  obtain ⟨e_3, he_3⟩ : ∃ e9 : Int32, e9 = (e_2 + v1_1) := ⟨_, rfl⟩
  try have : e_3.toInt = (e_2 : Int32).toInt + (v1_1 : Int32).toInt := by rw [he_3]; exact hs_add (by omega) (by omega)
  try rw [← he_3]
  refine hs_pa (idx := e_3) (v := x2) I (by omega) (by omega) ⟨(by omega : (0 : Int) ≤ (x2 : Int32).toInt), (by omega : (x2 : Int32).toInt ≤ 59)⟩ (ra 11 (by decide) _ _) (fun σ4_4 eσ4_4 Iσ4_4 => ?_)
  have : (σ4_4.1 12 (x1 : Int32).toNatClampNeg).toInt = (σ.1 12 (x1 : Int32).toNatClampNeg).toInt := by rw [eσ4_4]; rfl
  have : (0 : Int) ≤ (σ4_4.1 12 (x1 : Int32).toNatClampNeg).toInt ∧ (σ4_4.1 12 (x1 : Int32).toNatClampNeg).toInt ≤ 10 := Iσ4_4.1 12 _
  refine hs_ga (j := 12) Iσ4_4 (by omega) (by omega) (fun v7_5 ev7_5 (bv7_5 : (0 : Int) ≤ v7_5.toInt ∧ v7_5.toInt ≤ 10) => ?_)
  have : (σ4_4.1 12 (x1 : Int32).toNatClampNeg).toInt = v7_5.toInt := by rw [ev7_5]
  obtain ⟨e_7, he_7⟩ : ∃ e9 : Int32, e9 = (v7_5 + 1) := ⟨_, rfl⟩
  try have : e_7.toInt = (v7_5 : Int32).toInt + (1) := by rw [he_7]; exact hs_addk (1) rfl (by omega) (by omega)
  try rw [← he_7]
  refine hs_pa (idx := x1) (v := e_7) Iσ4_4 (by omega) (by omega) ⟨(by omega : (0 : Int) ≤ (e_7 : Int32).toInt), (by omega : (e_7 : Int32).toInt ≤ 10)⟩ (ra 12 (by decide) _ _) (fun σ10_6 eσ10_6 Iσ10_6 => ?_)
  have : (σ10_6.1 12 (x1 : Int32).toNatClampNeg).toInt = (e_7 : Int32).toInt := by rw [eσ10_6]; exact hs_same _ _ _ _
  have : (0 : Int) ≤ (σ10_6.1 12 (x1 : Int32).toNatClampNeg).toInt ∧ (σ10_6.1 12 (x1 : Int32).toNatClampNeg).toInt ≤ 10 := Iσ10_6.1 12 _
  exact hs_some (hQ σ10_6 (0 : Int32) Iσ10_6 (show (σ10_6.1 12 (x1 : Int32).toNatClampNeg).toInt = (σ.1 12 (x1 : Int32).toNatClampNeg).toInt + 1 by omega))
theorem s_fX0_canBear_19 {R : hy_S → Prop} {Q : hy_S × Int32 → Prop} : ∀ (n : Nat) (σ : hy_S) (x1 : Int32) (x3 : Int32) (x4 : Int32), hc_I R σ → 0 ≤ x1.toInt → x1.toInt < 24 → -1 ≤ x4.toInt → x4.toInt ≤ 9 → x4.toInt + 1 < (n : Int) → (∀ v9 : Int32, 0 ≤ v9.toInt → v9.toInt ≤ 1 → Q (σ, v9)) → hs_ok (fX0_canBear_19 n σ x1 x3 x4) Q := by
  intro n
  induction n with
  | zero =>
    intro σ x1 x3 x4 I p0 p1 p2 p3  hm hQ
    exact absurd hm (by omega)
  | succ n ih =>
    intro σ x1 x3 x4 I p0 p1 p2 p3  hm hQ
    unfold fX0_canBear_19
    refine hs_ite (fun h_1 => ?_) (fun h_1 => ?_)
    · have : (x4 : Int32).toInt < (0) := Int32.lt_iff_toInt_lt.mp h_1
      exact hs_some (hQ (1 : Int32) (show 0 ≤ (1) by omega) (show (1) ≤ 1 by omega))
    · have : ¬ (x4 : Int32).toInt < (0) := fun z => h_1 (Int32.lt_iff_toInt_lt.mpr z)
      obtain ⟨e_2, he_2⟩ : ∃ e9 : Int32, e9 = (x1 * 10) := ⟨_, rfl⟩
      try have : e_2.toInt = (x1 : Int32).toInt * (10) := by rw [he_2]; exact hs_mulr (10) rfl (by omega) (by omega)
      try rw [← he_2]
      obtain ⟨e_3, he_3⟩ : ∃ e9 : Int32, e9 = (e_2 + x4) := ⟨_, rfl⟩
      try have : e_3.toInt = (e_2 : Int32).toInt + (x4 : Int32).toInt := by rw [he_3]; exact hs_add (by omega) (by omega)
      try rw [← he_3]
      refine hs_ga (j := 11) I (by omega) (by omega) (fun v2_4 ev2_4 (bv2_4 : (0 : Int) ≤ v2_4.toInt ∧ v2_4.toInt ≤ 59) => ?_)
      refine hs_bd (s_fX1_bears σ v2_4 I (show 0 ≤ (v2_4 : Int32).toInt by omega) (show (v2_4 : Int32).toInt < 60 by omega) (fun v6_5  => ?_))
      refine hs_ite (fun h_6 => ?_) (fun h_6 => ?_)
      · have : (x3 : Int32).toInt ≤ (v6_5 : Int32).toInt := Int32.le_iff_toInt_le.mp h_6
        refine hs_bd (s_fX1_weight σ v2_4 I (show 0 ≤ (v2_4 : Int32).toInt by omega) (show (v2_4 : Int32).toInt < 60 by omega) (fun v10_7  => ?_))
        obtain ⟨e_8, he_8⟩ : ∃ e9 : Int32, e9 = (x3 + v10_7) := ⟨_, rfl⟩
        try have : e_8.toInt = (x3 : Int32).toInt + (v10_7 : Int32).toInt := by rw [he_8]; exact hs_add (by omega) (by omega)
        try rw [← he_8]
        obtain ⟨e_9, he_9⟩ : ∃ e9 : Int32, e9 = (x4 + (-1)) := ⟨_, rfl⟩
        try have : e_9.toInt = (x4 : Int32).toInt + (-1) := by rw [he_9]; exact hs_addk (-1) rfl (by omega) (by omega)
        try rw [← he_9]
        exact ih σ (x1 : Int32) (e_8 : Int32) (e_9 : Int32) I (show 0 ≤ (x1 : Int32).toInt by omega) (show (x1 : Int32).toInt < 24 by omega) (show -1 ≤ (e_9 : Int32).toInt by omega) (show (e_9 : Int32).toInt ≤ 9 by omega)  (by omega) hQ
      · have : ¬ (x3 : Int32).toInt ≤ (v6_5 : Int32).toInt := fun z => h_6 (Int32.le_iff_toInt_le.mpr z)
        exact hs_some (hQ (0 : Int32) (show 0 ≤ (0) by omega) (show (0) ≤ 1 by omega))
theorem s_fX0_canBear {R : hy_S → Prop} (σ : hy_S) (x1 : Int32) (x2 : Int32) {P : hy_S → Int32 → Prop} (I : hc_I R σ) (p0 : 0 ≤ x1.toInt) (p1 : x1.toInt < 24) (p2 : 0 ≤ x2.toInt) (p3 : x2.toInt < 60) (hQ : ∀ v9 : Int32, 0 ≤ v9.toInt → v9.toInt ≤ 1 → P σ v9) : hs_ok2 (fX0_canBear σ x1 x2) P := by
  unfold fX0_canBear
  show hs_ok _ _
  refine hs_bd (s_fX1_weight σ x2 I (show 0 ≤ (x2 : Int32).toInt by omega) (show (x2 : Int32).toInt < 60 by omega) (fun v2_1  => ?_))
  refine hs_ga (j := 12) I (by omega) (by omega) (fun v4_2 ev4_2 (bv4_2 : (0 : Int) ≤ v4_2.toInt ∧ v4_2.toInt ≤ 10) => ?_)
  have : (σ.1 12 (x1 : Int32).toNatClampNeg).toInt = v4_2.toInt := by rw [ev4_2]
  obtain ⟨e_3, he_3⟩ : ∃ e9 : Int32, e9 = (v4_2 - 1) := ⟨_, rfl⟩
  try have : e_3.toInt = (v4_2 : Int32).toInt - (1) := by rw [he_3]; exact hs_subk (1) rfl (by omega) (by omega)
  try rw [← he_3]
  have hfu : ((hy_fu : Nat) : Int) = 5000 := rfl
  refine s_fX0_canBear_19   hy_fu σ (x1 : Int32) (v2_1 : Int32) (e_3 : Int32) I (show 0 ≤ (x1 : Int32).toInt by omega) (show (x1 : Int32).toInt < 24 by omega) (show -1 ≤ (e_3 : Int32).toInt by omega) (show (e_3 : Int32).toInt ≤ 9 by omega)  (show (e_3 : Int32).toInt + 1 < ((hy_fu : Nat) : Int) by rw [hfu]; omega) (fun v_4 gv_4_0 gv_4_1 => ?_)
  exact (hQ (v_4 : Int32) (show 0 ≤ (v_4 : Int32).toInt by omega) (show (v_4 : Int32).toInt ≤ 1 by omega))
theorem s_fX0_put {R : hy_S → Prop} (ra : ∀ j, j ∈ ([9, 10, 11, 12] : List Nat) → ∀ (τ : hy_S) (g : Nat → Int32), R τ → R (hy_sc τ j g)) (ri : ∀ j, j ∈ ([] : List Nat) → ∀ (τ : hy_S) (v : Int32), R τ → R (hy_si τ j v)) (σ : hy_S) (x1 : Int32) (x2 : Int32) {P : hy_S → Int32 → Prop} (I : hc_I R σ) (p0 : 0 ≤ x1.toInt) (p1 : x1.toInt < 60) (p2 : 0 ≤ x2.toInt) (p3 : x2.toInt < 24) (hQ : ∀ (σ9 : hy_S) (v9 : Int32), hc_I R σ9 → 0 ≤ v9.toInt → v9.toInt ≤ 1 → P σ9 v9) : hs_ok2 (fX0_put σ x1 x2) P := by
  unfold fX0_put
  show hs_ok _ _
  refine hs_ga (j := 9) I (by omega) (by omega) (fun v1_1 ev1_1 (bv1_1 : (-2147483648 : Int) ≤ v1_1.toInt ∧ v1_1.toInt ≤ 2147483647) => ?_)
  refine hs_ite (fun h_2 => ?_) (fun h_2 => ?_)
  · have : (v1_1 : Int32).toInt = (0) := congrArg Int32.toInt h_2
    refine hs_ga (j := 12) I (by omega) (by omega) (fun v5_3 ev5_3 (bv5_3 : (0 : Int) ≤ v5_3.toInt ∧ v5_3.toInt ≤ 10) => ?_)
    have : (σ.1 12 (x2 : Int32).toNatClampNeg).toInt = v5_3.toInt := by rw [ev5_3]
    refine hs_ite (fun h_4 => ?_) (fun h_4 => ?_)
    · have : (10) ≤ (v5_3 : Int32).toInt := Int32.le_iff_toInt_le.mp h_4
      exact hs_some (hQ σ (0 : Int32) I (show 0 ≤ (0) by omega) (show (0) ≤ 1 by omega))
    · have : ¬ (10) ≤ (v5_3 : Int32).toInt := fun z => h_4 (Int32.le_iff_toInt_le.mpr z)
      refine hs_bd (s_fX0_canBear σ x2 x1 I (show 0 ≤ (x2 : Int32).toInt by omega) (show (x2 : Int32).toInt < 24 by omega) (show 0 ≤ (x1 : Int32).toInt by omega) (show (x1 : Int32).toInt < 60 by omega) (fun v10_5 (gv10_5_0 : 0 ≤ v10_5.toInt) (gv10_5_1 : v10_5.toInt ≤ 1) => ?_))
      refine hs_ite (fun h_6 => ?_) (fun h_6 => ?_)
      · have : (v10_5 : Int32).toInt = (0) := congrArg Int32.toInt h_6
        exact hs_some (hQ σ (0 : Int32) I (show 0 ≤ (0) by omega) (show (0) ≤ 1 by omega))
      · have : ¬ (v10_5 : Int32).toInt = (0) := fun z => h_6 (Int32.toInt_inj.mp z)
        refine hs_bd (s_fX0_setTop (fun j h => ra j (hs_inc (by decide) h)) (fun j h => ri j (hs_inc (by decide) h)) σ x2 x1 I (show 0 ≤ (x2 : Int32).toInt by omega) (show (x2 : Int32).toInt < 24 by omega) (show 0 ≤ (x1 : Int32).toInt by omega) (show (x1 : Int32).toInt ≤ 59 by omega) (show (σ.1 12 (x2 : Int32).toNatClampNeg).toInt < 10 by omega) (fun σ13_8 v14_7 Iσ13_8 (gv14_7_0 : (σ13_8.1 12 (x2 : Int32).toNatClampNeg).toInt = (σ.1 12 (x2 : Int32).toNatClampNeg).toInt + 1) => ?_))
        refine hs_bd (s_fX1_move (fun j h => ra j (hs_inc (by decide) h)) (fun j h => ri j (hs_inc (by decide) h)) σ13_8 x1 (1 : Int32) x2 Iσ13_8 (show 0 ≤ (x1 : Int32).toInt by omega) (show (x1 : Int32).toInt < 60 by omega) (show -1 ≤ (x2 : Int32).toInt by omega) (show (x2 : Int32).toInt ≤ 23 by omega) (fun σ16_10 v17_9 Iσ16_10  => ?_))
        exact hs_some (hQ σ16_10 (1 : Int32) Iσ16_10 (show 0 ≤ (1) by omega) (show (1) ≤ 1 by omega))
  · have : ¬ (v1_1 : Int32).toInt = (0) := fun z => h_2 (Int32.toInt_inj.mp z)
    exact hs_some (hQ σ (0 : Int32) I (show 0 ≤ (0) by omega) (show (0) ≤ 1 by omega))
theorem s_fX0_takeTop {R : hy_S → Prop} (ra : ∀ j, j ∈ ([9, 10, 12] : List Nat) → ∀ (τ : hy_S) (g : Nat → Int32), R τ → R (hy_sc τ j g)) (ri : ∀ j, j ∈ ([] : List Nat) → ∀ (τ : hy_S) (v : Int32), R τ → R (hy_si τ j v)) (σ : hy_S) (x1 : Int32) {P : hy_S → Int32 → Prop} (I : hc_I R σ) (p0 : 0 ≤ x1.toInt) (p1 : x1.toInt < 24) (hQ : ∀ (σ9 : hy_S) (v9 : Int32), hc_I R σ9 → P σ9 v9) : hs_ok2 (fX0_takeTop σ x1) P := by
  unfold fX0_takeTop
  show hs_ok _ _
  refine hs_ga (j := 12) I (by omega) (by omega) (fun v1_1 ev1_1 (bv1_1 : (0 : Int) ≤ v1_1.toInt ∧ v1_1.toInt ≤ 10) => ?_)
  have : (σ.1 12 (x1 : Int32).toNatClampNeg).toInt = v1_1.toInt := by rw [ev1_1]
  obtain ⟨e_2, he_2⟩ : ∃ e9 : Int32, e9 = (v1_1 - 1) := ⟨_, rfl⟩
  try have : e_2.toInt = (v1_1 : Int32).toInt - (1) := by rw [he_2]; exact hs_subk (1) rfl (by omega) (by omega)
  try rw [← he_2]
  refine hs_bd (s_fX0_jarAt σ x1 e_2 I (show 0 ≤ (x1 : Int32).toInt by omega) (show (x1 : Int32).toInt < 24 by omega) (fun v5_3 (gv5_3_0 : -1 ≤ v5_3.toInt) (gv5_3_1 : v5_3.toInt ≤ 59) (gv5_3_2 : v5_3.toInt = -1 ∨ 0 ≤ (e_2 : Int32).toInt) => ?_))
  refine hs_ite (fun h_4 => ?_) (fun h_4 => ?_)
  · have : (v5_3 : Int32).toInt = (-1) := congrArg Int32.toInt h_4
    unfold fX0_takeTop_39
    exact hs_some (hQ σ (v5_3 : Int32) I )
  · have : ¬ (v5_3 : Int32).toInt = (-1) := fun z => h_4 (Int32.toInt_inj.mp z)
    refine hs_ga (j := 12) I (by omega) (by omega) (fun v8_5 ev8_5 (bv8_5 : (0 : Int) ≤ v8_5.toInt ∧ v8_5.toInt ≤ 10) => ?_)
    have : (σ.1 12 (x1 : Int32).toNatClampNeg).toInt = v8_5.toInt := by rw [ev8_5]
    obtain ⟨e_7, he_7⟩ : ∃ e9 : Int32, e9 = (v8_5 - 1) := ⟨_, rfl⟩
    try have : e_7.toInt = (v8_5 : Int32).toInt - (1) := by rw [he_7]; exact hs_subk (1) rfl (by omega) (by omega)
    try rw [← he_7]
    refine hs_pa (idx := x1) (v := e_7) I (by omega) (by omega) ⟨(by omega : (0 : Int) ≤ (e_7 : Int32).toInt), (by omega : (e_7 : Int32).toInt ≤ 10)⟩ (ra 12 (by decide) _ _) (fun σ11_6 eσ11_6 Iσ11_6 => ?_)
    have : (σ11_6.1 12 (x1 : Int32).toNatClampNeg).toInt = (e_7 : Int32).toInt := by rw [eσ11_6]; exact hs_same _ _ _ _
    have : (0 : Int) ≤ (σ11_6.1 12 (x1 : Int32).toNatClampNeg).toInt ∧ (σ11_6.1 12 (x1 : Int32).toNatClampNeg).toInt ≤ 10 := Iσ11_6.1 12 _
    refine hs_bd (s_fX1_move (fun j h => ra j (hs_inc (by decide) h)) (fun j h => ri j (hs_inc (by decide) h)) σ11_6 v5_3 (2 : Int32) ((-1) : Int32) Iσ11_6 (show 0 ≤ (v5_3 : Int32).toInt by omega) (show (v5_3 : Int32).toInt < 60 by omega) (show -1 ≤ (-1) by omega) (show (-1) ≤ 23 by omega) (fun σ14_9 v15_8 Iσ14_9  => ?_))
    unfold fX0_takeTop_39
    exact hs_some (hQ σ14_9 (v5_3 : Int32) Iσ14_9 )
theorem s_fX0_weightAbove_29 {R : hy_S → Prop} {Q : hy_S × Int32 → Prop} : ∀ (n : Nat) (σ : hy_S) (x1 : Int32) (x2 : Int32) (x3 : Int32) (x4 : Int32), hc_I R σ → 0 ≤ x2.toInt → x2.toInt < 24 → -1 ≤ x4.toInt → x4.toInt ≤ 9 → x4.toInt + 1 < (n : Int) → (∀ v9 : Int32, Q (σ, v9)) → hs_ok (fX0_weightAbove_29 n σ x1 x2 x3 x4) Q := by
  intro n
  induction n with
  | zero =>
    intro σ x1 x2 x3 x4 I p0 p1 p2 p3  hm hQ
    exact absurd hm (by omega)
  | succ n ih =>
    intro σ x1 x2 x3 x4 I p0 p1 p2 p3  hm hQ
    unfold fX0_weightAbove_29
    refine hs_ite (fun h_1 => ?_) (fun h_1 => ?_)
    · have : (x4 : Int32).toInt < (0) := Int32.lt_iff_toInt_lt.mp h_1
      unfold fX0_weightAbove_75
      exact hs_some (hQ (x3 : Int32) )
    · have : ¬ (x4 : Int32).toInt < (0) := fun z => h_1 (Int32.lt_iff_toInt_lt.mpr z)
      obtain ⟨e_2, he_2⟩ : ∃ e9 : Int32, e9 = (x2 * 10) := ⟨_, rfl⟩
      try have : e_2.toInt = (x2 : Int32).toInt * (10) := by rw [he_2]; exact hs_mulr (10) rfl (by omega) (by omega)
      try rw [← he_2]
      obtain ⟨e_3, he_3⟩ : ∃ e9 : Int32, e9 = (e_2 + x4) := ⟨_, rfl⟩
      try have : e_3.toInt = (e_2 : Int32).toInt + (x4 : Int32).toInt := by rw [he_3]; exact hs_add (by omega) (by omega)
      try rw [← he_3]
      refine hs_ga (j := 11) I (by omega) (by omega) (fun v2_4 ev2_4 (bv2_4 : (0 : Int) ≤ v2_4.toInt ∧ v2_4.toInt ≤ 59) => ?_)
      refine hs_ite (fun h_5 => ?_) (fun h_5 => ?_)
      · have : (v2_4 : Int32).toInt = (x1 : Int32).toInt := congrArg Int32.toInt h_5
        unfold fX0_weightAbove_75
        exact hs_some (hQ (x3 : Int32) )
      · have : ¬ (v2_4 : Int32).toInt = (x1 : Int32).toInt := fun z => h_5 (Int32.toInt_inj.mp z)
        refine hs_bd (s_fX1_weight σ v2_4 I (show 0 ≤ (v2_4 : Int32).toInt by omega) (show (v2_4 : Int32).toInt < 60 by omega) (fun v7_6  => ?_))
        obtain ⟨e_7, he_7⟩ : ∃ e9 : Int32, e9 = (x3 + v7_6) := ⟨_, rfl⟩
        try have : e_7.toInt = (x3 : Int32).toInt + (v7_6 : Int32).toInt := by rw [he_7]; exact hs_add (by omega) (by omega)
        try rw [← he_7]
        obtain ⟨e_8, he_8⟩ : ∃ e9 : Int32, e9 = (x4 + (-1)) := ⟨_, rfl⟩
        try have : e_8.toInt = (x4 : Int32).toInt + (-1) := by rw [he_8]; exact hs_addk (-1) rfl (by omega) (by omega)
        try rw [← he_8]
        exact ih σ (x1 : Int32) (x2 : Int32) (e_7 : Int32) (e_8 : Int32) I (show 0 ≤ (x2 : Int32).toInt by omega) (show (x2 : Int32).toInt < 24 by omega) (show -1 ≤ (e_8 : Int32).toInt by omega) (show (e_8 : Int32).toInt ≤ 9 by omega)  (by omega) hQ
theorem s_fX0_weightAbove {R : hy_S → Prop} (σ : hy_S) (x1 : Int32) {P : hy_S → Int32 → Prop} (I : hc_I R σ) (p0 : 0 ≤ x1.toInt) (p1 : x1.toInt < 60) (hQ : ∀ v9 : Int32, P σ v9) : hs_ok2 (fX0_weightAbove σ x1) P := by
  unfold fX0_weightAbove
  show hs_ok _ _
  refine hs_ga (j := 10) I (by omega) (by omega) (fun v1_1 ev1_1 (bv1_1 : (-1 : Int) ≤ v1_1.toInt ∧ v1_1.toInt ≤ 23) => ?_)
  refine hs_ite (fun h_2 => ?_) (fun h_2 => ?_)
  · have : (v1_1 : Int32).toInt = (-1) := congrArg Int32.toInt h_2
    exact hs_some (hQ (0 : Int32) )
  · have : ¬ (v1_1 : Int32).toInt = (-1) := fun z => h_2 (Int32.toInt_inj.mp z)
    refine hs_ga (j := 12) I (by omega) (by omega) (fun v5_3 ev5_3 (bv5_3 : (0 : Int) ≤ v5_3.toInt ∧ v5_3.toInt ≤ 10) => ?_)
    have : (σ.1 12 (v1_1 : Int32).toNatClampNeg).toInt = v5_3.toInt := by rw [ev5_3]
    obtain ⟨e_4, he_4⟩ : ∃ e9 : Int32, e9 = (v5_3 - 1) := ⟨_, rfl⟩
    try have : e_4.toInt = (v5_3 : Int32).toInt - (1) := by rw [he_4]; exact hs_subk (1) rfl (by omega) (by omega)
    try rw [← he_4]
    have hfu : ((hy_fu : Nat) : Int) = 5000 := rfl
    refine s_fX0_weightAbove_29   hy_fu σ (x1 : Int32) (v1_1 : Int32) (0 : Int32) (e_4 : Int32) I (show 0 ≤ (v1_1 : Int32).toInt by omega) (show (v1_1 : Int32).toInt < 24 by omega) (show -1 ≤ (e_4 : Int32).toInt by omega) (show (e_4 : Int32).toInt ≤ 9 by omega)  (show (e_4 : Int32).toInt + 1 < ((hy_fu : Nat) : Int) by rw [hfu]; omega) (fun v_5  => ?_)
    exact (hQ (v_5 : Int32) )
theorem s_fX0_bearsInStorm {R : hy_S → Prop} (σ : hy_S) (x1 : Int32) (x2 : Int32) {P : hy_S → Int32 → Prop} (I : hc_I R σ) (p0 : 0 ≤ x1.toInt) (p1 : x1.toInt < 60) (hQ : ∀ v9 : Int32, P σ v9) : hs_ok2 (fX0_bearsInStorm σ x1 x2) P := by
  unfold fX0_bearsInStorm
  show hs_ok _ _
  refine hs_bd (s_fX1_bears σ x1 I (show 0 ≤ (x1 : Int32).toInt by omega) (show (x1 : Int32).toInt < 60 by omega) (fun v2_1  => ?_))
  obtain ⟨e_2, he_2⟩ : ∃ e9 : Int32, e9 = (v2_1 * x2) := ⟨_, rfl⟩
  try rw [← he_2]
  obtain ⟨e_3, he_3⟩ : ∃ e9 : Int32, e9 = (e_2 + 99) := ⟨_, rfl⟩
  try have : e_3.toInt = (e_2 : Int32).toInt + (99) := by rw [he_3]; exact hs_addk (99) rfl (by omega) (by omega)
  try rw [← he_3]
  obtain ⟨e_4, he_4⟩ : ∃ e9 : Int32, e9 = (e_3 / 100) := ⟨_, rfl⟩
  try have : e_4.toInt = (e_3 : Int32).toInt / (100) := by rw [he_4]; exact hs_div (100) rfl (by omega) (by omega)
  try rw [← he_4]
  obtain ⟨e_5, he_5⟩ : ∃ e9 : Int32, e9 = (v2_1 - e_4) := ⟨_, rfl⟩
  try have : e_5.toInt = (v2_1 : Int32).toInt - (e_4 : Int32).toInt := by rw [he_5]; exact hs_sub (by omega) (by omega)
  try rw [← he_5]
  exact hs_some (hQ (e_5 : Int32) )
theorem s_fX0_breakWeak_12 {R : hy_S → Prop} (ra : ∀ j, j ∈ ([9, 10] : List Nat) → ∀ (τ : hy_S) (g : Nat → Int32), R τ → R (hy_sc τ j g)) (ri : ∀ j, j ∈ ([] : List Nat) → ∀ (τ : hy_S) (v : Int32), R τ → R (hy_si τ j v)) {Q : hy_S × Int32 → Prop} (hQ : ∀ (σ9 : hy_S) (v9 : Int32), hc_I R σ9 → Q (σ9, v9)) : ∀ (n : Nat) (σ : hy_S) (x1 : Int32) (x2 : Int32) (x3 : Int32) (x4 : Int32), hc_I R σ → 0 ≤ x1.toInt → x1.toInt < 24 → -1 ≤ x4.toInt → x4.toInt ≤ 9 → x4.toInt + 1 < (n : Int) → hs_ok (fX0_breakWeak_12 n σ x1 x2 x3 x4) Q := by
  intro n
  induction n with
  | zero =>
    intro σ x1 x2 x3 x4 I p0 p1 p2 p3  hm
    exact absurd hm (by omega)
  | succ n ih =>
    intro σ x1 x2 x3 x4 I p0 p1 p2 p3  hm
    unfold fX0_breakWeak_12
    refine hs_ite (fun h_1 => ?_) (fun h_1 => ?_)
    · have : (x4 : Int32).toInt < (0) := Int32.lt_iff_toInt_lt.mp h_1
      exact hs_some (hQ σ (0 : Int32) I )
    · have : ¬ (x4 : Int32).toInt < (0) := fun z => h_1 (Int32.lt_iff_toInt_lt.mpr z)
      obtain ⟨e_2, he_2⟩ : ∃ e9 : Int32, e9 = (x1 * 10) := ⟨_, rfl⟩
      try have : e_2.toInt = (x1 : Int32).toInt * (10) := by rw [he_2]; exact hs_mulr (10) rfl (by omega) (by omega)
      try rw [← he_2]
      obtain ⟨e_3, he_3⟩ : ∃ e9 : Int32, e9 = (e_2 + x4) := ⟨_, rfl⟩
      try have : e_3.toInt = (e_2 : Int32).toInt + (x4 : Int32).toInt := by rw [he_3]; exact hs_add (by omega) (by omega)
      try rw [← he_3]
      refine hs_ga (j := 11) I (by omega) (by omega) (fun v2_4 ev2_4 (bv2_4 : (0 : Int) ≤ v2_4.toInt ∧ v2_4.toInt ≤ 59) => ?_)
      refine hs_bd (s_fX0_bearsInStorm σ v2_4 x2 I (show 0 ≤ (v2_4 : Int32).toInt by omega) (show (v2_4 : Int32).toInt < 60 by omega) (fun v6_5  => ?_))
      refine hs_ite (fun h_6 => ?_) (fun h_6 => ?_)
      · have : (x3 : Int32).toInt ≤ (v6_5 : Int32).toInt := Int32.le_iff_toInt_le.mp h_6
        unfold fX0_breakWeak_53
        refine hs_bd (s_fX1_weight σ v2_4 I (show 0 ≤ (v2_4 : Int32).toInt by omega) (show (v2_4 : Int32).toInt < 60 by omega) (fun v2_7  => ?_))
        obtain ⟨e_8, he_8⟩ : ∃ e9 : Int32, e9 = (x3 + v2_7) := ⟨_, rfl⟩
        try have : e_8.toInt = (x3 : Int32).toInt + (v2_7 : Int32).toInt := by rw [he_8]; exact hs_add (by omega) (by omega)
        try rw [← he_8]
        obtain ⟨e_9, he_9⟩ : ∃ e9 : Int32, e9 = (x4 + (-1)) := ⟨_, rfl⟩
        try have : e_9.toInt = (x4 : Int32).toInt + (-1) := by rw [he_9]; exact hs_addk (-1) rfl (by omega) (by omega)
        try rw [← he_9]
        exact ih σ (x1 : Int32) (x2 : Int32) (e_8 : Int32) (e_9 : Int32) I (show 0 ≤ (x1 : Int32).toInt by omega) (show (x1 : Int32).toInt < 24 by omega) (show -1 ≤ (e_9 : Int32).toInt by omega) (show (e_9 : Int32).toInt ≤ 9 by omega)  (by omega)
      · have : ¬ (x3 : Int32).toInt ≤ (v6_5 : Int32).toInt := fun z => h_6 (Int32.le_iff_toInt_le.mpr z)
        refine hs_bd (s_fX1_move (fun j h => ra j (hs_inc (by decide) h)) (fun j h => ri j (hs_inc (by decide) h)) σ v2_4 (3 : Int32) ((-1) : Int32) I (show 0 ≤ (v2_4 : Int32).toInt by omega) (show (v2_4 : Int32).toInt < 60 by omega) (show -1 ≤ (-1) by omega) (show (-1) ≤ 23 by omega) (fun σ9_11 v10_10 Iσ9_11  => ?_))
        unfold fX0_breakWeak_53
        refine hs_bd (s_fX1_weight σ9_11 v2_4 Iσ9_11 (show 0 ≤ (v2_4 : Int32).toInt by omega) (show (v2_4 : Int32).toInt < 60 by omega) (fun v2_12  => ?_))
        obtain ⟨e_13, he_13⟩ : ∃ e9 : Int32, e9 = (x3 + v2_12) := ⟨_, rfl⟩
        try have : e_13.toInt = (x3 : Int32).toInt + (v2_12 : Int32).toInt := by rw [he_13]; exact hs_add (by omega) (by omega)
        try rw [← he_13]
        obtain ⟨e_14, he_14⟩ : ∃ e9 : Int32, e9 = (x4 + (-1)) := ⟨_, rfl⟩
        try have : e_14.toInt = (x4 : Int32).toInt + (-1) := by rw [he_14]; exact hs_addk (-1) rfl (by omega) (by omega)
        try rw [← he_14]
        exact ih σ9_11 (x1 : Int32) (x2 : Int32) (e_13 : Int32) (e_14 : Int32) Iσ9_11 (show 0 ≤ (x1 : Int32).toInt by omega) (show (x1 : Int32).toInt < 24 by omega) (show -1 ≤ (e_14 : Int32).toInt by omega) (show (e_14 : Int32).toInt ≤ 9 by omega)  (by omega)
theorem s_fX0_breakWeak {R : hy_S → Prop} (ra : ∀ j, j ∈ ([9, 10] : List Nat) → ∀ (τ : hy_S) (g : Nat → Int32), R τ → R (hy_sc τ j g)) (ri : ∀ j, j ∈ ([] : List Nat) → ∀ (τ : hy_S) (v : Int32), R τ → R (hy_si τ j v)) (σ : hy_S) (x1 : Int32) (x2 : Int32) {P : hy_S → Int32 → Prop} (I : hc_I R σ) (p0 : 0 ≤ x1.toInt) (p1 : x1.toInt < 24) (hQ : ∀ (σ9 : hy_S) (v9 : Int32), hc_I R σ9 → P σ9 v9) : hs_ok2 (fX0_breakWeak σ x1 x2) P := by
  unfold fX0_breakWeak
  show hs_ok _ _
  refine hs_ga (j := 12) I (by omega) (by omega) (fun v1_1 ev1_1 (bv1_1 : (0 : Int) ≤ v1_1.toInt ∧ v1_1.toInt ≤ 10) => ?_)
  have : (σ.1 12 (x1 : Int32).toNatClampNeg).toInt = v1_1.toInt := by rw [ev1_1]
  obtain ⟨e_2, he_2⟩ : ∃ e9 : Int32, e9 = (v1_1 - 1) := ⟨_, rfl⟩
  try have : e_2.toInt = (v1_1 : Int32).toInt - (1) := by rw [he_2]; exact hs_subk (1) rfl (by omega) (by omega)
  try rw [← he_2]
  have hfu : ((hy_fu : Nat) : Int) = 5000 := rfl
  refine s_fX0_breakWeak_12 (fun j h => ra j (hs_inc (by decide) h)) (fun j h => ri j (hs_inc (by decide) h))  (fun τ_3 v_4 Iτ_3  => ?_)  hy_fu σ (x1 : Int32) (x2 : Int32) (0 : Int32) (e_2 : Int32) I (show 0 ≤ (x1 : Int32).toInt by omega) (show (x1 : Int32).toInt < 24 by omega) (show -1 ≤ (e_2 : Int32).toInt by omega) (show (e_2 : Int32).toInt ≤ 9 by omega)  (show (e_2 : Int32).toInt + 1 < ((hy_fu : Nat) : Int) by rw [hfu]; omega)
  exact (hQ τ_3 (v_4 : Int32) Iτ_3 )
theorem s_fX0_closeGaps_16 {R : hy_S → Prop} (ra : ∀ j, j ∈ ([11, 12] : List Nat) → ∀ (τ : hy_S) (g : Nat → Int32), R τ → R (hy_sc τ j g)) (ri : ∀ j, j ∈ ([] : List Nat) → ∀ (τ : hy_S) (v : Int32), R τ → R (hy_si τ j v)) {Q : hy_S × Int32 → Prop} (hQ : ∀ (σ9 : hy_S) (v9 : Int32), hc_I R σ9 → Q (σ9, v9)) : ∀ (n : Nat) (σ : hy_S) (x1 : Int32) (x2 : Int32) (x3 : Int32), hc_I R σ → 0 ≤ x1.toInt → x1.toInt < 24 → x2.toInt ≤ 10 → 0 ≤ x3.toInt → x3.toInt ≤ 10 → (σ.1 12 (x1 : Int32).toNatClampNeg).toInt ≤ x3.toInt → 10 - x3.toInt < (n : Int) → hs_ok (fX0_closeGaps_16 n σ x1 x2 x3) Q := by
  intro n
  induction n with
  | zero =>
    intro σ x1 x2 x3 I p0 p1 p2 p3 p4 p5  hm
    exact absurd hm (by omega)
  | succ n ih =>
    intro σ x1 x2 x3 I p0 p1 p2 p3 p4 p5  hm
    unfold fX0_closeGaps_16
    have : (0 : Int) ≤ (σ.1 12 (x1 : Int32).toNatClampNeg).toInt ∧ (σ.1 12 (x1 : Int32).toNatClampNeg).toInt ≤ 10 := I.1 12 _
    refine hs_ite (fun h_1 => ?_) (fun h_1 => ?_)
    · have : (x2 : Int32).toInt ≤ (x3 : Int32).toInt := Int32.le_iff_toInt_le.mp h_1
      exact hs_some (hQ σ (0 : Int32) I )
    · have : ¬ (x2 : Int32).toInt ≤ (x3 : Int32).toInt := fun z => h_1 (Int32.le_iff_toInt_le.mpr z)
      obtain ⟨e_2, he_2⟩ : ∃ e9 : Int32, e9 = (x1 * 10) := ⟨_, rfl⟩
      try have : e_2.toInt = (x1 : Int32).toInt * (10) := by rw [he_2]; exact hs_mulr (10) rfl (by omega) (by omega)
      try rw [← he_2]
      obtain ⟨e_3, he_3⟩ : ∃ e9 : Int32, e9 = (e_2 + x3) := ⟨_, rfl⟩
      try have : e_3.toInt = (e_2 : Int32).toInt + (x3 : Int32).toInt := by rw [he_3]; exact hs_add (by omega) (by omega)
      try rw [← he_3]
      refine hs_ga (j := 11) I (by omega) (by omega) (fun v2_4 ev2_4 (bv2_4 : (0 : Int) ≤ v2_4.toInt ∧ v2_4.toInt ≤ 59) => ?_)
      refine hs_ga (j := 9) I (by omega) (by omega) (fun v5_5 ev5_5 (bv5_5 : (-2147483648 : Int) ≤ v5_5.toInt ∧ v5_5.toInt ≤ 2147483647) => ?_)
      refine hs_ite (fun h_6 => ?_) (fun h_6 => ?_)
      · have : (v5_5 : Int32).toInt = (1) := congrArg Int32.toInt h_6
        refine hs_bd (s_fX0_setTop (fun j h => ra j (hs_inc (by decide) h)) (fun j h => ri j (hs_inc (by decide) h)) σ x1 v2_4 I (show 0 ≤ (x1 : Int32).toInt by omega) (show (x1 : Int32).toInt < 24 by omega) (show 0 ≤ (v2_4 : Int32).toInt by omega) (show (v2_4 : Int32).toInt ≤ 59 by omega) (show (σ.1 12 (x1 : Int32).toNatClampNeg).toInt < 10 by omega) (fun σ9_8 v10_7 Iσ9_8 (gv10_7_0 : (σ9_8.1 12 (x1 : Int32).toNatClampNeg).toInt = (σ.1 12 (x1 : Int32).toNatClampNeg).toInt + 1) => ?_))
        unfold fX0_closeGaps_55
        obtain ⟨e_9, he_9⟩ : ∃ e9 : Int32, e9 = (x3 + 1) := ⟨_, rfl⟩
        try have : e_9.toInt = (x3 : Int32).toInt + (1) := by rw [he_9]; exact hs_addk (1) rfl (by omega) (by omega)
        try rw [← he_9]
        exact ih σ9_8 (x1 : Int32) (x2 : Int32) (e_9 : Int32) Iσ9_8 (show 0 ≤ (x1 : Int32).toInt by omega) (show (x1 : Int32).toInt < 24 by omega) (show (x2 : Int32).toInt ≤ 10 by omega) (show 0 ≤ (e_9 : Int32).toInt by omega) (show (e_9 : Int32).toInt ≤ 10 by omega) (show (σ9_8.1 12 (x1 : Int32).toNatClampNeg).toInt ≤ (e_9 : Int32).toInt by omega)  (by omega)
      · have : ¬ (v5_5 : Int32).toInt = (1) := fun z => h_6 (Int32.toInt_inj.mp z)
        unfold fX0_closeGaps_55
        obtain ⟨e_10, he_10⟩ : ∃ e9 : Int32, e9 = (x3 + 1) := ⟨_, rfl⟩
        try have : e_10.toInt = (x3 : Int32).toInt + (1) := by rw [he_10]; exact hs_addk (1) rfl (by omega) (by omega)
        try rw [← he_10]
        exact ih σ (x1 : Int32) (x2 : Int32) (e_10 : Int32) I (show 0 ≤ (x1 : Int32).toInt by omega) (show (x1 : Int32).toInt < 24 by omega) (show (x2 : Int32).toInt ≤ 10 by omega) (show 0 ≤ (e_10 : Int32).toInt by omega) (show (e_10 : Int32).toInt ≤ 10 by omega) (show (σ.1 12 (x1 : Int32).toNatClampNeg).toInt ≤ (e_10 : Int32).toInt by omega)  (by omega)
theorem s_fX0_closeGaps {R : hy_S → Prop} (ra : ∀ j, j ∈ ([11, 12] : List Nat) → ∀ (τ : hy_S) (g : Nat → Int32), R τ → R (hy_sc τ j g)) (ri : ∀ j, j ∈ ([] : List Nat) → ∀ (τ : hy_S) (v : Int32), R τ → R (hy_si τ j v)) (σ : hy_S) (x1 : Int32) {P : hy_S → Int32 → Prop} (I : hc_I R σ) (p0 : 0 ≤ x1.toInt) (p1 : x1.toInt < 24) (hQ : ∀ (σ9 : hy_S) (v9 : Int32), hc_I R σ9 → P σ9 v9) : hs_ok2 (fX0_closeGaps σ x1) P := by
  unfold fX0_closeGaps
  show hs_ok _ _
  refine hs_ga (j := 12) I (by omega) (by omega) (fun v1_1 ev1_1 (bv1_1 : (0 : Int) ≤ v1_1.toInt ∧ v1_1.toInt ≤ 10) => ?_)
  have : (σ.1 12 (x1 : Int32).toNatClampNeg).toInt = v1_1.toInt := by rw [ev1_1]
  refine hs_pa (idx := x1) (v := 0) I (by omega) (by omega) ⟨by decide, by decide⟩ (ra 12 (by decide) _ _) (fun σ4_2 eσ4_2 Iσ4_2 => ?_)
  have : (σ4_2.1 12 (x1 : Int32).toNatClampNeg).toInt = (0) := by rw [eσ4_2]; exact hs_same _ _ _ _
  have : (0 : Int) ≤ (σ4_2.1 12 (x1 : Int32).toNatClampNeg).toInt ∧ (σ4_2.1 12 (x1 : Int32).toNatClampNeg).toInt ≤ 10 := Iσ4_2.1 12 _
  have hfu : ((hy_fu : Nat) : Int) = 5000 := rfl
  refine s_fX0_closeGaps_16 (fun j h => ra j (hs_inc (by decide) h)) (fun j h => ri j (hs_inc (by decide) h))  (fun τ_3 v_4 Iτ_3  => ?_)  hy_fu σ4_2 (x1 : Int32) (v1_1 : Int32) (0 : Int32) Iσ4_2 (show 0 ≤ (x1 : Int32).toInt by omega) (show (x1 : Int32).toInt < 24 by omega) (show (v1_1 : Int32).toInt ≤ 10 by omega) (show 0 ≤ (0) by omega) (show (0) ≤ 10 by omega) (show (σ4_2.1 12 (x1 : Int32).toNatClampNeg).toInt ≤ (0) by omega)  (show 10 - (0) < ((hy_fu : Nat) : Int) by rw [hfu]; omega)
  exact (hQ τ_3 (v_4 : Int32) Iτ_3 )
theorem s_fX0_shake_5 {R : hy_S → Prop} (ra : ∀ j, j ∈ ([9, 10, 11, 12] : List Nat) → ∀ (τ : hy_S) (g : Nat → Int32), R τ → R (hy_sc τ j g)) (ri : ∀ j, j ∈ ([] : List Nat) → ∀ (τ : hy_S) (v : Int32), R τ → R (hy_si τ j v)) {Q : hy_S × Int32 → Prop} (hQ : ∀ (σ9 : hy_S) (v9 : Int32), hc_I R σ9 → Q (σ9, v9)) : ∀ (n : Nat) (σ : hy_S) (x1 : Int32) (x2 : Int32) (x3 : Int32) (x4 : Int32), hc_I R σ → 0 ≤ x1.toInt → x1.toInt ≤ 3 → 0 ≤ x4.toInt → x4.toInt ≤ 6 → 6 - x4.toInt < (n : Int) → hs_ok (fX0_shake_5 n σ x1 x2 x3 x4) Q := by
  intro n
  induction n with
  | zero =>
    intro σ x1 x2 x3 x4 I p0 p1 p2 p3  hm
    exact absurd hm (by omega)
  | succ n ih =>
    intro σ x1 x2 x3 x4 I p0 p1 p2 p3  hm
    unfold fX0_shake_5
    refine hs_ite (fun h_1 => ?_) (fun h_1 => ?_)
    · have : (6) ≤ (x4 : Int32).toInt := Int32.le_iff_toInt_le.mp h_1
      exact hs_some (hQ σ (x3 : Int32) I )
    · have : ¬ (6) ≤ (x4 : Int32).toInt := fun z => h_1 (Int32.le_iff_toInt_le.mpr z)
      refine hs_bd (s_fX0_pileOf σ x1 x4 I (show 0 ≤ (x1 : Int32).toInt by omega) (show (x1 : Int32).toInt ≤ 3 by omega) (show 0 ≤ (x4 : Int32).toInt by omega) (show (x4 : Int32).toInt ≤ 5 by omega) (fun v3_2 (gv3_2_0 : v3_2.toInt = (x1 : Int32).toInt * 6 + (x4 : Int32).toInt) => ?_))
      refine hs_ga (j := 12) I (by omega) (by omega) (fun v5_3 ev5_3 (bv5_3 : (0 : Int) ≤ v5_3.toInt ∧ v5_3.toInt ≤ 10) => ?_)
      have : (σ.1 12 (v3_2 : Int32).toNatClampNeg).toInt = v5_3.toInt := by rw [ev5_3]
      refine hs_bd (s_fX0_breakWeak (fun j h => ra j (hs_inc (by decide) h)) (fun j h => ri j (hs_inc (by decide) h)) σ v3_2 x2 I (show 0 ≤ (v3_2 : Int32).toInt by omega) (show (v3_2 : Int32).toInt < 24 by omega) (fun σ8_5 v9_4 Iσ8_5  => ?_))
      refine hs_bd (s_fX0_closeGaps (fun j h => ra j (hs_inc (by decide) h)) (fun j h => ri j (hs_inc (by decide) h)) σ8_5 v3_2 Iσ8_5 (show 0 ≤ (v3_2 : Int32).toInt by omega) (show (v3_2 : Int32).toInt < 24 by omega) (fun σ11_7 v12_6 Iσ11_7  => ?_))
      refine hs_ga (j := 12) Iσ11_7 (by omega) (by omega) (fun v14_8 ev14_8 (bv14_8 : (0 : Int) ≤ v14_8.toInt ∧ v14_8.toInt ≤ 10) => ?_)
      have : (σ11_7.1 12 (v3_2 : Int32).toNatClampNeg).toInt = v14_8.toInt := by rw [ev14_8]
      obtain ⟨e_9, he_9⟩ : ∃ e9 : Int32, e9 = (v5_3 - v14_8) := ⟨_, rfl⟩
      try have : e_9.toInt = (v5_3 : Int32).toInt - (v14_8 : Int32).toInt := by rw [he_9]; exact hs_sub (by omega) (by omega)
      try rw [← he_9]
      obtain ⟨e_10, he_10⟩ : ∃ e9 : Int32, e9 = (x3 + e_9) := ⟨_, rfl⟩
      try have : e_10.toInt = (x3 : Int32).toInt + (e_9 : Int32).toInt := by rw [he_10]; exact hs_add (by omega) (by omega)
      try rw [← he_10]
      obtain ⟨e_11, he_11⟩ : ∃ e9 : Int32, e9 = (x4 + 1) := ⟨_, rfl⟩
      try have : e_11.toInt = (x4 : Int32).toInt + (1) := by rw [he_11]; exact hs_addk (1) rfl (by omega) (by omega)
      try rw [← he_11]
      exact ih σ11_7 (x1 : Int32) (x2 : Int32) (e_10 : Int32) (e_11 : Int32) Iσ11_7 (show 0 ≤ (x1 : Int32).toInt by omega) (show (x1 : Int32).toInt ≤ 3 by omega) (show 0 ≤ (e_11 : Int32).toInt by omega) (show (e_11 : Int32).toInt ≤ 6 by omega)  (by omega)
theorem s_fX0_shake {R : hy_S → Prop} (ra : ∀ j, j ∈ ([9, 10, 11, 12] : List Nat) → ∀ (τ : hy_S) (g : Nat → Int32), R τ → R (hy_sc τ j g)) (ri : ∀ j, j ∈ ([] : List Nat) → ∀ (τ : hy_S) (v : Int32), R τ → R (hy_si τ j v)) (σ : hy_S) (x1 : Int32) (x2 : Int32) {P : hy_S → Int32 → Prop} (I : hc_I R σ) (p0 : 0 ≤ x1.toInt) (p1 : x1.toInt ≤ 3) (hQ : ∀ (σ9 : hy_S) (v9 : Int32), hc_I R σ9 → P σ9 v9) : hs_ok2 (fX0_shake σ x1 x2) P := by
  unfold fX0_shake
  show hs_ok _ _
  have hfu : ((hy_fu : Nat) : Int) = 5000 := rfl
  refine s_fX0_shake_5 (fun j h => ra j (hs_inc (by decide) h)) (fun j h => ri j (hs_inc (by decide) h))  (fun τ_1 v_2 Iτ_1  => ?_)  hy_fu σ (x1 : Int32) (x2 : Int32) (0 : Int32) (0 : Int32) I (show 0 ≤ (x1 : Int32).toInt by omega) (show (x1 : Int32).toInt ≤ 3 by omega) (show 0 ≤ (0) by omega) (show (0) ≤ 6 by omega)  (show 6 - (0) < ((hy_fu : Nat) : Int) by rw [hfu]; omega)
  exact (hQ τ_1 (v_2 : Int32) Iτ_1 )
theorem s_fX6_reach {R : hy_S → Prop} (σ : hy_S) (x1 : Int32) {P : hy_S → Int32 → Prop} (I : hc_I R σ) (p0 : 0 ≤ x1.toInt) (p1 : x1.toInt < 60) (hQ : ∀ v9 : Int32, P σ v9) : hs_ok2 (fX6_reach σ x1) P := by
  unfold fX6_reach
  show hs_ok _ _
  refine hs_bd (s_fX1_weight σ x1 I (show 0 ≤ (x1 : Int32).toInt by omega) (show (x1 : Int32).toInt < 60 by omega) (fun v2_1  => ?_))
  refine hs_bd (s_fX1_bears σ x1 I (show 0 ≤ (x1 : Int32).toInt by omega) (show (x1 : Int32).toInt < 60 by omega) (fun v5_2  => ?_))
  obtain ⟨e_3, he_3⟩ : ∃ e9 : Int32, e9 = (v2_1 + v5_2) := ⟨_, rfl⟩
  try have : e_3.toInt = (v2_1 : Int32).toInt + (v5_2 : Int32).toInt := by rw [he_3]; exact hs_add (by omega) (by omega)
  try rw [← he_3]
  exact hs_some (hQ (e_3 : Int32) )
theorem s_fX6_insert_5 {R : hy_S → Prop} (ra : ∀ j, j ∈ ([13] : List Nat) → ∀ (τ : hy_S) (g : Nat → Int32), R τ → R (hy_sc τ j g)) (ri : ∀ j, j ∈ ([6] : List Nat) → ∀ (τ : hy_S) (v : Int32), R τ → R (hy_si τ j v)) (g : Int) {Q : hy_S × Int32 → Prop} (hQ : ∀ (σ9 : hy_S) (v9 : Int32), hc_I R σ9 → (σ9.2 6).toInt = g + 1 → Q (σ9, v9)) : ∀ (n : Nat) (σ : hy_S) (x1 : Int32) (x2 : Int32), hc_I R σ → 0 ≤ x1.toInt → x1.toInt < 60 → 0 ≤ x2.toInt → x2.toInt ≤ (σ.2 6).toInt → (σ.2 6).toInt ≤ 19 → (σ.2 6).toInt = g → x2.toInt < (n : Int) → hs_ok (fX6_insert_5 n σ x1 x2) Q := by
  intro n
  induction n with
  | zero =>
    intro σ x1 x2 I p0 p1 p2 p3 p4 p5  hm
    have : (0 : Int) ≤ (σ.2 6).toInt ∧ (σ.2 6).toInt ≤ 20 := I.2.1 6
    exact absurd hm (by omega)
  | succ n ih =>
    intro σ x1 x2 I p0 p1 p2 p3 p4 p5  hm
    unfold fX6_insert_5
    have : (0 : Int) ≤ (σ.2 6).toInt ∧ (σ.2 6).toInt ≤ 20 := I.2.1 6
    refine hs_ite (fun h_1 => ?_) (fun h_1 => ?_)
    · have : (x2 : Int32).toInt ≤ (0) := Int32.le_iff_toInt_le.mp h_1
      unfold fX6_insert_49
      refine hs_pa (idx := x2) (v := x1) I (by omega) (by omega) ⟨(by omega : (0 : Int) ≤ (x1 : Int32).toInt), (by omega : (x1 : Int32).toInt ≤ 59)⟩ (ra 13 (by decide) _ _) (fun σ1_2 eσ1_2 Iσ1_2 => ?_)
      have : (σ1_2.2 6).toInt = (σ.2 6).toInt := by rw [eσ1_2]; rfl
      have : (0 : Int) ≤ (σ1_2.2 6).toInt ∧ (σ1_2.2 6).toInt ≤ 20 := Iσ1_2.2.1 6
      obtain ⟨e_3, he_3⟩ : ∃ e9 : Int32, e9 = ((σ1_2.2 6) + 1) := ⟨_, rfl⟩
      try have : e_3.toInt = ((σ1_2.2 6) : Int32).toInt + (1) := by rw [he_3]; exact hs_addk (1) rfl (by omega) (by omega)
      try rw [← he_3]
      refine hs_pf (v := e_3) Iσ1_2 ⟨(by omega : (0 : Int) ≤ (e_3 : Int32).toInt), (by omega : (e_3 : Int32).toInt ≤ 20)⟩ (ri 6 (by decide) _ _) (fun σ4_4 eσ4_4 Iσ4_4 => ?_)
      have : (σ4_4.2 6).toInt = (e_3 : Int32).toInt := by rw [eσ4_4]; rfl
      have : (0 : Int) ≤ (σ4_4.2 6).toInt ∧ (σ4_4.2 6).toInt ≤ 20 := Iσ4_4.2.1 6
      exact hs_some (hQ σ4_4 (0 : Int32) Iσ4_4 (show (σ4_4.2 6).toInt = g + 1 by omega))
    · have : ¬ (x2 : Int32).toInt ≤ (0) := fun z => h_1 (Int32.le_iff_toInt_le.mpr z)
      obtain ⟨e_5, he_5⟩ : ∃ e9 : Int32, e9 = (x2 - 1) := ⟨_, rfl⟩
      try have : e_5.toInt = (x2 : Int32).toInt - (1) := by rw [he_5]; exact hs_subk (1) rfl (by omega) (by omega)
      try rw [← he_5]
      refine hs_ga (j := 13) I (by omega) (by omega) (fun v2_6 ev2_6 (bv2_6 : (0 : Int) ≤ v2_6.toInt ∧ v2_6.toInt ≤ 59) => ?_)
      refine hs_bd (s_fX6_reach σ v2_6 I (show 0 ≤ (v2_6 : Int32).toInt by omega) (show (v2_6 : Int32).toInt < 60 by omega) (fun v6_7  => ?_))
      refine hs_bd (s_fX6_reach σ x1 I (show 0 ≤ (x1 : Int32).toInt by omega) (show (x1 : Int32).toInt < 60 by omega) (fun v9_8  => ?_))
      refine hs_ite (fun h_9 => ?_) (fun h_9 => ?_)
      · have : (v6_7 : Int32).toInt ≤ (v9_8 : Int32).toInt := Int32.le_iff_toInt_le.mp h_9
        unfold fX6_insert_49
        refine hs_pa (idx := x2) (v := x1) I (by omega) (by omega) ⟨(by omega : (0 : Int) ≤ (x1 : Int32).toInt), (by omega : (x1 : Int32).toInt ≤ 59)⟩ (ra 13 (by decide) _ _) (fun σ1_10 eσ1_10 Iσ1_10 => ?_)
        have : (σ1_10.2 6).toInt = (σ.2 6).toInt := by rw [eσ1_10]; rfl
        have : (0 : Int) ≤ (σ1_10.2 6).toInt ∧ (σ1_10.2 6).toInt ≤ 20 := Iσ1_10.2.1 6
        obtain ⟨e_11, he_11⟩ : ∃ e9 : Int32, e9 = ((σ1_10.2 6) + 1) := ⟨_, rfl⟩
        try have : e_11.toInt = ((σ1_10.2 6) : Int32).toInt + (1) := by rw [he_11]; exact hs_addk (1) rfl (by omega) (by omega)
        try rw [← he_11]
        refine hs_pf (v := e_11) Iσ1_10 ⟨(by omega : (0 : Int) ≤ (e_11 : Int32).toInt), (by omega : (e_11 : Int32).toInt ≤ 20)⟩ (ri 6 (by decide) _ _) (fun σ4_12 eσ4_12 Iσ4_12 => ?_)
        have : (σ4_12.2 6).toInt = (e_11 : Int32).toInt := by rw [eσ4_12]; rfl
        have : (0 : Int) ≤ (σ4_12.2 6).toInt ∧ (σ4_12.2 6).toInt ≤ 20 := Iσ4_12.2.1 6
        exact hs_some (hQ σ4_12 (0 : Int32) Iσ4_12 (show (σ4_12.2 6).toInt = g + 1 by omega))
      · have : ¬ (v6_7 : Int32).toInt ≤ (v9_8 : Int32).toInt := fun z => h_9 (Int32.le_iff_toInt_le.mpr z)
        try rw [← he_5]
        refine hs_ga (j := 13) I (by omega) (by omega) (fun v12_13 ev12_13 (bv12_13 : (0 : Int) ≤ v12_13.toInt ∧ v12_13.toInt ≤ 59) => ?_)
        refine hs_pa (idx := x2) (v := v12_13) I (by omega) (by omega) ⟨(by omega : (0 : Int) ≤ (v12_13 : Int32).toInt), (by omega : (v12_13 : Int32).toInt ≤ 59)⟩ (ra 13 (by decide) _ _) (fun σ15_14 eσ15_14 Iσ15_14 => ?_)
        have : (σ15_14.2 6).toInt = (σ.2 6).toInt := by rw [eσ15_14]; rfl
        have : (0 : Int) ≤ (σ15_14.2 6).toInt ∧ (σ15_14.2 6).toInt ≤ 20 := Iσ15_14.2.1 6
        obtain ⟨e_15, he_15⟩ : ∃ e9 : Int32, e9 = (x2 + (-1)) := ⟨_, rfl⟩
        try have : e_15.toInt = (x2 : Int32).toInt + (-1) := by rw [he_15]; exact hs_addk (-1) rfl (by omega) (by omega)
        try rw [← he_15]
        exact ih σ15_14 (x1 : Int32) (e_15 : Int32) Iσ15_14 (show 0 ≤ (x1 : Int32).toInt by omega) (show (x1 : Int32).toInt < 60 by omega) (show 0 ≤ (e_15 : Int32).toInt by omega) (show (e_15 : Int32).toInt ≤ (σ15_14.2 6).toInt by omega) (show (σ15_14.2 6).toInt ≤ 19 by omega) (show (σ15_14.2 6).toInt = g by omega)  (by omega)
theorem s_fX6_insert {R : hy_S → Prop} (ra : ∀ j, j ∈ ([13] : List Nat) → ∀ (τ : hy_S) (g : Nat → Int32), R τ → R (hy_sc τ j g)) (ri : ∀ j, j ∈ ([6] : List Nat) → ∀ (τ : hy_S) (v : Int32), R τ → R (hy_si τ j v)) (σ : hy_S) (x1 : Int32) {P : hy_S → Int32 → Prop} (I : hc_I R σ) (p0 : 0 ≤ x1.toInt) (p1 : x1.toInt < 60) (p2 : (σ.2 6).toInt ≤ 19) (hQ : ∀ (σ9 : hy_S) (v9 : Int32), hc_I R σ9 → (σ9.2 6).toInt = (σ.2 6).toInt + 1 → P σ9 v9) : hs_ok2 (fX6_insert σ x1) P := by
  unfold fX6_insert
  show hs_ok _ _
  have : (0 : Int) ≤ (σ.2 6).toInt ∧ (σ.2 6).toInt ≤ 20 := I.2.1 6
  have hfu : ((hy_fu : Nat) : Int) = 5000 := rfl
  refine s_fX6_insert_5 (fun j h => ra j (hs_inc (by decide) h)) (fun j h => ri j (hs_inc (by decide) h)) ((σ.2 6).toInt) (fun τ_1 v_2 Iτ_1 gv_2_0 => ?_)  hy_fu σ (x1 : Int32) ((σ.2 6) : Int32) I (show 0 ≤ (x1 : Int32).toInt by omega) (show (x1 : Int32).toInt < 60 by omega) (show 0 ≤ ((σ.2 6) : Int32).toInt by omega) (show ((σ.2 6) : Int32).toInt ≤ (σ.2 6).toInt by omega) (show (σ.2 6).toInt ≤ 19 by omega) (show (σ.2 6).toInt = ((σ.2 6).toInt) by omega)  (show ((σ.2 6) : Int32).toInt < ((hy_fu : Nat) : Int) by rw [hfu]; omega)
  have : (0 : Int) ≤ (τ_1.2 6).toInt ∧ (τ_1.2 6).toInt ≤ 20 := Iτ_1.2.1 6
  exact (hQ τ_1 (v_2 : Int32) Iτ_1 (show (τ_1.2 6).toInt = (σ.2 6).toInt + 1 by omega))
theorem s_fX6_choose_7 {R : hy_S → Prop} (ra : ∀ j, j ∈ ([13] : List Nat) → ∀ (τ : hy_S) (g : Nat → Int32), R τ → R (hy_sc τ j g)) (ri : ∀ j, j ∈ ([6] : List Nat) → ∀ (τ : hy_S) (v : Int32), R τ → R (hy_si τ j v)) {Q : hy_S × Int32 → Prop} (hQ : ∀ (σ9 : hy_S) (v9 : Int32), hc_I R σ9 → Q (σ9, v9)) : ∀ (n : Nat) (σ : hy_S) (x1 : Int32) (x2 : Int32), hc_I R σ → 0 ≤ x2.toInt → x2.toInt ≤ 20 → (σ.2 6).toInt ≤ x2.toInt → 20 - x2.toInt < (n : Int) → hs_ok (fX6_choose_7 n σ x1 x2) Q := by
  intro n
  induction n with
  | zero =>
    intro σ x1 x2 I p0 p1 p2  hm
    have : (0 : Int) ≤ (σ.2 4).toInt ∧ (σ.2 4).toInt ≤ 60 := I.2.1 4
    have : (0 : Int) ≤ (σ.2 6).toInt ∧ (σ.2 6).toInt ≤ 20 := I.2.1 6
    exact absurd hm (by omega)
  | succ n ih =>
    intro σ x1 x2 I p0 p1 p2  hm
    unfold fX6_choose_7
    have : (0 : Int) ≤ (σ.2 4).toInt ∧ (σ.2 4).toInt ≤ 60 := I.2.1 4
    have : (0 : Int) ≤ (σ.2 6).toInt ∧ (σ.2 6).toInt ≤ 20 := I.2.1 6
    refine hs_ite (fun h_1 => ?_) (fun h_1 => ?_)
    · have : (20) ≤ (x2 : Int32).toInt := Int32.le_iff_toInt_le.mp h_1
      unfold fX6_choose_56
      exact hs_some (hQ σ ((σ.2 6) : Int32) I )
    · have : ¬ (20) ≤ (x2 : Int32).toInt := fun z => h_1 (Int32.le_iff_toInt_le.mpr z)
      refine hs_ite (fun h_2 => ?_) (fun h_2 => ?_)
      · have : ((σ.2 4) : Int32).toInt ≤ (x2 : Int32).toInt := Int32.le_iff_toInt_le.mp h_2
        unfold fX6_choose_56
        exact hs_some (hQ σ ((σ.2 6) : Int32) I )
      · have : ¬ ((σ.2 4) : Int32).toInt ≤ (x2 : Int32).toInt := fun z => h_2 (Int32.le_iff_toInt_le.mpr z)
        refine hs_ite (fun h_3 => ?_) (fun h_3 => ?_)
        · skip
          refine hs_ga (j := 9) I (by omega) (by omega) (fun v4_4 ev4_4 (bv4_4 : (-2147483648 : Int) ≤ v4_4.toInt ∧ v4_4.toInt ≤ 2147483647) => ?_)
          refine hs_ite (fun h_5 => ?_) (fun h_5 => ?_)
          · have : (v4_4 : Int32).toInt = (0) := congrArg Int32.toInt h_5
            refine hs_bd (s_fX6_insert (fun j h => ra j (hs_inc (by decide) h)) (fun j h => ri j (hs_inc (by decide) h)) σ x2 I (show 0 ≤ (x2 : Int32).toInt by omega) (show (x2 : Int32).toInt < 60 by omega) (show (σ.2 6).toInt ≤ 19 by omega) (fun σ8_7 v9_6 Iσ8_7 (gv9_6_0 : (σ8_7.2 6).toInt = (σ.2 6).toInt + 1) => ?_))
            have : (0 : Int) ≤ (σ8_7.2 4).toInt ∧ (σ8_7.2 4).toInt ≤ 60 := Iσ8_7.2.1 4
            have : (0 : Int) ≤ (σ8_7.2 6).toInt ∧ (σ8_7.2 6).toInt ≤ 20 := Iσ8_7.2.1 6
            unfold fX6_choose_50
            obtain ⟨e_8, he_8⟩ : ∃ e9 : Int32, e9 = (x2 + 1) := ⟨_, rfl⟩
            try have : e_8.toInt = (x2 : Int32).toInt + (1) := by rw [he_8]; exact hs_addk (1) rfl (by omega) (by omega)
            try rw [← he_8]
            exact ih σ8_7 (x1 : Int32) (e_8 : Int32) Iσ8_7 (show 0 ≤ (e_8 : Int32).toInt by omega) (show (e_8 : Int32).toInt ≤ 20 by omega) (show (σ8_7.2 6).toInt ≤ (e_8 : Int32).toInt by omega)  (by omega)
          · have : ¬ (v4_4 : Int32).toInt = (0) := fun z => h_5 (Int32.toInt_inj.mp z)
            unfold fX6_choose_50
            obtain ⟨e_9, he_9⟩ : ∃ e9 : Int32, e9 = (x2 + 1) := ⟨_, rfl⟩
            try have : e_9.toInt = (x2 : Int32).toInt + (1) := by rw [he_9]; exact hs_addk (1) rfl (by omega) (by omega)
            try rw [← he_9]
            exact ih σ (x1 : Int32) (e_9 : Int32) I (show 0 ≤ (e_9 : Int32).toInt by omega) (show (e_9 : Int32).toInt ≤ 20 by omega) (show (σ.2 6).toInt ≤ (e_9 : Int32).toInt by omega)  (by omega)
        · skip
          unfold fX6_choose_50
          obtain ⟨e_10, he_10⟩ : ∃ e9 : Int32, e9 = (x2 + 1) := ⟨_, rfl⟩
          try have : e_10.toInt = (x2 : Int32).toInt + (1) := by rw [he_10]; exact hs_addk (1) rfl (by omega) (by omega)
          try rw [← he_10]
          exact ih σ (x1 : Int32) (e_10 : Int32) I (show 0 ≤ (e_10 : Int32).toInt by omega) (show (e_10 : Int32).toInt ≤ 20 by omega) (show (σ.2 6).toInt ≤ (e_10 : Int32).toInt by omega)  (by omega)
theorem s_fX6_choose {R : hy_S → Prop} (ra : ∀ j, j ∈ ([13] : List Nat) → ∀ (τ : hy_S) (g : Nat → Int32), R τ → R (hy_sc τ j g)) (ri : ∀ j, j ∈ ([6] : List Nat) → ∀ (τ : hy_S) (v : Int32), R τ → R (hy_si τ j v)) (σ : hy_S) (x1 : Int32) {P : hy_S → Int32 → Prop} (I : hc_I R σ) (hQ : ∀ (σ9 : hy_S) (v9 : Int32), hc_I R σ9 → P σ9 v9) : hs_ok2 (fX6_choose σ x1) P := by
  unfold fX6_choose
  show hs_ok _ _
  have : (0 : Int) ≤ (σ.2 6).toInt ∧ (σ.2 6).toInt ≤ 20 := I.2.1 6
  refine hs_pf (v := 0) I ⟨by decide, by decide⟩ (ri 6 (by decide) _ _) (fun σ1_1 eσ1_1 Iσ1_1 => ?_)
  have : (σ1_1.2 6).toInt = (0) := by rw [eσ1_1]; rfl
  have : (0 : Int) ≤ (σ1_1.2 6).toInt ∧ (σ1_1.2 6).toInt ≤ 20 := Iσ1_1.2.1 6
  have hfu : ((hy_fu : Nat) : Int) = 5000 := rfl
  refine s_fX6_choose_7 (fun j h => ra j (hs_inc (by decide) h)) (fun j h => ri j (hs_inc (by decide) h))  (fun τ_2 v_3 Iτ_2  => ?_)  hy_fu σ1_1 (x1 : Int32) (0 : Int32) Iσ1_1 (show 0 ≤ (0) by omega) (show (0) ≤ 20 by omega) (show (σ1_1.2 6).toInt ≤ (0) by omega)  (show 20 - (0) < ((hy_fu : Nat) : Int) by rw [hfu]; omega)
  have : (0 : Int) ≤ (τ_2.2 6).toInt ∧ (τ_2.2 6).toInt ≤ 20 := Iτ_2.2.1 6
  exact (hQ τ_2 (v_3 : Int32) Iτ_2 )
theorem s_fX6_greatest_39 {R : hy_S → Prop} (ra : ∀ j, j ∈ ([14] : List Nat) → ∀ (τ : hy_S) (g : Nat → Int32), R τ → R (hy_sc τ j g)) (ri : ∀ j, j ∈ ([] : List Nat) → ∀ (τ : hy_S) (v : Int32), R τ → R (hy_si τ j v)) (g : Int) {k11 : hy_S → Int32 → Int32 → Option (hy_S × Int32)} {Q : hy_S × Int32 → Prop} (hQ : ∀ (σ9 : hy_S) (v9 : Int32), hc_I R σ9 → Q (σ9, v9)) (hk11 : ∀ (σ : hy_S) (y1 : Int32) (y2 : Int32), hc_I R σ → y2.toInt = g + 1 → 0 ≤ y1.toInt → y1.toInt ≤ g + 1 → hs_ok (k11 σ y1 y2) Q) : ∀ (n : Nat) (σ : hy_S) (x1 : Int32) (x2 : Int32) (x3 : Int32) (x4 : Int32), hc_I R σ → 0 ≤ x1.toInt → x1.toInt ≤ x2.toInt → x2.toInt ≤ 19 → 0 ≤ x3.toInt → x3.toInt < 60 → -1 ≤ x4.toInt → x4.toInt ≤ x1.toInt → x2.toInt = g → x4.toInt + 1 < (n : Int) → hs_ok (fX6_greatest_39 k11 n σ x1 x2 x3 x4) Q := by
  intro n
  induction n with
  | zero =>
    intro σ x1 x2 x3 x4 I p0 p1 p2 p3 p4 p5 p6 p7  hm
    exact absurd hm (by omega)
  | succ n ih =>
    intro σ x1 x2 x3 x4 I p0 p1 p2 p3 p4 p5 p6 p7  hm
    unfold fX6_greatest_39
    refine hs_ite (fun h_1 => ?_) (fun h_1 => ?_)
    · have : (x4 : Int32).toInt < (0) := Int32.lt_iff_toInt_lt.mp h_1
      obtain ⟨e_2, he_2⟩ : ∃ e9 : Int32, e9 = (x1 + 1) := ⟨_, rfl⟩
      try have : e_2.toInt = (x1 : Int32).toInt + (1) := by rw [he_2]; exact hs_addk (1) rfl (by omega) (by omega)
      try rw [← he_2]
      refine hs_ga (j := 14) I (by omega) (by omega) (fun v2_3 ev2_3 (bv2_3 : (-2147483648 : Int) ≤ v2_3.toInt ∧ v2_3.toInt ≤ 2147483647) => ?_)
      refine hs_ite (fun h_4 => ?_) (fun h_4 => ?_)
      · have : (1000000000) ≤ (v2_3 : Int32).toInt := Int32.le_iff_toInt_le.mp h_4
        unfold fX6_greatest_121
        obtain ⟨e_5, he_5⟩ : ∃ e9 : Int32, e9 = (x2 + 1) := ⟨_, rfl⟩
        try have : e_5.toInt = (x2 : Int32).toInt + (1) := by rw [he_5]; exact hs_addk (1) rfl (by omega) (by omega)
        try rw [← he_5]
        exact hk11 σ (x1 : Int32) (e_5 : Int32) I (show (e_5 : Int32).toInt = g + 1 by omega) (show 0 ≤ (x1 : Int32).toInt by omega) (show (x1 : Int32).toInt ≤ g + 1 by omega)
      · have : ¬ (1000000000) ≤ (v2_3 : Int32).toInt := fun z => h_4 (Int32.le_iff_toInt_le.mpr z)
        unfold fX6_greatest_121
        try rw [← he_2]
        obtain ⟨e_6, he_6⟩ : ∃ e9 : Int32, e9 = (x2 + 1) := ⟨_, rfl⟩
        try have : e_6.toInt = (x2 : Int32).toInt + (1) := by rw [he_6]; exact hs_addk (1) rfl (by omega) (by omega)
        try rw [← he_6]
        exact hk11 σ (e_2 : Int32) (e_6 : Int32) I (show (e_6 : Int32).toInt = g + 1 by omega) (show 0 ≤ (e_2 : Int32).toInt by omega) (show (e_2 : Int32).toInt ≤ g + 1 by omega)
    · have : ¬ (x4 : Int32).toInt < (0) := fun z => h_1 (Int32.lt_iff_toInt_lt.mpr z)
      refine hs_ga (j := 14) I (by omega) (by omega) (fun v6_7 ev6_7 (bv6_7 : (-2147483648 : Int) ≤ v6_7.toInt ∧ v6_7.toInt ≤ 2147483647) => ?_)
      refine hs_bd (s_fX1_bears σ x3 I (show 0 ≤ (x3 : Int32).toInt by omega) (show (x3 : Int32).toInt < 60 by omega) (fun v10_8  => ?_))
      refine hs_ite (fun h_9 => ?_) (fun h_9 => ?_)
      · have : (v10_8 : Int32).toInt < (v6_7 : Int32).toInt := Int32.lt_iff_toInt_lt.mp h_9
        unfold fX6_greatest_99
        obtain ⟨e_10, he_10⟩ : ∃ e9 : Int32, e9 = (x4 + (-1)) := ⟨_, rfl⟩
        try have : e_10.toInt = (x4 : Int32).toInt + (-1) := by rw [he_10]; exact hs_addk (-1) rfl (by omega) (by omega)
        try rw [← he_10]
        exact ih σ (x1 : Int32) (x2 : Int32) (x3 : Int32) (e_10 : Int32) I (show 0 ≤ (x1 : Int32).toInt by omega) (show (x1 : Int32).toInt ≤ (x2 : Int32).toInt by omega) (show (x2 : Int32).toInt ≤ 19 by omega) (show 0 ≤ (x3 : Int32).toInt by omega) (show (x3 : Int32).toInt < 60 by omega) (show -1 ≤ (e_10 : Int32).toInt by omega) (show (e_10 : Int32).toInt ≤ (x1 : Int32).toInt by omega) (show (x2 : Int32).toInt = g by omega)  (by omega)
      · have : ¬ (v10_8 : Int32).toInt < (v6_7 : Int32).toInt := fun z => h_9 (Int32.lt_iff_toInt_lt.mpr z)
        obtain ⟨e_11, he_11⟩ : ∃ e9 : Int32, e9 = (x4 + 1) := ⟨_, rfl⟩
        try have : e_11.toInt = (x4 : Int32).toInt + (1) := by rw [he_11]; exact hs_addk (1) rfl (by omega) (by omega)
        try rw [← he_11]
        refine hs_ga (j := 14) I (by omega) (by omega) (fun v13_12 ev13_12 (bv13_12 : (-2147483648 : Int) ≤ v13_12.toInt ∧ v13_12.toInt ≤ 2147483647) => ?_)
        refine hs_ga (j := 14) I (by omega) (by omega) (fun v16_13 ev16_13 (bv16_13 : (-2147483648 : Int) ≤ v16_13.toInt ∧ v16_13.toInt ≤ 2147483647) => ?_)
        refine hs_bd (s_fX1_weight σ x3 I (show 0 ≤ (x3 : Int32).toInt by omega) (show (x3 : Int32).toInt < 60 by omega) (fun v20_14  => ?_))
        try rw [← he_11]
        refine hs_pa (idx := e_11) (v := _) I (by omega) (by omega) (hs_any _) (ra 14 (by decide) _ _) (fun σ24_15 eσ24_15 Iσ24_15 => ?_)
        unfold fX6_greatest_99
        obtain ⟨e_16, he_16⟩ : ∃ e9 : Int32, e9 = (x4 + (-1)) := ⟨_, rfl⟩
        try have : e_16.toInt = (x4 : Int32).toInt + (-1) := by rw [he_16]; exact hs_addk (-1) rfl (by omega) (by omega)
        try rw [← he_16]
        exact ih σ24_15 (x1 : Int32) (x2 : Int32) (x3 : Int32) (e_16 : Int32) Iσ24_15 (show 0 ≤ (x1 : Int32).toInt by omega) (show (x1 : Int32).toInt ≤ (x2 : Int32).toInt by omega) (show (x2 : Int32).toInt ≤ 19 by omega) (show 0 ≤ (x3 : Int32).toInt by omega) (show (x3 : Int32).toInt < 60 by omega) (show -1 ≤ (e_16 : Int32).toInt by omega) (show (e_16 : Int32).toInt ≤ (x1 : Int32).toInt by omega) (show (x2 : Int32).toInt = g by omega)  (by omega)
