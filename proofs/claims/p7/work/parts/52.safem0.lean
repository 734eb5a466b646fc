def hm_a : Nat → Int × Int := fun j => match j with
  | 3 => (0, 7)
  | 8 => (-1, 23)
  | 9 => (0, 59)
  | 10 => (0, 10)
  | 13 => (0, 59)
  | 22 => (0, 59)
  | 23 => (0, 12)
  | 24 => (0, 12)
  | _ => (-2147483648, 2147483647)
def hm_i : Nat → Int × Int := fun j => match j with
  | 1 => (0, 8)
  | 2 => (0, 60)
  | 3 => (0, 4)
  | 4 => (0, 400)
  | 5 => (0, 400)
  | 6 => (0, 400)
  | 7 => (0, 400)
  | 9 => (0, 60)
  | 10 => (0, 60)
  | _ => (-2147483648, 2147483647)
/-- every jar that is in a hold stands somewhere in that hold's stack -/
def hm_R (σ : hy_S) : Prop := ∀ j : Nat, (j : Int) < (σ.2 2).toInt → 0 ≤ (σ.1 8 j).toInt → ∃ k : Nat, (k : Int) < (σ.1 10 (σ.1 8 j).toNatClampNeg).toInt ∧ (σ.1 9 (10 * (σ.1 8 j).toNatClampNeg + k)).toInt = (j : Int)
abbrev hm_I (R : hy_S → Prop) (σ : hy_S) : Prop := hs_I hm_a hm_i (fun τ => hm_R τ ∧ R τ) σ
theorem hm_sc {σ : hy_S} {j q : Nat} {f : Nat → Int32} (h : q ≠ j) : (hy_sc σ j f).1 q = σ.1 q := by
  show (if q = j then f else σ.1 q) = σ.1 q
  rw [if_neg h]
theorem hm_scs {σ : hy_S} {j : Nat} {f : Nat → Int32} : (hy_sc σ j f).1 j = f := by
  show (if j = j then f else σ.1 j) = f
  rw [if_pos rfl]
theorem hm_Ra {σ : hy_S} {j : Nat} {f : Nat → Int32} (hj : 8 ≠ j ∧ 9 ≠ j ∧ 10 ≠ j) : hm_R σ → hm_R (hy_sc σ j f) := by
  intro h
  unfold hm_R
  rw [hm_sc hj.1, hm_sc hj.2.1, hm_sc hj.2.2]
  exact h
theorem hm_Ri {σ : hy_S} {j : Nat} {v : Int32} (hj : 2 ≠ j) : hm_R σ → hm_R (hy_si σ j v) := by
  intro h
  have e : (hy_si σ j v).2 2 = σ.2 2 := by
    show (if 2 = j then v else σ.2 2) = σ.2 2
    rw [if_neg hj]
  unfold hm_R
  rw [e]
  exact h
theorem hm_R8 {σ : hy_S} {v : Int32} : hm_R σ → hm_R (hy_sc σ 8 (upd (σ.1 8) (σ.2 2).toNatClampNeg v)) := by
  intro h
  unfold hm_R
  rw [hm_sc (q := 9) (by decide), hm_sc (q := 10) (by decide), hm_scs]
  intro j hj hp
  have hj' : (j : Int) < (σ.2 2).toInt := hj
  have hne : j ≠ (σ.2 2).toNatClampNeg := by
    intro e
    rw [Int32.toNatClampNeg] at e
    omega
  have e : upd (σ.1 8) (σ.2 2).toNatClampNeg v j = σ.1 8 j := by
    unfold upd
    rw [if_neg hne]
  rw [e] at hp ⊢
  exact h j hj' hp
theorem hm_R2 {σ : hy_S} {v : Int32} (h0 : (σ.1 8 (σ.2 2).toNatClampNeg).toInt < 0) (h1 : v.toInt = (σ.2 2).toInt + 1) (h2 : 0 ≤ (σ.2 2).toInt) : hm_R σ → hm_R (hy_si σ 2 v) := by
  intro h j hj hp
  have hj' : (j : Int) < v.toInt := hj
  by_cases e : (j : Int) < (σ.2 2).toInt
  · exact h j e hp
  · have ej : j = (σ.2 2).toNatClampNeg := by
      rw [Int32.toNatClampNeg]
      omega
    subst ej
    exact absurd hp (by
      show ¬ 0 ≤ (σ.1 8 (σ.2 2).toNatClampNeg).toInt
      omega)
theorem hs_sameN (σ : hy_S) (k : Nat) : ((hy_sc σ 8 (upd (σ.1 8) k (-1))).1 8 k).toInt < 0 := by
  rw [hs_same]
  decide
theorem hs_of {x : Int32} {n : Nat} (h0 : 0 ≤ x.toInt) (h1 : x.toInt < (n : Int)) (hn : n ≤ 4096) : ∃ k : Nat, k < n ∧ x = Int32.ofNat k := by
  refine ⟨x.toInt.toNat, by omega, ?_⟩
  apply Int32.toInt_inj.mp
  rw [Int32.toInt_ofNat_of_lt (by omega)]
  omega
theorem hs_shlk : ∀ k : Nat, k < 13 → (1 : Int) ≤ ((1 : Int32) <<< ((Int32.ofNat k) &&& 31)).toInt ∧ ((1 : Int32) <<< ((Int32.ofNat k) &&& 31)).toInt ≤ 4096 := by decide +kernel
theorem hs_shl {x : Int32} (h0 : 0 ≤ x.toInt) (h1 : x.toInt ≤ 12) : (1 : Int) ≤ ((1 : Int32) <<< (x &&& 31)).toInt ∧ ((1 : Int32) <<< (x &&& 31)).toInt ≤ 4096 := by
  obtain ⟨k, hk, rfl⟩ := hs_of (n := 13) h0 (by omega) (by omega)
  exact hs_shlk k hk
theorem hs_and {x y : Int32} (h0 : 0 ≤ x.toInt) : 0 ≤ (x &&& y).toInt ∧ (x &&& y).toInt ≤ x.toInt := by
  have hx := hs_any x
  have e0 : x.toInt = (x.toBitVec.toNat : Int) := by
    have := BitVec.toInt_eq_toNat_cond x.toBitVec
    have e : x.toInt = x.toBitVec.toInt := rfl
    rw [e] at h0 ⊢
    rw [this] at h0 ⊢
    split at h0
    · rw [if_pos (by assumption)]
    · have := x.toBitVec.isLt
      omega
  have hle : (x &&& y).toBitVec.toNat ≤ x.toBitVec.toNat := by
    rw [Int32.toBitVec_and, BitVec.toNat_and]
    exact Nat.and_le_left
  have e1 : (x &&& y).toInt = ((x &&& y).toBitVec.toNat : Int) := by
    have := BitVec.toInt_eq_toNat_cond (x &&& y).toBitVec
    have e : (x &&& y).toInt = (x &&& y).toBitVec.toInt := rfl
    rw [e, this, if_pos (by omega)]
  omega
theorem hs_tn {x : Int32} (h : 0 ≤ x.toInt) : (x.toNatClampNeg : Int) = x.toInt := by rw [Int32.toNatClampNeg, Int.toNat_of_nonneg h]
theorem hs_upd {f : Nat → Int32} {k q : Nat} {v : Int32} (h : q ≠ k) : upd f k v q = f q := by
  unfold upd
  rw [if_neg h]
theorem hs_upds {f : Nat → Int32} {k : Nat} {v : Int32} : upd f k v k = v := by
  unfold upd
  rw [if_pos rfl]
/-- box alone out of the whole -/
theorem hm_box {R : hy_S → Prop} {σ : hy_S} (I : hm_I R σ) : hs_I hm_a hm_i R σ := ⟨I.1, I.2.1, I.2.2.2⟩
theorem hm_b10 {R : hy_S → Prop} {σ : hy_S} (I : hs_I hm_a hm_i R σ) (k : Nat) : (0 : Int) ≤ (σ.1 10 k).toInt ∧ (σ.1 10 k).toInt ≤ 10 := I.1 10 k
theorem hm_b8 {R : hy_S → Prop} {σ : hy_S} (I : hs_I hm_a hm_i R σ) (k : Nat) : (-1 : Int) ≤ (σ.1 8 k).toInt ∧ (σ.1 8 k).toInt ≤ 23 := I.1 8 k
theorem hm_b9 {R : hy_S → Prop} {σ : hy_S} (I : hs_I hm_a hm_i R σ) (k : Nat) : (0 : Int) ≤ (σ.1 9 k).toInt ∧ (σ.1 9 k).toInt ≤ 59 := I.1 9 k
theorem s_land_tail {R : hy_S → Prop} (ra : ∀ j, j ∈ ([10, 7, 8] : List Nat) → ∀ (τ : hy_S) (g : Nat → Int32), R τ → R (hy_sc τ j g)) (σ : hy_S) (h : Int32) {Q : hy_S × Int32 → Prop} (I : hm_I R σ) (p0 : 0 ≤ h.toInt) (p1 : h.toInt < 24) (p2 : 1 ≤ (σ.1 10 h.toNatClampNeg).toInt) (hQ : ∀ (σ9 : hy_S) (v9 : Int32), hm_I R σ9 → Q (σ9, v9)) : hs_ok (hy_ga σ 10 24 h (fun v14 => hy_pa σ 10 24 h (v14 - 1) (fun σ17 => hy_ga σ17 10 24 h (fun v20 => hy_ga σ17 9 240 ((10 * h) + v20) (fun v23 => hy_pa σ17 7 60 v23 2 (fun σ26 => hy_pa σ26 8 60 v23 (-1) (fun σ29 => some (σ29, v23)))))))) Q := by
  have B := hm_box I
  refine hs_ga (j := 10) B (by omega) (by omega) (fun v14 e14 (b14 : (0 : Int) ≤ v14.toInt ∧ v14.toInt ≤ 10) => ?_)
  rw [← e14] at p2
  have f1 : (v14 - 1).toInt = v14.toInt - 1 := hs_subk 1 rfl (by omega) (by omega)
  refine hs_pa B (by omega) (by omega) ⟨(by rw [f1]; omega : (0 : Int) ≤ (v14 - 1).toInt), (by rw [f1]; omega : (v14 - 1).toInt ≤ 10)⟩ (ra 10 (by decide) _ _) (fun σ17 e17 B17 => ?_)
  refine hs_ga (j := 10) B17 (by omega) (by omega) (fun v20 e20 (b20 : (0 : Int) ≤ v20.toInt ∧ v20.toInt ≤ 10) => ?_)
  have e20' : v20.toInt = v14.toInt - 1 := by rw [e20, e17, hs_same, f1]
  have f2 : (10 * h).toInt = 10 * h.toInt := hs_mull 10 rfl (by omega) (by omega)
  have f3 : (10 * h + v20).toInt = 10 * h.toInt + (v14.toInt - 1) := by rw [hs_add (by rw [f2]; omega) (by rw [f2]; omega), f2, e20']
  refine hs_ga (j := 9) B17 (by rw [f3]; omega) (by rw [f3]; omega) (fun v23 e23 (b23 : (0 : Int) ≤ v23.toInt ∧ v23.toInt ≤ 59) => ?_)
  refine hs_pa B17 (by omega) (by omega) (hs_any _) (ra 7 (by decide) _ _) (fun σ26 e26 B26 => ?_)
  refine hs_pa B26 (by omega) (by omega) ⟨by decide, by decide⟩ (ra 8 (by decide) _ _) (fun σ29 e29 B29 => ?_)
  refine hs_some (hQ σ29 v23 ⟨B29.1, B29.2.1, ?_, B29.2.2⟩)
  have hn := hs_tn p0
  have hn3 : ((10 * h + v20).toNatClampNeg : Int) = 10 * h.toInt + (v14.toInt - 1) := by rw [hs_tn (by rw [f3]; omega), f3]
  have hv := hs_tn b23.1
  have g9 : σ29.1 9 = σ.1 9 := by rw [e29, e26, e17]; rfl
  have g10 : σ29.1 10 = upd (σ.1 10) h.toNatClampNeg (v14 - 1) := by rw [e29, e26, e17]; rfl
  have g8 : σ29.1 8 = upd (σ.1 8) v23.toNatClampNeg (-1) := by rw [e29, e26, e17]; rfl
  have g2 : σ29.2 2 = σ.2 2 := by rw [e29, e26, e17]; rfl
  have h9 : v23 = σ.1 9 (10 * h + v20).toNatClampNeg := by rw [e23, e17]; rfl
  unfold hm_R
  rw [g9, g10, g8, g2]
  intro j hj hp
  by_cases ej : j = v23.toNatClampNeg
  · subst ej
    rw [hs_upds] at hp
    exact absurd hp (by decide)
  · rw [hs_upd ej] at hp ⊢
    obtain ⟨k, hk1, hk2⟩ := I.2.2.1 j hj hp
    refine ⟨k, ?_, hk2⟩
    by_cases eh : (σ.1 8 j).toNatClampNeg = h.toNatClampNeg
    · rw [eh] at hk1 hk2 ⊢
      rw [hs_upds, f1]
      rw [← e14] at hk1
      by_cases ek : (k : Int) = v14.toInt - 1
      · exfalso
        have en : 10 * h.toNatClampNeg + k = (10 * h + v20).toNatClampNeg := by omega
        rw [en, ← h9] at hk2
        omega
      · omega
    · rw [hs_upd eh]
      exact hk1
theorem s_load_tail {R : hy_S → Prop} (ra : ∀ j, j ∈ ([9, 10, 7, 8] : List Nat) → ∀ (τ : hy_S) (g : Nat → Int32), R τ → R (hy_sc τ j g)) (σ : hy_S) (x1 x4 : Int32) {Q : hy_S × Int32 → Prop} (I : hm_I R σ) (p0 : 0 ≤ x1.toInt) (p1 : x1.toInt < 60) (p2 : 0 ≤ x4.toInt) (p3 : x4.toInt < 24) (p4 : (σ.1 10 x4.toNatClampNeg).toInt < 10) (hQ : ∀ (σ9 : hy_S) (v9 : Int32), hm_I R σ9 → Q (σ9, v9)) : hs_ok (hy_ga σ 10 24 x4 (fun v5 => hy_pa σ 9 240 ((10 * x4) + v5) x1 (fun σ8 => hy_ga σ8 10 24 x4 (fun v11 => hy_pa σ8 10 24 x4 (v11 + 1) (fun σ14 => hy_pa σ14 7 60 x1 1 (fun σ17 => hy_pa σ17 8 60 x1 x4 (fun σ20 => some (σ20, 1)))))))) Q := by
  have B := hm_box I
  refine hs_ga (j := 10) B (by omega) (by omega) (fun v5 e5 (b5 : (0 : Int) ≤ v5.toInt ∧ v5.toInt ≤ 10) => ?_)
  rw [← e5] at p4
  have f2 : (10 * x4).toInt = 10 * x4.toInt := hs_mull 10 rfl (by omega) (by omega)
  have f3 : (10 * x4 + v5).toInt = 10 * x4.toInt + v5.toInt := by rw [hs_add (by rw [f2]; omega) (by rw [f2]; omega), f2]
  refine hs_pa B (by rw [f3]; omega) (by rw [f3]; omega) ⟨(by omega : (0 : Int) ≤ x1.toInt), (by omega : x1.toInt ≤ 59)⟩ (ra 9 (by decide) _ _) (fun σ8 e8 B8 => ?_)
  refine hs_ga (j := 10) B8 (by omega) (by omega) (fun v11 e11 (b11 : (0 : Int) ≤ v11.toInt ∧ v11.toInt ≤ 10) => ?_)
  have e11' : v11 = v5 := by rw [e11, e8, e5]; rfl
  have f1 : (v11 + 1).toInt = v5.toInt + 1 := by rw [e11', hs_addk 1 rfl (by omega) (by omega)]
  refine hs_pa B8 (by omega) (by omega) ⟨(by rw [f1]; omega : (0 : Int) ≤ (v11 + 1).toInt), (by rw [f1]; omega : (v11 + 1).toInt ≤ 10)⟩ (ra 10 (by decide) _ _) (fun σ14 e14 B14 => ?_)
  refine hs_pa B14 (by omega) (by omega) (hs_any _) (ra 7 (by decide) _ _) (fun σ17 e17 B17 => ?_)
  refine hs_pa B17 (by omega) (by omega) ⟨(by omega : (-1 : Int) ≤ x4.toInt), (by omega : x4.toInt ≤ 23)⟩ (ra 8 (by decide) _ _) (fun σ20 e20 B20 => ?_)
  refine hs_some (hQ σ20 1 ⟨B20.1, B20.2.1, ?_, B20.2.2⟩)
  have hn := hs_tn p2
  have hn1 := hs_tn p0
  have hn3 : ((10 * x4 + v5).toNatClampNeg : Int) = 10 * x4.toInt + v5.toInt := by rw [hs_tn (by rw [f3]; omega), f3]
  have g9 : σ20.1 9 = upd (σ.1 9) (10 * x4 + v5).toNatClampNeg x1 := by rw [e20, e17, e14, e8]; rfl
  have g10 : σ20.1 10 = upd (σ.1 10) x4.toNatClampNeg (v11 + 1) := by rw [e20, e17, e14, e8]; rfl
  have g8 : σ20.1 8 = upd (σ.1 8) x1.toNatClampNeg x4 := by rw [e20, e17, e14, e8]; rfl
  have g2 : σ20.2 2 = σ.2 2 := by rw [e20, e17, e14, e8]; rfl
  unfold hm_R
  rw [g9, g10, g8, g2]
  intro j hj hp
  by_cases ej : j = x1.toNatClampNeg
  · subst ej
    rw [hs_upds]
    refine ⟨v5.toNatClampNeg, ?_, ?_⟩
    · rw [hs_upds, f1, hs_tn b5.1]
      omega
    · have en : 10 * x4.toNatClampNeg + v5.toNatClampNeg = (10 * x4 + v5).toNatClampNeg := by
        have := hs_tn b5.1
        omega
      rw [en, hs_upds]
      exact hn1.symm
  · rw [hs_upd ej] at hp ⊢
    obtain ⟨k, hk1, hk2⟩ := I.2.2.1 j hj hp
    have b10 := hm_b10 I (σ.1 8 j).toNatClampNeg
    refine ⟨k, ?_, ?_⟩
    · by_cases eh : (σ.1 8 j).toNatClampNeg = x4.toNatClampNeg
      · rw [eh] at hk1 ⊢
        rw [hs_upds, f1]
        rw [← e5] at hk1
        omega
      · rw [hs_upd eh]
        exact hk1
    · rw [hs_upd ?_]
      · exact hk2
      · intro en
        by_cases eh : (σ.1 8 j).toNatClampNeg = x4.toNatClampNeg
        · rw [eh, ← e5] at hk1
          rw [eh] at en
          omega
        · omega
/-- the loop that closes a stack's gaps: what stands where -/
def hm_L (σ : hy_S) (h : Nat) (l n k : Int) : Prop := ∀ j : Nat, (j : Int) < (σ.2 2).toInt → 0 ≤ (σ.1 8 j).toInt → (¬ (σ.1 8 j).toNatClampNeg = h ∧ ∃ q : Nat, (q : Int) < (σ.1 10 (σ.1 8 j).toNatClampNeg).toInt ∧ (σ.1 9 (10 * (σ.1 8 j).toNatClampNeg + q)).toInt = (j : Int)) ∨ ((σ.1 8 j).toNatClampNeg = h ∧ ∃ q : Nat, ((q : Int) < l ∨ (k ≤ (q : Int) ∧ (q : Int) < n)) ∧ (σ.1 9 (10 * h + q)).toInt = (j : Int))
theorem s_fX10_meets_87 {R : hy_S → Prop} (ra : ∀ j, j ∈ ([9, 10, 7, 8] : List Nat) → ∀ (τ : hy_S) (g : Nat → Int32), R τ → R (hy_sc τ j g)) {Q : hy_S × Int32 → Prop} (hQ : ∀ (σ9 : hy_S) (v9 : Int32), hm_I R σ9 → Q (σ9, v9)) : ∀ (n : Nat) (σ : hy_S) (x1 x3 x4 x5 : Int32), hs_I hm_a hm_i R σ → 0 ≤ x1.toInt → x1.toInt < 24 → 0 ≤ x3.toInt → x3.toInt ≤ x5.toInt → x5.toInt ≤ x4.toInt → x4.toInt ≤ 10 → hm_L σ x1.toNatClampNeg x3.toInt x4.toInt x5.toInt → x4.toInt - x5.toInt < (n : Int) → hs_ok (fX10_meets_87 n σ x1 x3 x4 x5) Q := by
  intro n
  induction n with
  | zero =>
    intro σ x1 x3 x4 x5 B p0 p1 p2 p3 p4 p5 hL hm
    exact absurd hm (by omega)
  | succ n ih =>
    intro σ x1 x3 x4 x5 B p0 p1 p2 p3 p4 p5 hL hm
    have hn := hs_tn p0
    unfold fX10_meets_87
    refine hs_ite (fun h => ?_) (fun h => ?_)
    · have h1 : x4.toInt ≤ x5.toInt := Int32.le_iff_toInt_le.mp h
      refine hs_pa B (by omega) (by omega) ⟨(by omega : (0 : Int) ≤ x3.toInt), (by omega : x3.toInt ≤ 10)⟩ (ra 10 (by decide) _ _) (fun σ2 e2 B2 => ?_)
      refine hs_some (hQ σ2 _ ⟨B2.1, B2.2.1, ?_, B2.2.2⟩)
      have g9 : σ2.1 9 = σ.1 9 := by rw [e2]; rfl
      have g8 : σ2.1 8 = σ.1 8 := by rw [e2]; rfl
      have g10 : σ2.1 10 = upd (σ.1 10) x1.toNatClampNeg x3 := by rw [e2]; rfl
      have g2 : σ2.2 2 = σ.2 2 := by rw [e2]; rfl
      unfold hm_R
      rw [g9, g10, g8, g2]
      intro j hj hp
      rcases hL j hj hp with ⟨h0, q, hq1, hq2⟩ | ⟨h0, q, hq1, hq2⟩
      · exact ⟨q, by rw [hs_upd h0]; exact hq1, hq2⟩
      · refine ⟨q, ?_, by rw [h0]; exact hq2⟩
        rw [h0, hs_upds]
        omega
    · have h1 : ¬ x4.toInt ≤ x5.toInt := fun z => h (Int32.le_iff_toInt_le.mpr z)
      have f2 : (10 * x1).toInt = 10 * x1.toInt := hs_mull 10 rfl (by omega) (by omega)
      have f5 : (10 * x1 + x5).toInt = 10 * x1.toInt + x5.toInt := by rw [hs_add (by rw [f2]; omega) (by rw [f2]; omega), f2]
      have f3 : (10 * x1 + x3).toInt = 10 * x1.toInt + x3.toInt := by rw [hs_add (by rw [f2]; omega) (by rw [f2]; omega), f2]
      have n5 : ((10 * x1 + x5).toNatClampNeg : Int) = 10 * x1.toInt + x5.toInt := by rw [hs_tn (by rw [f5]; omega), f5]
      have n3 : ((10 * x1 + x3).toNatClampNeg : Int) = 10 * x1.toInt + x3.toInt := by rw [hs_tn (by rw [f3]; omega), f3]
      have g1 : (x5 + 1).toInt = x5.toInt + 1 := hs_addk 1 rfl (by omega) (by omega)
      have g3 : (x3 + 1).toInt = x3.toInt + 1 := hs_addk 1 rfl (by omega) (by omega)
      refine hs_ga (j := 9) B (by rw [f5]; omega) (by rw [f5]; omega) (fun v5 e5 (b5 : (0 : Int) ≤ v5.toInt ∧ v5.toInt ≤ 59) => ?_)
      have nv := hs_tn b5.1
      refine hs_ga (j := 11) B (by omega) (by omega) (fun v8 e8 b8 => ?_)
      refine hs_ite (fun hc => ?_) (fun hc => ?_)
      · refine hs_pa B (by rw [f3]; omega) (by rw [f3]; omega) ⟨(by omega : (0 : Int) ≤ v5.toInt), (by omega : v5.toInt ≤ 59)⟩ (ra 9 (by decide) _ _) (fun σ12 e12 B12 => ?_)
        unfold fX10_meets_153
        refine ih σ12 x1 (x3 + 1) x4 (x5 + 1) B12 p0 p1 (by rw [g3]; omega) (by rw [g3, g1]; omega) (by rw [g1]; omega) p5 ?_ (by rw [g1]; omega)
        have k9 : σ12.1 9 = upd (σ.1 9) (10 * x1 + x3).toNatClampNeg v5 := by rw [e12]; rfl
        have k8 : σ12.1 8 = σ.1 8 := by rw [e12]; rfl
        have k10 : σ12.1 10 = σ.1 10 := by rw [e12]; rfl
        have k2 : σ12.2 2 = σ.2 2 := by rw [e12]; rfl
        unfold hm_L
        rw [k9, k10, k8, k2, g3, g1]
        intro j hj hp
        rcases hL j hj hp with ⟨h0, q, hq1, hq2⟩ | ⟨h0, q, hq1, hq2⟩
        · refine Or.inl ⟨h0, q, hq1, ?_⟩
          have b10 := hm_b10 B (σ.1 8 j).toNatClampNeg
          rw [hs_upd ?_]
          · exact hq2
          · intro en
            omega
        · refine Or.inr ⟨h0, ?_⟩
          by_cases eq : (q : Int) = x5.toInt
          · refine ⟨x3.toNatClampNeg, Or.inl (by rw [hs_tn p2]; omega), ?_⟩
            have en : 10 * x1.toNatClampNeg + x3.toNatClampNeg = (10 * x1 + x3).toNatClampNeg := by
              have := hs_tn p2
              omega
            rw [en, hs_upds]
            have en2 : 10 * x1.toNatClampNeg + q = (10 * x1 + x5).toNatClampNeg := by omega
            rw [en2, ← e5] at hq2
            exact hq2
          · refine ⟨q, by omega, ?_⟩
            rw [hs_upd ?_]
            · exact hq2
            · intro en
              omega
      · refine hs_pa B (by omega) (by omega) (hs_any _) (ra 7 (by decide) _ _) (fun σ15 e15 B15 => ?_)
        refine hs_pa B15 (by omega) (by omega) ⟨by decide, by decide⟩ (ra 8 (by decide) _ _) (fun σ18 e18 B18 => ?_)
        unfold fX10_meets_153
        refine ih σ18 x1 x3 x4 (x5 + 1) B18 p0 p1 p2 (by rw [g1]; omega) (by rw [g1]; omega) p5 ?_ (by rw [g1]; omega)
        have k9 : σ18.1 9 = σ.1 9 := by rw [e18, e15]; rfl
        have k8 : σ18.1 8 = upd (σ.1 8) v5.toNatClampNeg (-1) := by rw [e18, e15]; rfl
        have k10 : σ18.1 10 = σ.1 10 := by rw [e18, e15]; rfl
        have k2 : σ18.2 2 = σ.2 2 := by rw [e18, e15]; rfl
        unfold hm_L
        rw [k9, k10, k8, k2, g1]
        intro j hj hp
        by_cases ej : j = v5.toNatClampNeg
        · subst ej
          rw [hs_upds] at hp
          exact absurd hp (by decide)
        · rw [hs_upd ej] at hp ⊢
          rcases hL j hj hp with ⟨h0, q, hq1, hq2⟩ | ⟨h0, q, hq1, hq2⟩
          · exact Or.inl ⟨h0, q, hq1, hq2⟩
          · refine Or.inr ⟨h0, q, ?_, hq2⟩
            by_cases eq : (q : Int) = x5.toInt
            · exfalso
              have en2 : 10 * x1.toNatClampNeg + q = (10 * x1 + x5).toNatClampNeg := by omega
              rw [en2, ← e5] at hq2
              omega
            · omega
theorem s_meets_in {R : hy_S → Prop} {σ : hy_S} {x1 v5 : Int32} (I : hm_I R σ) (e : v5 = σ.1 10 x1.toNatClampNeg) : hm_L σ x1.toNatClampNeg (0 : Int32).toInt v5.toInt (0 : Int32).toInt := by
  intro j hj hp
  obtain ⟨k, hk1, hk2⟩ := I.2.2.1 j hj hp
  by_cases eh : (σ.1 8 j).toNatClampNeg = x1.toNatClampNeg
  · refine Or.inr ⟨eh, k, Or.inr ⟨?_, ?_⟩, ?_⟩
    · have : (0 : Int32).toInt = 0 := rfl
      rw [this]
      omega
    · rw [e, ← eh]
      exact hk1
    · rw [← eh]
      exact hk2
  · exact Or.inl ⟨eh, k, hk1, hk2⟩
theorem s_fJ6_bitCount_0f7a4 {R : hy_S → Prop} (σ : hy_S) (x0 : Int32) {P : hy_S → Int32 → Prop} (I : hm_I R σ) (hQ : ∀ v9 : Int32, P σ v9) : hs_ok2 (fJ6_bitCount_0f7a4 σ x0) P := by
  unfold fJ6_bitCount_0f7a4
  exact hs_some (hQ _)
theorem s_fX10_isWord_24 {R : hy_S → Prop} {Q : hy_S × Int32 → Prop} : ∀ (n : Nat) (σ : hy_S) (x1 x2 x3 : Int32), hm_I R σ → x1.toNatClampNeg < 5 → 0 ≤ x2.toInt → x2.toInt ≤ 1 → 0 ≤ x3.toInt → x3.toInt ≤ ((hy_sl.getD x1.toNatClampNeg 0 : Nat) : Int) → (x2.toInt = 0 ∨ (σ.2 5).toInt - (σ.2 7).toInt = ((hy_sl.getD x1.toNatClampNeg 0 : Nat) : Int)) → ((hy_sl.getD x1.toNatClampNeg 0 : Nat) : Int) - x3.toInt < (n : Int) → (∀ v9 : Int32, 0 ≤ v9.toInt → v9.toInt ≤ 1 → Q (σ, v9)) → hs_ok (fX10_isWord_24 n σ x1 x2 x3) Q := by
  intro n
  induction n with
  | zero =>
    intro σ x1 x2 x3 I p0 p1 p2 p3 p4 p5 hm hQ
    exact absurd hm (by omega)
  | succ n ih =>
    intro σ x1 x2 x3 I p0 p1 p2 p3 p4 p5 hm hQ
    have h5 : (0 : Int) ≤ (σ.2 5).toInt ∧ (σ.2 5).toInt ≤ 400 := I.2.1 5
    have h7 : (0 : Int) ≤ (σ.2 7).toInt ∧ (σ.2 7).toInt ≤ 400 := I.2.1 7
    unfold fX10_isWord_24
    refine hs_ite (fun h => ?_) (fun h => ?_)
    · unfold fX10_isWord_67
      exact hs_ck (hs_01 p1 p2) (hs_some (hQ x2 p1 p2))
    · have hx : ¬ x2.toInt = 0 := fun z => h (Int32.toInt_inj.mp z)
      have hl : (σ.2 5).toInt - (σ.2 7).toInt = ((hy_sl.getD x1.toNatClampNeg 0 : Nat) : Int) := by
        rcases p5 with z | z
        · exact absurd z hx
        · exact z
      refine hs_ck p0 ?_
      refine hs_ite (fun h2 => ?_) (fun h2 => ?_)
      · unfold fX10_isWord_67
        exact hs_ck (hs_01 p1 p2) (hs_some (hQ x2 p1 p2))
      · have h3 : ¬ ((hy_sl.getD x1.toNatClampNeg 0 : Nat) : Int) ≤ x3.toInt := fun z => h2 (Int32.le_iff_toInt_le.mpr (by rw [hs_len _ p0]; exact z))
        have f1 : (σ.2 7 + x3).toInt = (σ.2 7).toInt + x3.toInt := hs_add (by omega) (by omega)
        refine hs_ga (j := 17) I (by rw [f1]; omega) (by rw [f1]; omega) (fun v4 e4 b4 => ?_)
        refine hs_ck ⟨p0, hs_nat p3 (by omega)⟩ ?_
        have g1 : (x3 + 1).toInt = x3.toInt + 1 := hs_addk 1 rfl (by omega) (by omega)
        refine hs_ite (fun h4 => ?_) (fun h4 => ?_)
        · unfold fX10_isWord_60
          exact ih σ x1 1 (x3 + 1) I p0 (by decide) (by decide) (by rw [g1]; omega) (by rw [g1]; omega) (Or.inr hl) (by rw [g1]; omega) hQ
        · unfold fX10_isWord_60
          exact ih σ x1 0 (x3 + 1) I p0 (by decide) (by decide) (by rw [g1]; omega) (by rw [g1]; omega) (Or.inr hl) (by rw [g1]; omega) hQ
theorem hs_sl5 : ∀ k : Nat, k < 5 → hy_sl.getD k 0 ≤ 5 := by decide
theorem s_fX10_isWord {R : hy_S → Prop} (σ : hy_S) (x1 : Int32) {P : hy_S → Int32 → Prop} (I : hm_I R σ) (p0 : 0 ≤ x1.toInt) (p1 : x1.toInt ≤ 4) (p2 : (σ.2 7).toInt ≤ (σ.2 5).toInt) (hQ : ∀ v9 : Int32, 0 ≤ v9.toInt → v9.toInt ≤ 1 → P σ v9) : hs_ok2 (fX10_isWord σ x1) P := by
  unfold fX10_isWord
  have h5 : (0 : Int) ≤ (σ.2 5).toInt ∧ (σ.2 5).toInt ≤ 400 := I.2.1 5
  have h7 : (0 : Int) ≤ (σ.2 7).toInt ∧ (σ.2 7).toInt ≤ 400 := I.2.1 7
  have hn := hs_nat5 p0 p1
  have hs := hs_sl5 _ hn
  have hfu : ((hy_fu : Nat) : Int) = 5000 := rfl
  have e3 : (σ.2 5 - σ.2 7).toInt = (σ.2 5).toInt - (σ.2 7).toInt := hs_sub (by omega) (by omega)
  refine hs_ck hn ?_
  refine hs_ite (fun h => ?_) (fun h => ?_)
  · have h6 := congrArg Int32.toInt h
    rw [hs_len _ hn, e3] at h6
    unfold fX10_isWord_21
    exact s_fX10_isWord_24 hy_fu σ x1 1 0 I hn (by decide) (by decide) (by decide) (show (0 : Int) ≤ _ by omega) (Or.inr h6) (show _ - (0 : Int) < ((hy_fu : Nat) : Int) by rw [hfu]; omega) hQ
  · unfold fX10_isWord_21
    exact s_fX10_isWord_24 hy_fu σ x1 0 0 I hn (by decide) (by decide) (by decide) (show (0 : Int) ≤ _ by omega) (Or.inl rfl) (show _ - (0 : Int) < ((hy_fu : Nat) : Int) by rw [hfu]; omega) hQ
theorem s_fX10_thrown {R : hy_S → Prop} (σ : hy_S) {P : hy_S → Int32 → Prop} (I : hm_I R σ) (hQ : ∀ v9 : Int32, P σ v9) : hs_ok2 (fX10_thrown σ ) P := by
  unfold fX10_thrown
  show hs_ok _ _
  have : (-2147483648 : Int) ≤ (σ.2 0).toInt ∧ (σ.2 0).toInt ≤ 2147483647 := I.2.1 0
  exact hs_some (hQ ((σ.2 0) : Int32) )
theorem s_fX10_throwsIf {R : hy_S → Prop} (ra : ∀ j, j ∈ ([] : List Nat) → ∀ (τ : hy_S) (g : Nat → Int32), R τ → R (hy_sc τ j g)) (ri : ∀ j, j ∈ ([0] : List Nat) → ∀ (τ : hy_S) (v : Int32), R τ → R (hy_si τ j v)) (σ : hy_S) (x1 : Int32) (x2 : Int32) {P : hy_S → Int32 → Prop} (I : hm_I R σ) (p0 : 0 ≤ x1.toInt) (p1 : x1.toInt ≤ 1) (hQ : ∀ (σ9 : hy_S) (v9 : Int32), hm_I R σ9 → v9.toInt = x1.toInt → (σ9.2 1).toInt = (σ.2 1).toInt → (σ9.2 2).toInt = (σ.2 2).toInt → (σ9.2 3).toInt = (σ.2 3).toInt → (σ9.2 4).toInt = (σ.2 4).toInt → (σ9.2 5).toInt = (σ.2 5).toInt → (σ9.2 6).toInt = (σ.2 6).toInt → (σ9.2 7).toInt = (σ.2 7).toInt → (σ9.2 8).toInt = (σ.2 8).toInt → (σ9.2 9).toInt = (σ.2 9).toInt → (σ9.2 10).toInt = (σ.2 10).toInt → (σ9.2 11).toInt = (σ.2 11).toInt → (x1.toInt = 0 ∧ (σ9.2 0).toInt = (σ.2 0).toInt) ∨ (x1.toInt = 1 ∧ (σ9.2 0).toInt = x2.toInt) → P σ9 v9) : hs_ok2 (fX10_throwsIf σ x1 x2) P := by
  unfold fX10_throwsIf
  show hs_ok _ _
  have : (-2147483648 : Int) ≤ (σ.2 0).toInt ∧ (σ.2 0).toInt ≤ 2147483647 := I.2.1 0
  have : (0 : Int) ≤ (σ.2 1).toInt ∧ (σ.2 1).toInt ≤ 8 := I.2.1 1
  have : (0 : Int) ≤ (σ.2 2).toInt ∧ (σ.2 2).toInt ≤ 60 := I.2.1 2
  have : (0 : Int) ≤ (σ.2 3).toInt ∧ (σ.2 3).toInt ≤ 4 := I.2.1 3
  have : (0 : Int) ≤ (σ.2 4).toInt ∧ (σ.2 4).toInt ≤ 400 := I.2.1 4
  have : (0 : Int) ≤ (σ.2 5).toInt ∧ (σ.2 5).toInt ≤ 400 := I.2.1 5
  have : (0 : Int) ≤ (σ.2 6).toInt ∧ (σ.2 6).toInt ≤ 400 := I.2.1 6
  have : (0 : Int) ≤ (σ.2 7).toInt ∧ (σ.2 7).toInt ≤ 400 := I.2.1 7
  have : (-2147483648 : Int) ≤ (σ.2 8).toInt ∧ (σ.2 8).toInt ≤ 2147483647 := I.2.1 8
  have : (0 : Int) ≤ (σ.2 9).toInt ∧ (σ.2 9).toInt ≤ 60 := I.2.1 9
  have : (0 : Int) ≤ (σ.2 10).toInt ∧ (σ.2 10).toInt ≤ 60 := I.2.1 10
  have : (-2147483648 : Int) ≤ (σ.2 11).toInt ∧ (σ.2 11).toInt ≤ 2147483647 := I.2.1 11
  refine hs_ite (fun h_1 => ?_) (fun h_1 => ?_)
  · have : (x1 : Int32).toInt = (0) := congrArg Int32.toInt h_1
    unfold fX10_throwsIf_9
    refine hs_ck (hs_01 (by omega) (by omega)) ?_
    exact hs_some (hQ σ (x1 : Int32) I (show (x1 : Int32).toInt = x1.toInt by omega) (show (σ.2 1).toInt = (σ.2 1).toInt by omega) (show (σ.2 2).toInt = (σ.2 2).toInt by omega) (show (σ.2 3).toInt = (σ.2 3).toInt by omega) (show (σ.2 4).toInt = (σ.2 4).toInt by omega) (show (σ.2 5).toInt = (σ.2 5).toInt by omega) (show (σ.2 6).toInt = (σ.2 6).toInt by omega) (show (σ.2 7).toInt = (σ.2 7).toInt by omega) (show (σ.2 8).toInt = (σ.2 8).toInt by omega) (show (σ.2 9).toInt = (σ.2 9).toInt by omega) (show (σ.2 10).toInt = (σ.2 10).toInt by omega) (show (σ.2 11).toInt = (σ.2 11).toInt by omega) (show (x1.toInt = 0 ∧ (σ.2 0).toInt = (σ.2 0).toInt) ∨ (x1.toInt = 1 ∧ (σ.2 0).toInt = x2.toInt) by omega))
  · have : ¬ (x1 : Int32).toInt = (0) := fun z => h_1 (Int32.toInt_inj.mp z)
    refine hs_pf (v := x2) I (hs_any _) (fun r => ⟨hm_Ri (by decide) r.1, ri 0 (by decide) _ _ r.2⟩) (fun σ2_2 eσ2_2 Iσ2_2 => ?_)
    have : (σ2_2.2 0).toInt = (x2 : Int32).toInt := by rw [eσ2_2]; rfl
    have : (σ2_2.2 1).toInt = (σ.2 1).toInt := by rw [eσ2_2]; rfl
    have : (σ2_2.2 2).toInt = (σ.2 2).toInt := by rw [eσ2_2]; rfl
    have : (σ2_2.2 3).toInt = (σ.2 3).toInt := by rw [eσ2_2]; rfl
    have : (σ2_2.2 4).toInt = (σ.2 4).toInt := by rw [eσ2_2]; rfl
    have : (σ2_2.2 5).toInt = (σ.2 5).toInt := by rw [eσ2_2]; rfl
    have : (σ2_2.2 6).toInt = (σ.2 6).toInt := by rw [eσ2_2]; rfl
    have : (σ2_2.2 7).toInt = (σ.2 7).toInt := by rw [eσ2_2]; rfl
    have : (σ2_2.2 8).toInt = (σ.2 8).toInt := by rw [eσ2_2]; rfl
    have : (σ2_2.2 9).toInt = (σ.2 9).toInt := by rw [eσ2_2]; rfl
    have : (σ2_2.2 10).toInt = (σ.2 10).toInt := by rw [eσ2_2]; rfl
    have : (σ2_2.2 11).toInt = (σ.2 11).toInt := by rw [eσ2_2]; rfl
    have : (-2147483648 : Int) ≤ (σ2_2.2 0).toInt ∧ (σ2_2.2 0).toInt ≤ 2147483647 := Iσ2_2.2.1 0
    have : (0 : Int) ≤ (σ2_2.2 1).toInt ∧ (σ2_2.2 1).toInt ≤ 8 := Iσ2_2.2.1 1
    have : (0 : Int) ≤ (σ2_2.2 2).toInt ∧ (σ2_2.2 2).toInt ≤ 60 := Iσ2_2.2.1 2
    have : (0 : Int) ≤ (σ2_2.2 3).toInt ∧ (σ2_2.2 3).toInt ≤ 4 := Iσ2_2.2.1 3
    have : (0 : Int) ≤ (σ2_2.2 4).toInt ∧ (σ2_2.2 4).toInt ≤ 400 := Iσ2_2.2.1 4
    have : (0 : Int) ≤ (σ2_2.2 5).toInt ∧ (σ2_2.2 5).toInt ≤ 400 := Iσ2_2.2.1 5
    have : (0 : Int) ≤ (σ2_2.2 6).toInt ∧ (σ2_2.2 6).toInt ≤ 400 := Iσ2_2.2.1 6
    have : (0 : Int) ≤ (σ2_2.2 7).toInt ∧ (σ2_2.2 7).toInt ≤ 400 := Iσ2_2.2.1 7
    have : (-2147483648 : Int) ≤ (σ2_2.2 8).toInt ∧ (σ2_2.2 8).toInt ≤ 2147483647 := Iσ2_2.2.1 8
    have : (0 : Int) ≤ (σ2_2.2 9).toInt ∧ (σ2_2.2 9).toInt ≤ 60 := Iσ2_2.2.1 9
    have : (0 : Int) ≤ (σ2_2.2 10).toInt ∧ (σ2_2.2 10).toInt ≤ 60 := Iσ2_2.2.1 10
    have : (-2147483648 : Int) ≤ (σ2_2.2 11).toInt ∧ (σ2_2.2 11).toInt ≤ 2147483647 := Iσ2_2.2.1 11
    unfold fX10_throwsIf_9
    refine hs_ck (hs_01 (by omega) (by omega)) ?_
    exact hs_some (hQ σ2_2 (x1 : Int32) Iσ2_2 (show (x1 : Int32).toInt = x1.toInt by omega) (show (σ2_2.2 1).toInt = (σ.2 1).toInt by omega) (show (σ2_2.2 2).toInt = (σ.2 2).toInt by omega) (show (σ2_2.2 3).toInt = (σ.2 3).toInt by omega) (show (σ2_2.2 4).toInt = (σ.2 4).toInt by omega) (show (σ2_2.2 5).toInt = (σ.2 5).toInt by omega) (show (σ2_2.2 6).toInt = (σ.2 6).toInt by omega) (show (σ2_2.2 7).toInt = (σ.2 7).toInt by omega) (show (σ2_2.2 8).toInt = (σ.2 8).toInt by omega) (show (σ2_2.2 9).toInt = (σ.2 9).toInt by omega) (show (σ2_2.2 10).toInt = (σ.2 10).toInt by omega) (show (σ2_2.2 11).toInt = (σ.2 11).toInt by omega) (show (x1.toInt = 0 ∧ (σ2_2.2 0).toInt = (σ.2 0).toInt) ∨ (x1.toInt = 1 ∧ (σ2_2.2 0).toInt = x2.toInt) by omega))
theorem s_fX10_in {R : hy_S → Prop} (σ : hy_S) (x0 : Int32) (x1 : Int32) (x2 : Int32) {P : hy_S → Int32 → Prop} (I : hm_I R σ) (hQ : ∀ v9 : Int32, (v9.toInt = 1 ∧ x1.toInt ≤ x0.toInt ∧ x0.toInt ≤ x2.toInt) ∨ (v9.toInt = 0 ∧ (x0.toInt < x1.toInt ∨ x2.toInt < x0.toInt)) → P σ v9) : hs_ok2 (fX10_in σ x0 x1 x2) P := by
  unfold fX10_in
  show hs_ok _ _
  refine hs_ite (fun h_1 => ?_) (fun h_1 => ?_)
  · have : (x0 : Int32).toInt < (x1 : Int32).toInt := Int32.lt_iff_toInt_lt.mp h_1
    exact hs_some (hQ (0 : Int32) (show ((0) = 1 ∧ x1.toInt ≤ x0.toInt ∧ x0.toInt ≤ x2.toInt) ∨ ((0) = 0 ∧ (x0.toInt < x1.toInt ∨ x2.toInt < x0.toInt)) by omega))
  · have : ¬ (x0 : Int32).toInt < (x1 : Int32).toInt := fun z => h_1 (Int32.lt_iff_toInt_lt.mpr z)
    refine hs_ite (fun h_2 => ?_) (fun h_2 => ?_)
    · have : (x2 : Int32).toInt < (x0 : Int32).toInt := Int32.lt_iff_toInt_lt.mp h_2
      exact hs_some (hQ (0 : Int32) (show ((0) = 1 ∧ x1.toInt ≤ x0.toInt ∧ x0.toInt ≤ x2.toInt) ∨ ((0) = 0 ∧ (x0.toInt < x1.toInt ∨ x2.toInt < x0.toInt)) by omega))
    · have : ¬ (x2 : Int32).toInt < (x0 : Int32).toInt := fun z => h_2 (Int32.lt_iff_toInt_lt.mpr z)
      exact hs_some (hQ (1 : Int32) (show ((1) = 1 ∧ x1.toInt ≤ x0.toInt ∧ x0.toInt ≤ x2.toInt) ∨ ((1) = 0 ∧ (x0.toInt < x1.toInt ∨ x2.toInt < x0.toInt)) by omega))
theorem s_fX10_noJar {R : hy_S → Prop} (σ : hy_S) (x1 : Int32) {P : hy_S → Int32 → Prop} (I : hm_I R σ) (hQ : ∀ v9 : Int32, 0 ≤ v9.toInt → v9.toInt ≤ 1 → v9.toInt = 1 ∨ (0 ≤ x1.toInt ∧ x1.toInt < (σ.2 2).toInt) → P σ v9) : hs_ok2 (fX10_noJar σ x1) P := by
  unfold fX10_noJar
  show hs_ok _ _
  have : (0 : Int) ≤ (σ.2 2).toInt ∧ (σ.2 2).toInt ≤ 60 := I.2.1 2
  obtain ⟨e_1, he_1⟩ : ∃ e9 : Int32, e9 = ((σ.2 2) - 1) := ⟨_, rfl⟩
  try have : e_1.toInt = ((σ.2 2) : Int32).toInt - (1) := by rw [he_1]; exact hs_subk (1) rfl (by omega) (by omega)
  try rw [← he_1]
  refine hs_bd (s_fX10_in σ x1 (0 : Int32) e_1 I  (fun v2_2 (gv2_2_0 : (v2_2.toInt = 1 ∧ (0) ≤ (x1 : Int32).toInt ∧ (x1 : Int32).toInt ≤ (e_1 : Int32).toInt) ∨ (v2_2.toInt = 0 ∧ ((x1 : Int32).toInt < (0) ∨ (e_1 : Int32).toInt < (x1 : Int32).toInt))) => ?_))
  refine hs_ite (fun h_3 => ?_) (fun h_3 => ?_)
  · have : (v2_2 : Int32).toInt = (0) := congrArg Int32.toInt h_3
    exact hs_some (hQ (1 : Int32) (show 0 ≤ (1) by omega) (show (1) ≤ 1 by omega) (show (1) = 1 ∨ (0 ≤ x1.toInt ∧ x1.toInt < (σ.2 2).toInt) by omega))
  · have : ¬ (v2_2 : Int32).toInt = (0) := fun z => h_3 (Int32.toInt_inj.mp z)
    exact hs_some (hQ (0 : Int32) (show 0 ≤ (0) by omega) (show (0) ≤ 1 by omega) (show (0) = 1 ∨ (0 ≤ x1.toInt ∧ x1.toInt < (σ.2 2).toInt) by omega))
theorem s_fX10_noHold {R : hy_S → Prop} (σ : hy_S) (x1 : Int32) (x2 : Int32) {P : hy_S → Int32 → Prop} (I : hm_I R σ) (hQ : ∀ v9 : Int32, 0 ≤ v9.toInt → v9.toInt ≤ 1 → v9.toInt = 1 ∨ (0 ≤ x1.toInt ∧ x1.toInt < (σ.2 3).toInt ∧ 0 ≤ x2.toInt ∧ x2.toInt ≤ 5) → P σ v9) : hs_ok2 (fX10_noHold σ x1 x2) P := by
  unfold fX10_noHold
  show hs_ok _ _
  have : (0 : Int) ≤ (σ.2 3).toInt ∧ (σ.2 3).toInt ≤ 4 := I.2.1 3
  obtain ⟨e_1, he_1⟩ : ∃ e9 : Int32, e9 = ((σ.2 3) - 1) := ⟨_, rfl⟩
  try have : e_1.toInt = ((σ.2 3) : Int32).toInt - (1) := by rw [he_1]; exact hs_subk (1) rfl (by omega) (by omega)
  try rw [← he_1]
  refine hs_bd (s_fX10_in σ x1 (0 : Int32) e_1 I  (fun v2_2 (gv2_2_0 : (v2_2.toInt = 1 ∧ (0) ≤ (x1 : Int32).toInt ∧ (x1 : Int32).toInt ≤ (e_1 : Int32).toInt) ∨ (v2_2.toInt = 0 ∧ ((x1 : Int32).toInt < (0) ∨ (e_1 : Int32).toInt < (x1 : Int32).toInt))) => ?_))
  refine hs_ite (fun h_3 => ?_) (fun h_3 => ?_)
  · have : (v2_2 : Int32).toInt = (0) := congrArg Int32.toInt h_3
    unfold fX10_noHold_23
    exact hs_some (hQ (1 : Int32) (show 0 ≤ (1) by omega) (show (1) ≤ 1 by omega) (show (1) = 1 ∨ (0 ≤ x1.toInt ∧ x1.toInt < (σ.2 3).toInt ∧ 0 ≤ x2.toInt ∧ x2.toInt ≤ 5) by omega))
  · have : ¬ (v2_2 : Int32).toInt = (0) := fun z => h_3 (Int32.toInt_inj.mp z)
    refine hs_bd (s_fX10_in σ x2 (0 : Int32) (5 : Int32) I  (fun v6_4 (gv6_4_0 : (v6_4.toInt = 1 ∧ (0) ≤ (x2 : Int32).toInt ∧ (x2 : Int32).toInt ≤ (5)) ∨ (v6_4.toInt = 0 ∧ ((x2 : Int32).toInt < (0) ∨ (5) < (x2 : Int32).toInt))) => ?_))
    refine hs_ite (fun h_5 => ?_) (fun h_5 => ?_)
    · have : (v6_4 : Int32).toInt = (0) := congrArg Int32.toInt h_5
      unfold fX10_noHold_23
      exact hs_some (hQ (1 : Int32) (show 0 ≤ (1) by omega) (show (1) ≤ 1 by omega) (show (1) = 1 ∨ (0 ≤ x1.toInt ∧ x1.toInt < (σ.2 3).toInt ∧ 0 ≤ x2.toInt ∧ x2.toInt ≤ 5) by omega))
    · have : ¬ (v6_4 : Int32).toInt = (0) := fun z => h_5 (Int32.toInt_inj.mp z)
      exact hs_some (hQ (0 : Int32) (show 0 ≤ (0) by omega) (show (0) ≤ 1 by omega) (show (0) = 1 ∨ (0 ≤ x1.toInt ∧ x1.toInt < (σ.2 3).toInt ∧ 0 ≤ x2.toInt ∧ x2.toInt ≤ 5) by omega))
theorem s_fX10_weight {R : hy_S → Prop} (σ : hy_S) (x1 : Int32) {P : hy_S → Int32 → Prop} (I : hm_I R σ) (p0 : 0 ≤ x1.toInt) (p1 : x1.toInt < 60) (hQ : ∀ v9 : Int32, P σ v9) : hs_ok2 (fX10_weight σ x1) P := by
  unfold fX10_weight
  show hs_ok _ _
  refine hs_ga (j := 3) I (by omega) (by omega) (fun v1_1 ev1_1 (bv1_1 : (0 : Int) ≤ v1_1.toInt ∧ v1_1.toInt ≤ 7) => ?_)
  refine hs_ga (j := 0) I (by omega) (by omega) (fun v4_2 ev4_2 (bv4_2 : (-2147483648 : Int) ≤ v4_2.toInt ∧ v4_2.toInt ≤ 2147483647) => ?_)
  refine hs_ga (j := 6) I (by omega) (by omega) (fun v7_3 ev7_3 (bv7_3 : (-2147483648 : Int) ≤ v7_3.toInt ∧ v7_3.toInt ≤ 2147483647) => ?_)
  obtain ⟨e_4, he_4⟩ : ∃ e9 : Int32, e9 = (v4_2 + v7_3) := ⟨_, rfl⟩
  try have : e_4.toInt = (v4_2 : Int32).toInt + (v7_3 : Int32).toInt := by rw [he_4]; exact hs_add (by omega) (by omega)
  try rw [← he_4]
  exact hs_some (hQ (e_4 : Int32) )
theorem s_fX10_kind {R : hy_S → Prop} (ra : ∀ j, j ∈ ([0, 1, 2] : List Nat) → ∀ (τ : hy_S) (g : Nat → Int32), R τ → R (hy_sc τ j g)) (ri : ∀ j, j ∈ ([0, 1] : List Nat) → ∀ (τ : hy_S) (v : Int32), R τ → R (hy_si τ j v)) (σ : hy_S) (x1 : Int32) (x2 : Int32) (x3 : Int32) {P : hy_S → Int32 → Prop} (I : hm_I R σ) (hQ : ∀ (σ9 : hy_S) (v9 : Int32), hm_I R σ9 → ((σ9.2 0).toInt = 0 ∧ ¬ (x1.toInt < 1 ∨ 100 < x1.toInt ∨ x2.toInt < 1 ∨ 200 < x2.toInt ∨ x3.toInt < 0 ∨ 5000 < x3.toInt) ∧ (σ.2 1).toInt < 8 ∧ (σ9.2 1).toInt = (σ.2 1).toInt + 1 ∧ v9.toInt = (σ.2 1).toInt) ∨ ((σ9.2 0).toInt = 1 ∧ (x1.toInt < 1 ∨ 100 < x1.toInt ∨ x2.toInt < 1 ∨ 200 < x2.toInt ∨ x3.toInt < 0 ∨ 5000 < x3.toInt) ∧ (σ9.2 1).toInt = (σ.2 1).toInt) ∨ ((σ9.2 0).toInt = 2 ∧ ¬ (x1.toInt < 1 ∨ 100 < x1.toInt ∨ x2.toInt < 1 ∨ 200 < x2.toInt ∨ x3.toInt < 0 ∨ 5000 < x3.toInt) ∧ 8 ≤ (σ.2 1).toInt ∧ (σ9.2 1).toInt = (σ.2 1).toInt) → P σ9 v9) : hs_ok2 (fX10_kind σ x1 x2 x3) P := by
  unfold fX10_kind
  show hs_ok _ _
  have : (-2147483648 : Int) ≤ (σ.2 0).toInt ∧ (σ.2 0).toInt ≤ 2147483647 := I.2.1 0
  have : (0 : Int) ≤ (σ.2 1).toInt ∧ (σ.2 1).toInt ≤ 8 := I.2.1 1
  refine hs_pf (v := 0) I (hs_any _) (fun r => ⟨hm_Ri (by decide) r.1, ri 0 (by decide) _ _ r.2⟩) (fun σ1_1 eσ1_1 Iσ1_1 => ?_)
  have : (σ1_1.2 0).toInt = (0) := by rw [eσ1_1]; rfl
  have : (σ1_1.2 1).toInt = (σ.2 1).toInt := by rw [eσ1_1]; rfl
  have : (-2147483648 : Int) ≤ (σ1_1.2 0).toInt ∧ (σ1_1.2 0).toInt ≤ 2147483647 := Iσ1_1.2.1 0
  have : (0 : Int) ≤ (σ1_1.2 1).toInt ∧ (σ1_1.2 1).toInt ≤ 8 := Iσ1_1.2.1 1
  refine hs_bd (s_fX10_in σ1_1 x1 (1 : Int32) (100 : Int32) Iσ1_1  (fun v4_2 (gv4_2_0 : (v4_2.toInt = 1 ∧ (1) ≤ (x1 : Int32).toInt ∧ (x1 : Int32).toInt ≤ (100)) ∨ (v4_2.toInt = 0 ∧ ((x1 : Int32).toInt < (1) ∨ (100) < (x1 : Int32).toInt))) => ?_))
  refine hs_ite (fun h_3 => ?_) (fun h_3 => ?_)
  · have : (v4_2 : Int32).toInt = (0) := congrArg Int32.toInt h_3
    unfold fX10_kind_38
    unfold fX10_kind_43
    refine hs_bd (s_fX10_throwsIf (fun j h => ra j (hs_inc (by decide) h)) (fun j h => ri j (hs_inc (by decide) h)) σ1_1 (1 : Int32) (1 : Int32) Iσ1_1 (show 0 ≤ (1) by omega) (show (1) ≤ 1 by omega) (fun σ1_5 v2_4 Iσ1_5 (gv2_4_0 : v2_4.toInt = (1)) (gv2_4_1 : (σ1_5.2 1).toInt = (σ1_1.2 1).toInt) (gv2_4_2 : (σ1_5.2 2).toInt = (σ1_1.2 2).toInt) (gv2_4_3 : (σ1_5.2 3).toInt = (σ1_1.2 3).toInt) (gv2_4_4 : (σ1_5.2 4).toInt = (σ1_1.2 4).toInt) (gv2_4_5 : (σ1_5.2 5).toInt = (σ1_1.2 5).toInt) (gv2_4_6 : (σ1_5.2 6).toInt = (σ1_1.2 6).toInt) (gv2_4_7 : (σ1_5.2 7).toInt = (σ1_1.2 7).toInt) (gv2_4_8 : (σ1_5.2 8).toInt = (σ1_1.2 8).toInt) (gv2_4_9 : (σ1_5.2 9).toInt = (σ1_1.2 9).toInt) (gv2_4_10 : (σ1_5.2 10).toInt = (σ1_1.2 10).toInt) (gv2_4_11 : (σ1_5.2 11).toInt = (σ1_1.2 11).toInt) (gv2_4_12 : ((1) = 0 ∧ (σ1_5.2 0).toInt = (σ1_1.2 0).toInt) ∨ ((1) = 1 ∧ (σ1_5.2 0).toInt = (1))) => ?_))
    have : (-2147483648 : Int) ≤ (σ1_5.2 0).toInt ∧ (σ1_5.2 0).toInt ≤ 2147483647 := Iσ1_5.2.1 0
    have : (0 : Int) ≤ (σ1_5.2 1).toInt ∧ (σ1_5.2 1).toInt ≤ 8 := Iσ1_5.2.1 1
    refine hs_ite (fun h_6 => ?_) (fun h_6 => ?_)
    · have : (v2_4 : Int32).toInt = (0) := congrArg Int32.toInt h_6
      refine hs_ite (fun h_7 => ?_) (fun h_7 => ?_)
      · have : ((σ1_5.2 1) : Int32).toInt = (8) := congrArg Int32.toInt h_7
        unfold fX10_kind_65
        refine hs_bd (s_fX10_throwsIf (fun j h => ra j (hs_inc (by decide) h)) (fun j h => ri j (hs_inc (by decide) h)) σ1_5 (1 : Int32) (2 : Int32) Iσ1_5 (show 0 ≤ (1) by omega) (show (1) ≤ 1 by omega) (fun σ1_9 v2_8 Iσ1_9 (gv2_8_0 : v2_8.toInt = (1)) (gv2_8_1 : (σ1_9.2 1).toInt = (σ1_5.2 1).toInt) (gv2_8_2 : (σ1_9.2 2).toInt = (σ1_5.2 2).toInt) (gv2_8_3 : (σ1_9.2 3).toInt = (σ1_5.2 3).toInt) (gv2_8_4 : (σ1_9.2 4).toInt = (σ1_5.2 4).toInt) (gv2_8_5 : (σ1_9.2 5).toInt = (σ1_5.2 5).toInt) (gv2_8_6 : (σ1_9.2 6).toInt = (σ1_5.2 6).toInt) (gv2_8_7 : (σ1_9.2 7).toInt = (σ1_5.2 7).toInt) (gv2_8_8 : (σ1_9.2 8).toInt = (σ1_5.2 8).toInt) (gv2_8_9 : (σ1_9.2 9).toInt = (σ1_5.2 9).toInt) (gv2_8_10 : (σ1_9.2 10).toInt = (σ1_5.2 10).toInt) (gv2_8_11 : (σ1_9.2 11).toInt = (σ1_5.2 11).toInt) (gv2_8_12 : ((1) = 0 ∧ (σ1_9.2 0).toInt = (σ1_5.2 0).toInt) ∨ ((1) = 1 ∧ (σ1_9.2 0).toInt = (2))) => ?_))
        have : (-2147483648 : Int) ≤ (σ1_9.2 0).toInt ∧ (σ1_9.2 0).toInt ≤ 2147483647 := Iσ1_9.2.1 0
        have : (0 : Int) ≤ (σ1_9.2 1).toInt ∧ (σ1_9.2 1).toInt ≤ 8 := Iσ1_9.2.1 1
        refine hs_ite (fun h_10 => ?_) (fun h_10 => ?_)
        · have : (v2_8 : Int32).toInt = (0) := congrArg Int32.toInt h_10
          refine hs_pa (idx := (σ1_9.2 1)) (v := _) Iσ1_9 (by omega) (by omega) (hs_any _) (fun r => ⟨hm_Ra (by decide) r.1, ra 0 (by decide) _ _ r.2⟩) (fun σ5_11 eσ5_11 Iσ5_11 => ?_)
          have : (σ5_11.2 0).toInt = (σ1_9.2 0).toInt := by rw [eσ5_11]; rfl
          have : (σ5_11.2 1).toInt = (σ1_9.2 1).toInt := by rw [eσ5_11]; rfl
          have : (-2147483648 : Int) ≤ (σ5_11.2 0).toInt ∧ (σ5_11.2 0).toInt ≤ 2147483647 := Iσ5_11.2.1 0
          have : (0 : Int) ≤ (σ5_11.2 1).toInt ∧ (σ5_11.2 1).toInt ≤ 8 := Iσ5_11.2.1 1
          refine hs_pa (idx := (σ5_11.2 1)) (v := _) Iσ5_11 (by omega) (by omega) (hs_any _) (fun r => ⟨hm_Ra (by decide) r.1, ra 1 (by decide) _ _ r.2⟩) (fun σ8_12 eσ8_12 Iσ8_12 => ?_)
          have : (σ8_12.2 0).toInt = (σ5_11.2 0).toInt := by rw [eσ8_12]; rfl
          have : (σ8_12.2 1).toInt = (σ5_11.2 1).toInt := by rw [eσ8_12]; rfl
          have : (-2147483648 : Int) ≤ (σ8_12.2 0).toInt ∧ (σ8_12.2 0).toInt ≤ 2147483647 := Iσ8_12.2.1 0
          have : (0 : Int) ≤ (σ8_12.2 1).toInt ∧ (σ8_12.2 1).toInt ≤ 8 := Iσ8_12.2.1 1
          refine hs_pa (idx := (σ8_12.2 1)) (v := _) Iσ8_12 (by omega) (by omega) (hs_any _) (fun r => ⟨hm_Ra (by decide) r.1, ra 2 (by decide) _ _ r.2⟩) (fun σ11_13 eσ11_13 Iσ11_13 => ?_)
          have : (σ11_13.2 0).toInt = (σ8_12.2 0).toInt := by rw [eσ11_13]; rfl
          have : (σ11_13.2 1).toInt = (σ8_12.2 1).toInt := by rw [eσ11_13]; rfl
          have : (-2147483648 : Int) ≤ (σ11_13.2 0).toInt ∧ (σ11_13.2 0).toInt ≤ 2147483647 := Iσ11_13.2.1 0
          have : (0 : Int) ≤ (σ11_13.2 1).toInt ∧ (σ11_13.2 1).toInt ≤ 8 := Iσ11_13.2.1 1
          obtain ⟨e_14, he_14⟩ : ∃ e9 : Int32, e9 = ((σ11_13.2 1) + 1) := ⟨_, rfl⟩
          try have : e_14.toInt = ((σ11_13.2 1) : Int32).toInt + (1) := by rw [he_14]; exact hs_addk (1) rfl (by omega) (by omega)
          try rw [← he_14]
          refine hs_pf (v := e_14) Iσ11_13 ⟨(by omega : (0 : Int) ≤ (e_14 : Int32).toInt), (by omega : (e_14 : Int32).toInt ≤ 8)⟩ (fun r => ⟨hm_Ri (by decide) r.1, ri 1 (by decide) _ _ r.2⟩) (fun σ14_15 eσ14_15 Iσ14_15 => ?_)
          have : (σ14_15.2 0).toInt = (σ11_13.2 0).toInt := by rw [eσ14_15]; rfl
          have : (σ14_15.2 1).toInt = (e_14 : Int32).toInt := by rw [eσ14_15]; rfl
          have : (-2147483648 : Int) ≤ (σ14_15.2 0).toInt ∧ (σ14_15.2 0).toInt ≤ 2147483647 := Iσ14_15.2.1 0
          have : (0 : Int) ≤ (σ14_15.2 1).toInt ∧ (σ14_15.2 1).toInt ≤ 8 := Iσ14_15.2.1 1
          obtain ⟨e_16, he_16⟩ : ∃ e9 : Int32, e9 = ((σ14_15.2 1) - 1) := ⟨_, rfl⟩
          try have : e_16.toInt = ((σ14_15.2 1) : Int32).toInt - (1) := by rw [he_16]; exact hs_subk (1) rfl (by omega) (by omega)
          try rw [← he_16]
          exact hs_some (hQ σ14_15 (e_16 : Int32) Iσ14_15 (show ((σ14_15.2 0).toInt = 0 ∧ ¬ (x1.toInt < 1 ∨ 100 < x1.toInt ∨ x2.toInt < 1 ∨ 200 < x2.toInt ∨ x3.toInt < 0 ∨ 5000 < x3.toInt) ∧ (σ.2 1).toInt < 8 ∧ (σ14_15.2 1).toInt = (σ.2 1).toInt + 1 ∧ (e_16 : Int32).toInt = (σ.2 1).toInt) ∨ ((σ14_15.2 0).toInt = 1 ∧ (x1.toInt < 1 ∨ 100 < x1.toInt ∨ x2.toInt < 1 ∨ 200 < x2.toInt ∨ x3.toInt < 0 ∨ 5000 < x3.toInt) ∧ (σ14_15.2 1).toInt = (σ.2 1).toInt) ∨ ((σ14_15.2 0).toInt = 2 ∧ ¬ (x1.toInt < 1 ∨ 100 < x1.toInt ∨ x2.toInt < 1 ∨ 200 < x2.toInt ∨ x3.toInt < 0 ∨ 5000 < x3.toInt) ∧ 8 ≤ (σ.2 1).toInt ∧ (σ14_15.2 1).toInt = (σ.2 1).toInt) by omega))
        · have : ¬ (v2_8 : Int32).toInt = (0) := fun z => h_10 (Int32.toInt_inj.mp z)
          exact hs_some (hQ σ1_9 (0 : Int32) Iσ1_9 (show ((σ1_9.2 0).toInt = 0 ∧ ¬ (x1.toInt < 1 ∨ 100 < x1.toInt ∨ x2.toInt < 1 ∨ 200 < x2.toInt ∨ x3.toInt < 0 ∨ 5000 < x3.toInt) ∧ (σ.2 1).toInt < 8 ∧ (σ1_9.2 1).toInt = (σ.2 1).toInt + 1 ∧ (0) = (σ.2 1).toInt) ∨ ((σ1_9.2 0).toInt = 1 ∧ (x1.toInt < 1 ∨ 100 < x1.toInt ∨ x2.toInt < 1 ∨ 200 < x2.toInt ∨ x3.toInt < 0 ∨ 5000 < x3.toInt) ∧ (σ1_9.2 1).toInt = (σ.2 1).toInt) ∨ ((σ1_9.2 0).toInt = 2 ∧ ¬ (x1.toInt < 1 ∨ 100 < x1.toInt ∨ x2.toInt < 1 ∨ 200 < x2.toInt ∨ x3.toInt < 0 ∨ 5000 < x3.toInt) ∧ 8 ≤ (σ.2 1).toInt ∧ (σ1_9.2 1).toInt = (σ.2 1).toInt) by omega))
      · have : ¬ ((σ1_5.2 1) : Int32).toInt = (8) := fun z => h_7 (Int32.toInt_inj.mp z)
        unfold fX10_kind_65
        refine hs_bd (s_fX10_throwsIf (fun j h => ra j (hs_inc (by decide) h)) (fun j h => ri j (hs_inc (by decide) h)) σ1_5 (0 : Int32) (2 : Int32) Iσ1_5 (show 0 ≤ (0) by omega) (show (0) ≤ 1 by omega) (fun σ1_18 v2_17 Iσ1_18 (gv2_17_0 : v2_17.toInt = (0)) (gv2_17_1 : (σ1_18.2 1).toInt = (σ1_5.2 1).toInt) (gv2_17_2 : (σ1_18.2 2).toInt = (σ1_5.2 2).toInt) (gv2_17_3 : (σ1_18.2 3).toInt = (σ1_5.2 3).toInt) (gv2_17_4 : (σ1_18.2 4).toInt = (σ1_5.2 4).toInt) (gv2_17_5 : (σ1_18.2 5).toInt = (σ1_5.2 5).toInt) (gv2_17_6 : (σ1_18.2 6).toInt = (σ1_5.2 6).toInt) (gv2_17_7 : (σ1_18.2 7).toInt = (σ1_5.2 7).toInt) (gv2_17_8 : (σ1_18.2 8).toInt = (σ1_5.2 8).toInt) (gv2_17_9 : (σ1_18.2 9).toInt = (σ1_5.2 9).toInt) (gv2_17_10 : (σ1_18.2 10).toInt = (σ1_5.2 10).toInt) (gv2_17_11 : (σ1_18.2 11).toInt = (σ1_5.2 11).toInt) (gv2_17_12 : ((0) = 0 ∧ (σ1_18.2 0).toInt = (σ1_5.2 0).toInt) ∨ ((0) = 1 ∧ (σ1_18.2 0).toInt = (2))) => ?_))
        have : (-2147483648 : Int) ≤ (σ1_18.2 0).toInt ∧ (σ1_18.2 0).toInt ≤ 2147483647 := Iσ1_18.2.1 0
        have : (0 : Int) ≤ (σ1_18.2 1).toInt ∧ (σ1_18.2 1).toInt ≤ 8 := Iσ1_18.2.1 1
        refine hs_ite (fun h_19 => ?_) (fun h_19 => ?_)
        · have : (v2_17 : Int32).toInt = (0) := congrArg Int32.toInt h_19
          refine hs_pa (idx := (σ1_18.2 1)) (v := _) Iσ1_18 (by omega) (by omega) (hs_any _) (fun r => ⟨hm_Ra (by decide) r.1, ra 0 (by decide) _ _ r.2⟩) (fun σ5_20 eσ5_20 Iσ5_20 => ?_)
          have : (σ5_20.2 0).toInt = (σ1_18.2 0).toInt := by rw [eσ5_20]; rfl
          have : (σ5_20.2 1).toInt = (σ1_18.2 1).toInt := by rw [eσ5_20]; rfl
          have : (-2147483648 : Int) ≤ (σ5_20.2 0).toInt ∧ (σ5_20.2 0).toInt ≤ 2147483647 := Iσ5_20.2.1 0
          have : (0 : Int) ≤ (σ5_20.2 1).toInt ∧ (σ5_20.2 1).toInt ≤ 8 := Iσ5_20.2.1 1
          refine hs_pa (idx := (σ5_20.2 1)) (v := _) Iσ5_20 (by omega) (by omega) (hs_any _) (fun r => ⟨hm_Ra (by decide) r.1, ra 1 (by decide) _ _ r.2⟩) (fun σ8_21 eσ8_21 Iσ8_21 => ?_)
          have : (σ8_21.2 0).toInt = (σ5_20.2 0).toInt := by rw [eσ8_21]; rfl
          have : (σ8_21.2 1).toInt = (σ5_20.2 1).toInt := by rw [eσ8_21]; rfl
          have : (-2147483648 : Int) ≤ (σ8_21.2 0).toInt ∧ (σ8_21.2 0).toInt ≤ 2147483647 := Iσ8_21.2.1 0
          have : (0 : Int) ≤ (σ8_21.2 1).toInt ∧ (σ8_21.2 1).toInt ≤ 8 := Iσ8_21.2.1 1
          refine hs_pa (idx := (σ8_21.2 1)) (v := _) Iσ8_21 (by omega) (by omega) (hs_any _) (fun r => ⟨hm_Ra (by decide) r.1, ra 2 (by decide) _ _ r.2⟩) (fun σ11_22 eσ11_22 Iσ11_22 => ?_)
          have : (σ11_22.2 0).toInt = (σ8_21.2 0).toInt := by rw [eσ11_22]; rfl
          have : (σ11_22.2 1).toInt = (σ8_21.2 1).toInt := by rw [eσ11_22]; rfl
          have : (-2147483648 : Int) ≤ (σ11_22.2 0).toInt ∧ (σ11_22.2 0).toInt ≤ 2147483647 := Iσ11_22.2.1 0
          have : (0 : Int) ≤ (σ11_22.2 1).toInt ∧ (σ11_22.2 1).toInt ≤ 8 := Iσ11_22.2.1 1
          obtain ⟨e_23, he_23⟩ : ∃ e9 : Int32, e9 = ((σ11_22.2 1) + 1) := ⟨_, rfl⟩
          try have : e_23.toInt = ((σ11_22.2 1) : Int32).toInt + (1) := by rw [he_23]; exact hs_addk (1) rfl (by omega) (by omega)
          try rw [← he_23]
          refine hs_pf (v := e_23) Iσ11_22 ⟨(by omega : (0 : Int) ≤ (e_23 : Int32).toInt), (by omega : (e_23 : Int32).toInt ≤ 8)⟩ (fun r => ⟨hm_Ri (by decide) r.1, ri 1 (by decide) _ _ r.2⟩) (fun σ14_24 eσ14_24 Iσ14_24 => ?_)
          have : (σ14_24.2 0).toInt = (σ11_22.2 0).toInt := by rw [eσ14_24]; rfl
          have : (σ14_24.2 1).toInt = (e_23 : Int32).toInt := by rw [eσ14_24]; rfl
          have : (-2147483648 : Int) ≤ (σ14_24.2 0).toInt ∧ (σ14_24.2 0).toInt ≤ 2147483647 := Iσ14_24.2.1 0
          have : (0 : Int) ≤ (σ14_24.2 1).toInt ∧ (σ14_24.2 1).toInt ≤ 8 := Iσ14_24.2.1 1
          obtain ⟨e_25, he_25⟩ : ∃ e9 : Int32, e9 = ((σ14_24.2 1) - 1) := ⟨_, rfl⟩
          try have : e_25.toInt = ((σ14_24.2 1) : Int32).toInt - (1) := by rw [he_25]; exact hs_subk (1) rfl (by omega) (by omega)
          try rw [← he_25]
          exact hs_some (hQ σ14_24 (e_25 : Int32) Iσ14_24 (show ((σ14_24.2 0).toInt = 0 ∧ ¬ (x1.toInt < 1 ∨ 100 < x1.toInt ∨ x2.toInt < 1 ∨ 200 < x2.toInt ∨ x3.toInt < 0 ∨ 5000 < x3.toInt) ∧ (σ.2 1).toInt < 8 ∧ (σ14_24.2 1).toInt = (σ.2 1).toInt + 1 ∧ (e_25 : Int32).toInt = (σ.2 1).toInt) ∨ ((σ14_24.2 0).toInt = 1 ∧ (x1.toInt < 1 ∨ 100 < x1.toInt ∨ x2.toInt < 1 ∨ 200 < x2.toInt ∨ x3.toInt < 0 ∨ 5000 < x3.toInt) ∧ (σ14_24.2 1).toInt = (σ.2 1).toInt) ∨ ((σ14_24.2 0).toInt = 2 ∧ ¬ (x1.toInt < 1 ∨ 100 < x1.toInt ∨ x2.toInt < 1 ∨ 200 < x2.toInt ∨ x3.toInt < 0 ∨ 5000 < x3.toInt) ∧ 8 ≤ (σ.2 1).toInt ∧ (σ14_24.2 1).toInt = (σ.2 1).toInt) by omega))
        · have : ¬ (v2_17 : Int32).toInt = (0) := fun z => h_19 (Int32.toInt_inj.mp z)
          exact hs_some (hQ σ1_18 (0 : Int32) Iσ1_18 (show ((σ1_18.2 0).toInt = 0 ∧ ¬ (x1.toInt < 1 ∨ 100 < x1.toInt ∨ x2.toInt < 1 ∨ 200 < x2.toInt ∨ x3.toInt < 0 ∨ 5000 < x3.toInt) ∧ (σ.2 1).toInt < 8 ∧ (σ1_18.2 1).toInt = (σ.2 1).toInt + 1 ∧ (0) = (σ.2 1).toInt) ∨ ((σ1_18.2 0).toInt = 1 ∧ (x1.toInt < 1 ∨ 100 < x1.toInt ∨ x2.toInt < 1 ∨ 200 < x2.toInt ∨ x3.toInt < 0 ∨ 5000 < x3.toInt) ∧ (σ1_18.2 1).toInt = (σ.2 1).toInt) ∨ ((σ1_18.2 0).toInt = 2 ∧ ¬ (x1.toInt < 1 ∨ 100 < x1.toInt ∨ x2.toInt < 1 ∨ 200 < x2.toInt ∨ x3.toInt < 0 ∨ 5000 < x3.toInt) ∧ 8 ≤ (σ.2 1).toInt ∧ (σ1_18.2 1).toInt = (σ.2 1).toInt) by omega))
    · have : ¬ (v2_4 : Int32).toInt = (0) := fun z => h_6 (Int32.toInt_inj.mp z)
      exact hs_some (hQ σ1_5 (0 : Int32) Iσ1_5 (show ((σ1_5.2 0).toInt = 0 ∧ ¬ (x1.toInt < 1 ∨ 100 < x1.toInt ∨ x2.toInt < 1 ∨ 200 < x2.toInt ∨ x3.toInt < 0 ∨ 5000 < x3.toInt) ∧ (σ.2 1).toInt < 8 ∧ (σ1_5.2 1).toInt = (σ.2 1).toInt + 1 ∧ (0) = (σ.2 1).toInt) ∨ ((σ1_5.2 0).toInt = 1 ∧ (x1.toInt < 1 ∨ 100 < x1.toInt ∨ x2.toInt < 1 ∨ 200 < x2.toInt ∨ x3.toInt < 0 ∨ 5000 < x3.toInt) ∧ (σ1_5.2 1).toInt = (σ.2 1).toInt) ∨ ((σ1_5.2 0).toInt = 2 ∧ ¬ (x1.toInt < 1 ∨ 100 < x1.toInt ∨ x2.toInt < 1 ∨ 200 < x2.toInt ∨ x3.toInt < 0 ∨ 5000 < x3.toInt) ∧ 8 ≤ (σ.2 1).toInt ∧ (σ1_5.2 1).toInt = (σ.2 1).toInt) by omega))
  · have : ¬ (v4_2 : Int32).toInt = (0) := fun z => h_3 (Int32.toInt_inj.mp z)
    refine hs_bd (s_fX10_in σ1_1 x2 (1 : Int32) (200 : Int32) Iσ1_1  (fun v8_26 (gv8_26_0 : (v8_26.toInt = 1 ∧ (1) ≤ (x2 : Int32).toInt ∧ (x2 : Int32).toInt ≤ (200)) ∨ (v8_26.toInt = 0 ∧ ((x2 : Int32).toInt < (1) ∨ (200) < (x2 : Int32).toInt))) => ?_))
    refine hs_ite (fun h_27 => ?_) (fun h_27 => ?_)
    · have : (v8_26 : Int32).toInt = (0) := congrArg Int32.toInt h_27
      unfold fX10_kind_38
      unfold fX10_kind_43
      refine hs_bd (s_fX10_throwsIf (fun j h => ra j (hs_inc (by decide) h)) (fun j h => ri j (hs_inc (by decide) h)) σ1_1 (1 : Int32) (1 : Int32) Iσ1_1 (show 0 ≤ (1) by omega) (show (1) ≤ 1 by omega) (fun σ1_29 v2_28 Iσ1_29 (gv2_28_0 : v2_28.toInt = (1)) (gv2_28_1 : (σ1_29.2 1).toInt = (σ1_1.2 1).toInt) (gv2_28_2 : (σ1_29.2 2).toInt = (σ1_1.2 2).toInt) (gv2_28_3 : (σ1_29.2 3).toInt = (σ1_1.2 3).toInt) (gv2_28_4 : (σ1_29.2 4).toInt = (σ1_1.2 4).toInt) (gv2_28_5 : (σ1_29.2 5).toInt = (σ1_1.2 5).toInt) (gv2_28_6 : (σ1_29.2 6).toInt = (σ1_1.2 6).toInt) (gv2_28_7 : (σ1_29.2 7).toInt = (σ1_1.2 7).toInt) (gv2_28_8 : (σ1_29.2 8).toInt = (σ1_1.2 8).toInt) (gv2_28_9 : (σ1_29.2 9).toInt = (σ1_1.2 9).toInt) (gv2_28_10 : (σ1_29.2 10).toInt = (σ1_1.2 10).toInt) (gv2_28_11 : (σ1_29.2 11).toInt = (σ1_1.2 11).toInt) (gv2_28_12 : ((1) = 0 ∧ (σ1_29.2 0).toInt = (σ1_1.2 0).toInt) ∨ ((1) = 1 ∧ (σ1_29.2 0).toInt = (1))) => ?_))
      have : (-2147483648 : Int) ≤ (σ1_29.2 0).toInt ∧ (σ1_29.2 0).toInt ≤ 2147483647 := Iσ1_29.2.1 0
      have : (0 : Int) ≤ (σ1_29.2 1).toInt ∧ (σ1_29.2 1).toInt ≤ 8 := Iσ1_29.2.1 1
      refine hs_ite (fun h_30 => ?_) (fun h_30 => ?_)
      · have : (v2_28 : Int32).toInt = (0) := congrArg Int32.toInt h_30
        refine hs_ite (fun h_31 => ?_) (fun h_31 => ?_)
        · have : ((σ1_29.2 1) : Int32).toInt = (8) := congrArg Int32.toInt h_31
          unfold fX10_kind_65
          refine hs_bd (s_fX10_throwsIf (fun j h => ra j (hs_inc (by decide) h)) (fun j h => ri j (hs_inc (by decide) h)) σ1_29 (1 : Int32) (2 : Int32) Iσ1_29 (show 0 ≤ (1) by omega) (show (1) ≤ 1 by omega) (fun σ1_33 v2_32 Iσ1_33 (gv2_32_0 : v2_32.toInt = (1)) (gv2_32_1 : (σ1_33.2 1).toInt = (σ1_29.2 1).toInt) (gv2_32_2 : (σ1_33.2 2).toInt = (σ1_29.2 2).toInt) (gv2_32_3 : (σ1_33.2 3).toInt = (σ1_29.2 3).toInt) (gv2_32_4 : (σ1_33.2 4).toInt = (σ1_29.2 4).toInt) (gv2_32_5 : (σ1_33.2 5).toInt = (σ1_29.2 5).toInt) (gv2_32_6 : (σ1_33.2 6).toInt = (σ1_29.2 6).toInt) (gv2_32_7 : (σ1_33.2 7).toInt = (σ1_29.2 7).toInt) (gv2_32_8 : (σ1_33.2 8).toInt = (σ1_29.2 8).toInt) (gv2_32_9 : (σ1_33.2 9).toInt = (σ1_29.2 9).toInt) (gv2_32_10 : (σ1_33.2 10).toInt = (σ1_29.2 10).toInt) (gv2_32_11 : (σ1_33.2 11).toInt = (σ1_29.2 11).toInt) (gv2_32_12 : ((1) = 0 ∧ (σ1_33.2 0).toInt = (σ1_29.2 0).toInt) ∨ ((1) = 1 ∧ (σ1_33.2 0).toInt = (2))) => ?_))
          have : (-2147483648 : Int) ≤ (σ1_33.2 0).toInt ∧ (σ1_33.2 0).toInt ≤ 2147483647 := Iσ1_33.2.1 0
          have : (0 : Int) ≤ (σ1_33.2 1).toInt ∧ (σ1_33.2 1).toInt ≤ 8 := Iσ1_33.2.1 1
          refine hs_ite (fun h_34 => ?_) (fun h_34 => ?_)
          · have : (v2_32 : Int32).toInt = (0) := congrArg Int32.toInt h_34
            refine hs_pa (idx := (σ1_33.2 1)) (v := _) Iσ1_33 (by omega) (by omega) (hs_any _) (fun r => ⟨hm_Ra (by decide) r.1, ra 0 (by decide) _ _ r.2⟩) (fun σ5_35 eσ5_35 Iσ5_35 => ?_)
            have : (σ5_35.2 0).toInt = (σ1_33.2 0).toInt := by rw [eσ5_35]; rfl
            have : (σ5_35.2 1).toInt = (σ1_33.2 1).toInt := by rw [eσ5_35]; rfl
            have : (-2147483648 : Int) ≤ (σ5_35.2 0).toInt ∧ (σ5_35.2 0).toInt ≤ 2147483647 := Iσ5_35.2.1 0
            have : (0 : Int) ≤ (σ5_35.2 1).toInt ∧ (σ5_35.2 1).toInt ≤ 8 := Iσ5_35.2.1 1
            refine hs_pa (idx := (σ5_35.2 1)) (v := _) Iσ5_35 (by omega) (by omega) (hs_any _) (fun r => ⟨hm_Ra (by decide) r.1, ra 1 (by decide) _ _ r.2⟩) (fun σ8_36 eσ8_36 Iσ8_36 => ?_)
            have : (σ8_36.2 0).toInt = (σ5_35.2 0).toInt := by rw [eσ8_36]; rfl
            have : (σ8_36.2 1).toInt = (σ5_35.2 1).toInt := by rw [eσ8_36]; rfl
            have : (-2147483648 : Int) ≤ (σ8_36.2 0).toInt ∧ (σ8_36.2 0).toInt ≤ 2147483647 := Iσ8_36.2.1 0
            have : (0 : Int) ≤ (σ8_36.2 1).toInt ∧ (σ8_36.2 1).toInt ≤ 8 := Iσ8_36.2.1 1
            refine hs_pa (idx := (σ8_36.2 1)) (v := _) Iσ8_36 (by omega) (by omega) (hs_any _) (fun r => ⟨hm_Ra (by decide) r.1, ra 2 (by decide) _ _ r.2⟩) (fun σ11_37 eσ11_37 Iσ11_37 => ?_)
            have : (σ11_37.2 0).toInt = (σ8_36.2 0).toInt := by rw [eσ11_37]; rfl
            have : (σ11_37.2 1).toInt = (σ8_36.2 1).toInt := by rw [eσ11_37]; rfl
            have : (-2147483648 : Int) ≤ (σ11_37.2 0).toInt ∧ (σ11_37.2 0).toInt ≤ 2147483647 := Iσ11_37.2.1 0
            have : (0 : Int) ≤ (σ11_37.2 1).toInt ∧ (σ11_37.2 1).toInt ≤ 8 := Iσ11_37.2.1 1
            obtain ⟨e_38, he_38⟩ : ∃ e9 : Int32, e9 = ((σ11_37.2 1) + 1) := ⟨_, rfl⟩
            try have : e_38.toInt = ((σ11_37.2 1) : Int32).toInt + (1) := by rw [he_38]; exact hs_addk (1) rfl (by omega) (by omega)
            try rw [← he_38]
            refine hs_pf (v := e_38) Iσ11_37 ⟨(by omega : (0 : Int) ≤ (e_38 : Int32).toInt), (by omega : (e_38 : Int32).toInt ≤ 8)⟩ (fun r => ⟨hm_Ri (by decide) r.1, ri 1 (by decide) _ _ r.2⟩) (fun σ14_39 eσ14_39 Iσ14_39 => ?_)
            have : (σ14_39.2 0).toInt = (σ11_37.2 0).toInt := by rw [eσ14_39]; rfl
            have : (σ14_39.2 1).toInt = (e_38 : Int32).toInt := by rw [eσ14_39]; rfl
            have : (-2147483648 : Int) ≤ (σ14_39.2 0).toInt ∧ (σ14_39.2 0).toInt ≤ 2147483647 := Iσ14_39.2.1 0
            have : (0 : Int) ≤ (σ14_39.2 1).toInt ∧ (σ14_39.2 1).toInt ≤ 8 := Iσ14_39.2.1 1
            obtain ⟨e_40, he_40⟩ : ∃ e9 : Int32, e9 = ((σ14_39.2 1) - 1) := ⟨_, rfl⟩
            try have : e_40.toInt = ((σ14_39.2 1) : Int32).toInt - (1) := by rw [he_40]; exact hs_subk (1) rfl (by omega) (by omega)
            try rw [← he_40]
            exact hs_some (hQ σ14_39 (e_40 : Int32) Iσ14_39 (show ((σ14_39.2 0).toInt = 0 ∧ ¬ (x1.toInt < 1 ∨ 100 < x1.toInt ∨ x2.toInt < 1 ∨ 200 < x2.toInt ∨ x3.toInt < 0 ∨ 5000 < x3.toInt) ∧ (σ.2 1).toInt < 8 ∧ (σ14_39.2 1).toInt = (σ.2 1).toInt + 1 ∧ (e_40 : Int32).toInt = (σ.2 1).toInt) ∨ ((σ14_39.2 0).toInt = 1 ∧ (x1.toInt < 1 ∨ 100 < x1.toInt ∨ x2.toInt < 1 ∨ 200 < x2.toInt ∨ x3.toInt < 0 ∨ 5000 < x3.toInt) ∧ (σ14_39.2 1).toInt = (σ.2 1).toInt) ∨ ((σ14_39.2 0).toInt = 2 ∧ ¬ (x1.toInt < 1 ∨ 100 < x1.toInt ∨ x2.toInt < 1 ∨ 200 < x2.toInt ∨ x3.toInt < 0 ∨ 5000 < x3.toInt) ∧ 8 ≤ (σ.2 1).toInt ∧ (σ14_39.2 1).toInt = (σ.2 1).toInt) by omega))
          · have : ¬ (v2_32 : Int32).toInt = (0) := fun z => h_34 (Int32.toInt_inj.mp z)
            exact hs_some (hQ σ1_33 (0 : Int32) Iσ1_33 (show ((σ1_33.2 0).toInt = 0 ∧ ¬ (x1.toInt < 1 ∨ 100 < x1.toInt ∨ x2.toInt < 1 ∨ 200 < x2.toInt ∨ x3.toInt < 0 ∨ 5000 < x3.toInt) ∧ (σ.2 1).toInt < 8 ∧ (σ1_33.2 1).toInt = (σ.2 1).toInt + 1 ∧ (0) = (σ.2 1).toInt) ∨ ((σ1_33.2 0).toInt = 1 ∧ (x1.toInt < 1 ∨ 100 < x1.toInt ∨ x2.toInt < 1 ∨ 200 < x2.toInt ∨ x3.toInt < 0 ∨ 5000 < x3.toInt) ∧ (σ1_33.2 1).toInt = (σ.2 1).toInt) ∨ ((σ1_33.2 0).toInt = 2 ∧ ¬ (x1.toInt < 1 ∨ 100 < x1.toInt ∨ x2.toInt < 1 ∨ 200 < x2.toInt ∨ x3.toInt < 0 ∨ 5000 < x3.toInt) ∧ 8 ≤ (σ.2 1).toInt ∧ (σ1_33.2 1).toInt = (σ.2 1).toInt) by omega))
        · have : ¬ ((σ1_29.2 1) : Int32).toInt = (8) := fun z => h_31 (Int32.toInt_inj.mp z)
          unfold fX10_kind_65
          refine hs_bd (s_fX10_throwsIf (fun j h => ra j (hs_inc (by decide) h)) (fun j h => ri j (hs_inc (by decide) h)) σ1_29 (0 : Int32) (2 : Int32) Iσ1_29 (show 0 ≤ (0) by omega) (show (0) ≤ 1 by omega) (fun σ1_42 v2_41 Iσ1_42 (gv2_41_0 : v2_41.toInt = (0)) (gv2_41_1 : (σ1_42.2 1).toInt = (σ1_29.2 1).toInt) (gv2_41_2 : (σ1_42.2 2).toInt = (σ1_29.2 2).toInt) (gv2_41_3 : (σ1_42.2 3).toInt = (σ1_29.2 3).toInt) (gv2_41_4 : (σ1_42.2 4).toInt = (σ1_29.2 4).toInt) (gv2_41_5 : (σ1_42.2 5).toInt = (σ1_29.2 5).toInt) (gv2_41_6 : (σ1_42.2 6).toInt = (σ1_29.2 6).toInt) (gv2_41_7 : (σ1_42.2 7).toInt = (σ1_29.2 7).toInt) (gv2_41_8 : (σ1_42.2 8).toInt = (σ1_29.2 8).toInt) (gv2_41_9 : (σ1_42.2 9).toInt = (σ1_29.2 9).toInt) (gv2_41_10 : (σ1_42.2 10).toInt = (σ1_29.2 10).toInt) (gv2_41_11 : (σ1_42.2 11).toInt = (σ1_29.2 11).toInt) (gv2_41_12 : ((0) = 0 ∧ (σ1_42.2 0).toInt = (σ1_29.2 0).toInt) ∨ ((0) = 1 ∧ (σ1_42.2 0).toInt = (2))) => ?_))
          have : (-2147483648 : Int) ≤ (σ1_42.2 0).toInt ∧ (σ1_42.2 0).toInt ≤ 2147483647 := Iσ1_42.2.1 0
          have : (0 : Int) ≤ (σ1_42.2 1).toInt ∧ (σ1_42.2 1).toInt ≤ 8 := Iσ1_42.2.1 1
          refine hs_ite (fun h_43 => ?_) (fun h_43 => ?_)
          · have : (v2_41 : Int32).toInt = (0) := congrArg Int32.toInt h_43
            refine hs_pa (idx := (σ1_42.2 1)) (v := _) Iσ1_42 (by omega) (by omega) (hs_any _) (fun r => ⟨hm_Ra (by decide) r.1, ra 0 (by decide) _ _ r.2⟩) (fun σ5_44 eσ5_44 Iσ5_44 => ?_)
            have : (σ5_44.2 0).toInt = (σ1_42.2 0).toInt := by rw [eσ5_44]; rfl
            have : (σ5_44.2 1).toInt = (σ1_42.2 1).toInt := by rw [eσ5_44]; rfl
            have : (-2147483648 : Int) ≤ (σ5_44.2 0).toInt ∧ (σ5_44.2 0).toInt ≤ 2147483647 := Iσ5_44.2.1 0
            have : (0 : Int) ≤ (σ5_44.2 1).toInt ∧ (σ5_44.2 1).toInt ≤ 8 := Iσ5_44.2.1 1
            refine hs_pa (idx := (σ5_44.2 1)) (v := _) Iσ5_44 (by omega) (by omega) (hs_any _) (fun r => ⟨hm_Ra (by decide) r.1, ra 1 (by decide) _ _ r.2⟩) (fun σ8_45 eσ8_45 Iσ8_45 => ?_)
            have : (σ8_45.2 0).toInt = (σ5_44.2 0).toInt := by rw [eσ8_45]; rfl
            have : (σ8_45.2 1).toInt = (σ5_44.2 1).toInt := by rw [eσ8_45]; rfl
            have : (-2147483648 : Int) ≤ (σ8_45.2 0).toInt ∧ (σ8_45.2 0).toInt ≤ 2147483647 := Iσ8_45.2.1 0
            have : (0 : Int) ≤ (σ8_45.2 1).toInt ∧ (σ8_45.2 1).toInt ≤ 8 := Iσ8_45.2.1 1
            refine hs_pa (idx := (σ8_45.2 1)) (v := _) Iσ8_45 (by omega) (by omega) (hs_any _) (fun r => ⟨hm_Ra (by decide) r.1, ra 2 (by decide) _ _ r.2⟩) (fun σ11_46 eσ11_46 Iσ11_46 => ?_)
            have : (σ11_46.2 0).toInt = (σ8_45.2 0).toInt := by rw [eσ11_46]; rfl
            have : (σ11_46.2 1).toInt = (σ8_45.2 1).toInt := by rw [eσ11_46]; rfl
            have : (-2147483648 : Int) ≤ (σ11_46.2 0).toInt ∧ (σ11_46.2 0).toInt ≤ 2147483647 := Iσ11_46.2.1 0
            have : (0 : Int) ≤ (σ11_46.2 1).toInt ∧ (σ11_46.2 1).toInt ≤ 8 := Iσ11_46.2.1 1
            obtain ⟨e_47, he_47⟩ : ∃ e9 : Int32, e9 = ((σ11_46.2 1) + 1) := ⟨_, rfl⟩
            try have : e_47.toInt = ((σ11_46.2 1) : Int32).toInt + (1) := by rw [he_47]; exact hs_addk (1) rfl (by omega) (by omega)
            try rw [← he_47]
            refine hs_pf (v := e_47) Iσ11_46 ⟨(by omega : (0 : Int) ≤ (e_47 : Int32).toInt), (by omega : (e_47 : Int32).toInt ≤ 8)⟩ (fun r => ⟨hm_Ri (by decide) r.1, ri 1 (by decide) _ _ r.2⟩) (fun σ14_48 eσ14_48 Iσ14_48 => ?_)
            have : (σ14_48.2 0).toInt = (σ11_46.2 0).toInt := by rw [eσ14_48]; rfl
            have : (σ14_48.2 1).toInt = (e_47 : Int32).toInt := by rw [eσ14_48]; rfl
            have : (-2147483648 : Int) ≤ (σ14_48.2 0).toInt ∧ (σ14_48.2 0).toInt ≤ 2147483647 := Iσ14_48.2.1 0
            have : (0 : Int) ≤ (σ14_48.2 1).toInt ∧ (σ14_48.2 1).toInt ≤ 8 := Iσ14_48.2.1 1
            obtain ⟨e_49, he_49⟩ : ∃ e9 : Int32, e9 = ((σ14_48.2 1) - 1) := ⟨_, rfl⟩
            try have : e_49.toInt = ((σ14_48.2 1) : Int32).toInt - (1) := by rw [he_49]; exact hs_subk (1) rfl (by omega) (by omega)
            try rw [← he_49]
            exact hs_some (hQ σ14_48 (e_49 : Int32) Iσ14_48 (show ((σ14_48.2 0).toInt = 0 ∧ ¬ (x1.toInt < 1 ∨ 100 < x1.toInt ∨ x2.toInt < 1 ∨ 200 < x2.toInt ∨ x3.toInt < 0 ∨ 5000 < x3.toInt) ∧ (σ.2 1).toInt < 8 ∧ (σ14_48.2 1).toInt = (σ.2 1).toInt + 1 ∧ (e_49 : Int32).toInt = (σ.2 1).toInt) ∨ ((σ14_48.2 0).toInt = 1 ∧ (x1.toInt < 1 ∨ 100 < x1.toInt ∨ x2.toInt < 1 ∨ 200 < x2.toInt ∨ x3.toInt < 0 ∨ 5000 < x3.toInt) ∧ (σ14_48.2 1).toInt = (σ.2 1).toInt) ∨ ((σ14_48.2 0).toInt = 2 ∧ ¬ (x1.toInt < 1 ∨ 100 < x1.toInt ∨ x2.toInt < 1 ∨ 200 < x2.toInt ∨ x3.toInt < 0 ∨ 5000 < x3.toInt) ∧ 8 ≤ (σ.2 1).toInt ∧ (σ14_48.2 1).toInt = (σ.2 1).toInt) by omega))
          · have : ¬ (v2_41 : Int32).toInt = (0) := fun z => h_43 (Int32.toInt_inj.mp z)
            exact hs_some (hQ σ1_42 (0 : Int32) Iσ1_42 (show ((σ1_42.2 0).toInt = 0 ∧ ¬ (x1.toInt < 1 ∨ 100 < x1.toInt ∨ x2.toInt < 1 ∨ 200 < x2.toInt ∨ x3.toInt < 0 ∨ 5000 < x3.toInt) ∧ (σ.2 1).toInt < 8 ∧ (σ1_42.2 1).toInt = (σ.2 1).toInt + 1 ∧ (0) = (σ.2 1).toInt) ∨ ((σ1_42.2 0).toInt = 1 ∧ (x1.toInt < 1 ∨ 100 < x1.toInt ∨ x2.toInt < 1 ∨ 200 < x2.toInt ∨ x3.toInt < 0 ∨ 5000 < x3.toInt) ∧ (σ1_42.2 1).toInt = (σ.2 1).toInt) ∨ ((σ1_42.2 0).toInt = 2 ∧ ¬ (x1.toInt < 1 ∨ 100 < x1.toInt ∨ x2.toInt < 1 ∨ 200 < x2.toInt ∨ x3.toInt < 0 ∨ 5000 < x3.toInt) ∧ 8 ≤ (σ.2 1).toInt ∧ (σ1_42.2 1).toInt = (σ.2 1).toInt) by omega))
      · have : ¬ (v2_28 : Int32).toInt = (0) := fun z => h_30 (Int32.toInt_inj.mp z)
        exact hs_some (hQ σ1_29 (0 : Int32) Iσ1_29 (show ((σ1_29.2 0).toInt = 0 ∧ ¬ (x1.toInt < 1 ∨ 100 < x1.toInt ∨ x2.toInt < 1 ∨ 200 < x2.toInt ∨ x3.toInt < 0 ∨ 5000 < x3.toInt) ∧ (σ.2 1).toInt < 8 ∧ (σ1_29.2 1).toInt = (σ.2 1).toInt + 1 ∧ (0) = (σ.2 1).toInt) ∨ ((σ1_29.2 0).toInt = 1 ∧ (x1.toInt < 1 ∨ 100 < x1.toInt ∨ x2.toInt < 1 ∨ 200 < x2.toInt ∨ x3.toInt < 0 ∨ 5000 < x3.toInt) ∧ (σ1_29.2 1).toInt = (σ.2 1).toInt) ∨ ((σ1_29.2 0).toInt = 2 ∧ ¬ (x1.toInt < 1 ∨ 100 < x1.toInt ∨ x2.toInt < 1 ∨ 200 < x2.toInt ∨ x3.toInt < 0 ∨ 5000 < x3.toInt) ∧ 8 ≤ (σ.2 1).toInt ∧ (σ1_29.2 1).toInt = (σ.2 1).toInt) by omega))
    · have : ¬ (v8_26 : Int32).toInt = (0) := fun z => h_27 (Int32.toInt_inj.mp z)
      refine hs_bd (s_fX10_in σ1_1 x3 (0 : Int32) (5000 : Int32) Iσ1_1  (fun v12_50 (gv12_50_0 : (v12_50.toInt = 1 ∧ (0) ≤ (x3 : Int32).toInt ∧ (x3 : Int32).toInt ≤ (5000)) ∨ (v12_50.toInt = 0 ∧ ((x3 : Int32).toInt < (0) ∨ (5000) < (x3 : Int32).toInt))) => ?_))
      refine hs_ite (fun h_51 => ?_) (fun h_51 => ?_)
      · have : (v12_50 : Int32).toInt = (0) := congrArg Int32.toInt h_51
        unfold fX10_kind_38
        unfold fX10_kind_43
        refine hs_bd (s_fX10_throwsIf (fun j h => ra j (hs_inc (by decide) h)) (fun j h => ri j (hs_inc (by decide) h)) σ1_1 (1 : Int32) (1 : Int32) Iσ1_1 (show 0 ≤ (1) by omega) (show (1) ≤ 1 by omega) (fun σ1_53 v2_52 Iσ1_53 (gv2_52_0 : v2_52.toInt = (1)) (gv2_52_1 : (σ1_53.2 1).toInt = (σ1_1.2 1).toInt) (gv2_52_2 : (σ1_53.2 2).toInt = (σ1_1.2 2).toInt) (gv2_52_3 : (σ1_53.2 3).toInt = (σ1_1.2 3).toInt) (gv2_52_4 : (σ1_53.2 4).toInt = (σ1_1.2 4).toInt) (gv2_52_5 : (σ1_53.2 5).toInt = (σ1_1.2 5).toInt) (gv2_52_6 : (σ1_53.2 6).toInt = (σ1_1.2 6).toInt) (gv2_52_7 : (σ1_53.2 7).toInt = (σ1_1.2 7).toInt) (gv2_52_8 : (σ1_53.2 8).toInt = (σ1_1.2 8).toInt) (gv2_52_9 : (σ1_53.2 9).toInt = (σ1_1.2 9).toInt) (gv2_52_10 : (σ1_53.2 10).toInt = (σ1_1.2 10).toInt) (gv2_52_11 : (σ1_53.2 11).toInt = (σ1_1.2 11).toInt) (gv2_52_12 : ((1) = 0 ∧ (σ1_53.2 0).toInt = (σ1_1.2 0).toInt) ∨ ((1) = 1 ∧ (σ1_53.2 0).toInt = (1))) => ?_))
        have : (-2147483648 : Int) ≤ (σ1_53.2 0).toInt ∧ (σ1_53.2 0).toInt ≤ 2147483647 := Iσ1_53.2.1 0
        have : (0 : Int) ≤ (σ1_53.2 1).toInt ∧ (σ1_53.2 1).toInt ≤ 8 := Iσ1_53.2.1 1
        refine hs_ite (fun h_54 => ?_) (fun h_54 => ?_)
        · have : (v2_52 : Int32).toInt = (0) := congrArg Int32.toInt h_54
          refine hs_ite (fun h_55 => ?_) (fun h_55 => ?_)
          · have : ((σ1_53.2 1) : Int32).toInt = (8) := congrArg Int32.toInt h_55
            unfold fX10_kind_65
            refine hs_bd (s_fX10_throwsIf (fun j h => ra j (hs_inc (by decide) h)) (fun j h => ri j (hs_inc (by decide) h)) σ1_53 (1 : Int32) (2 : Int32) Iσ1_53 (show 0 ≤ (1) by omega) (show (1) ≤ 1 by omega) (fun σ1_57 v2_56 Iσ1_57 (gv2_56_0 : v2_56.toInt = (1)) (gv2_56_1 : (σ1_57.2 1).toInt = (σ1_53.2 1).toInt) (gv2_56_2 : (σ1_57.2 2).toInt = (σ1_53.2 2).toInt) (gv2_56_3 : (σ1_57.2 3).toInt = (σ1_53.2 3).toInt) (gv2_56_4 : (σ1_57.2 4).toInt = (σ1_53.2 4).toInt) (gv2_56_5 : (σ1_57.2 5).toInt = (σ1_53.2 5).toInt) (gv2_56_6 : (σ1_57.2 6).toInt = (σ1_53.2 6).toInt) (gv2_56_7 : (σ1_57.2 7).toInt = (σ1_53.2 7).toInt) (gv2_56_8 : (σ1_57.2 8).toInt = (σ1_53.2 8).toInt) (gv2_56_9 : (σ1_57.2 9).toInt = (σ1_53.2 9).toInt) (gv2_56_10 : (σ1_57.2 10).toInt = (σ1_53.2 10).toInt) (gv2_56_11 : (σ1_57.2 11).toInt = (σ1_53.2 11).toInt) (gv2_56_12 : ((1) = 0 ∧ (σ1_57.2 0).toInt = (σ1_53.2 0).toInt) ∨ ((1) = 1 ∧ (σ1_57.2 0).toInt = (2))) => ?_))
            have : (-2147483648 : Int) ≤ (σ1_57.2 0).toInt ∧ (σ1_57.2 0).toInt ≤ 2147483647 := Iσ1_57.2.1 0
            have : (0 : Int) ≤ (σ1_57.2 1).toInt ∧ (σ1_57.2 1).toInt ≤ 8 := Iσ1_57.2.1 1
            refine hs_ite (fun h_58 => ?_) (fun h_58 => ?_)
            · have : (v2_56 : Int32).toInt = (0) := congrArg Int32.toInt h_58
              refine hs_pa (idx := (σ1_57.2 1)) (v := _) Iσ1_57 (by omega) (by omega) (hs_any _) (fun r => ⟨hm_Ra (by decide) r.1, ra 0 (by decide) _ _ r.2⟩) (fun σ5_59 eσ5_59 Iσ5_59 => ?_)
              have : (σ5_59.2 0).toInt = (σ1_57.2 0).toInt := by rw [eσ5_59]; rfl
              have : (σ5_59.2 1).toInt = (σ1_57.2 1).toInt := by rw [eσ5_59]; rfl
              have : (-2147483648 : Int) ≤ (σ5_59.2 0).toInt ∧ (σ5_59.2 0).toInt ≤ 2147483647 := Iσ5_59.2.1 0
              have : (0 : Int) ≤ (σ5_59.2 1).toInt ∧ (σ5_59.2 1).toInt ≤ 8 := Iσ5_59.2.1 1
              refine hs_pa (idx := (σ5_59.2 1)) (v := _) Iσ5_59 (by omega) (by omega) (hs_any _) (fun r => ⟨hm_Ra (by decide) r.1, ra 1 (by decide) _ _ r.2⟩) (fun σ8_60 eσ8_60 Iσ8_60 => ?_)
              have : (σ8_60.2 0).toInt = (σ5_59.2 0).toInt := by rw [eσ8_60]; rfl
              have : (σ8_60.2 1).toInt = (σ5_59.2 1).toInt := by rw [eσ8_60]; rfl
              have : (-2147483648 : Int) ≤ (σ8_60.2 0).toInt ∧ (σ8_60.2 0).toInt ≤ 2147483647 := Iσ8_60.2.1 0
              have : (0 : Int) ≤ (σ8_60.2 1).toInt ∧ (σ8_60.2 1).toInt ≤ 8 := Iσ8_60.2.1 1
              refine hs_pa (idx := (σ8_60.2 1)) (v := _) Iσ8_60 (by omega) (by omega) (hs_any _) (fun r => ⟨hm_Ra (by decide) r.1, ra 2 (by decide) _ _ r.2⟩) (fun σ11_61 eσ11_61 Iσ11_61 => ?_)
              have : (σ11_61.2 0).toInt = (σ8_60.2 0).toInt := by rw [eσ11_61]; rfl
              have : (σ11_61.2 1).toInt = (σ8_60.2 1).toInt := by rw [eσ11_61]; rfl
              have : (-2147483648 : Int) ≤ (σ11_61.2 0).toInt ∧ (σ11_61.2 0).toInt ≤ 2147483647 := Iσ11_61.2.1 0
              have : (0 : Int) ≤ (σ11_61.2 1).toInt ∧ (σ11_61.2 1).toInt ≤ 8 := Iσ11_61.2.1 1
              obtain ⟨e_62, he_62⟩ : ∃ e9 : Int32, e9 = ((σ11_61.2 1) + 1) := ⟨_, rfl⟩
              try have : e_62.toInt = ((σ11_61.2 1) : Int32).toInt + (1) := by rw [he_62]; exact hs_addk (1) rfl (by omega) (by omega)
              try rw [← he_62]
              refine hs_pf (v := e_62) Iσ11_61 ⟨(by omega : (0 : Int) ≤ (e_62 : Int32).toInt), (by omega : (e_62 : Int32).toInt ≤ 8)⟩ (fun r => ⟨hm_Ri (by decide) r.1, ri 1 (by decide) _ _ r.2⟩) (fun σ14_63 eσ14_63 Iσ14_63 => ?_)
              have : (σ14_63.2 0).toInt = (σ11_61.2 0).toInt := by rw [eσ14_63]; rfl
              have : (σ14_63.2 1).toInt = (e_62 : Int32).toInt := by rw [eσ14_63]; rfl
              have : (-2147483648 : Int) ≤ (σ14_63.2 0).toInt ∧ (σ14_63.2 0).toInt ≤ 2147483647 := Iσ14_63.2.1 0
              have : (0 : Int) ≤ (σ14_63.2 1).toInt ∧ (σ14_63.2 1).toInt ≤ 8 := Iσ14_63.2.1 1
              obtain ⟨e_64, he_64⟩ : ∃ e9 : Int32, e9 = ((σ14_63.2 1) - 1) := ⟨_, rfl⟩
              try have : e_64.toInt = ((σ14_63.2 1) : Int32).toInt - (1) := by rw [he_64]; exact hs_subk (1) rfl (by omega) (by omega)
              try rw [← he_64]
              exact hs_some (hQ σ14_63 (e_64 : Int32) Iσ14_63 (show ((σ14_63.2 0).toInt = 0 ∧ ¬ (x1.toInt < 1 ∨ 100 < x1.toInt ∨ x2.toInt < 1 ∨ 200 < x2.toInt ∨ x3.toInt < 0 ∨ 5000 < x3.toInt) ∧ (σ.2 1).toInt < 8 ∧ (σ14_63.2 1).toInt = (σ.2 1).toInt + 1 ∧ (e_64 : Int32).toInt = (σ.2 1).toInt) ∨ ((σ14_63.2 0).toInt = 1 ∧ (x1.toInt < 1 ∨ 100 < x1.toInt ∨ x2.toInt < 1 ∨ 200 < x2.toInt ∨ x3.toInt < 0 ∨ 5000 < x3.toInt) ∧ (σ14_63.2 1).toInt = (σ.2 1).toInt) ∨ ((σ14_63.2 0).toInt = 2 ∧ ¬ (x1.toInt < 1 ∨ 100 < x1.toInt ∨ x2.toInt < 1 ∨ 200 < x2.toInt ∨ x3.toInt < 0 ∨ 5000 < x3.toInt) ∧ 8 ≤ (σ.2 1).toInt ∧ (σ14_63.2 1).toInt = (σ.2 1).toInt) by omega))
            · have : ¬ (v2_56 : Int32).toInt = (0) := fun z => h_58 (Int32.toInt_inj.mp z)
              exact hs_some (hQ σ1_57 (0 : Int32) Iσ1_57 (show ((σ1_57.2 0).toInt = 0 ∧ ¬ (x1.toInt < 1 ∨ 100 < x1.toInt ∨ x2.toInt < 1 ∨ 200 < x2.toInt ∨ x3.toInt < 0 ∨ 5000 < x3.toInt) ∧ (σ.2 1).toInt < 8 ∧ (σ1_57.2 1).toInt = (σ.2 1).toInt + 1 ∧ (0) = (σ.2 1).toInt) ∨ ((σ1_57.2 0).toInt = 1 ∧ (x1.toInt < 1 ∨ 100 < x1.toInt ∨ x2.toInt < 1 ∨ 200 < x2.toInt ∨ x3.toInt < 0 ∨ 5000 < x3.toInt) ∧ (σ1_57.2 1).toInt = (σ.2 1).toInt) ∨ ((σ1_57.2 0).toInt = 2 ∧ ¬ (x1.toInt < 1 ∨ 100 < x1.toInt ∨ x2.toInt < 1 ∨ 200 < x2.toInt ∨ x3.toInt < 0 ∨ 5000 < x3.toInt) ∧ 8 ≤ (σ.2 1).toInt ∧ (σ1_57.2 1).toInt = (σ.2 1).toInt) by omega))
          · have : ¬ ((σ1_53.2 1) : Int32).toInt = (8) := fun z => h_55 (Int32.toInt_inj.mp z)
            unfold fX10_kind_65
            refine hs_bd (s_fX10_throwsIf (fun j h => ra j (hs_inc (by decide) h)) (fun j h => ri j (hs_inc (by decide) h)) σ1_53 (0 : Int32) (2 : Int32) Iσ1_53 (show 0 ≤ (0) by omega) (show (0) ≤ 1 by omega) (fun σ1_66 v2_65 Iσ1_66 (gv2_65_0 : v2_65.toInt = (0)) (gv2_65_1 : (σ1_66.2 1).toInt = (σ1_53.2 1).toInt) (gv2_65_2 : (σ1_66.2 2).toInt = (σ1_53.2 2).toInt) (gv2_65_3 : (σ1_66.2 3).toInt = (σ1_53.2 3).toInt) (gv2_65_4 : (σ1_66.2 4).toInt = (σ1_53.2 4).toInt) (gv2_65_5 : (σ1_66.2 5).toInt = (σ1_53.2 5).toInt) (gv2_65_6 : (σ1_66.2 6).toInt = (σ1_53.2 6).toInt) (gv2_65_7 : (σ1_66.2 7).toInt = (σ1_53.2 7).toInt) (gv2_65_8 : (σ1_66.2 8).toInt = (σ1_53.2 8).toInt) (gv2_65_9 : (σ1_66.2 9).toInt = (σ1_53.2 9).toInt) (gv2_65_10 : (σ1_66.2 10).toInt = (σ1_53.2 10).toInt) (gv2_65_11 : (σ1_66.2 11).toInt = (σ1_53.2 11).toInt) (gv2_65_12 : ((0) = 0 ∧ (σ1_66.2 0).toInt = (σ1_53.2 0).toInt) ∨ ((0) = 1 ∧ (σ1_66.2 0).toInt = (2))) => ?_))
            have : (-2147483648 : Int) ≤ (σ1_66.2 0).toInt ∧ (σ1_66.2 0).toInt ≤ 2147483647 := Iσ1_66.2.1 0
            have : (0 : Int) ≤ (σ1_66.2 1).toInt ∧ (σ1_66.2 1).toInt ≤ 8 := Iσ1_66.2.1 1
            refine hs_ite (fun h_67 => ?_) (fun h_67 => ?_)
            · have : (v2_65 : Int32).toInt = (0) := congrArg Int32.toInt h_67
              refine hs_pa (idx := (σ1_66.2 1)) (v := _) Iσ1_66 (by omega) (by omega) (hs_any _) (fun r => ⟨hm_Ra (by decide) r.1, ra 0 (by decide) _ _ r.2⟩) (fun σ5_68 eσ5_68 Iσ5_68 => ?_)
              have : (σ5_68.2 0).toInt = (σ1_66.2 0).toInt := by rw [eσ5_68]; rfl
              have : (σ5_68.2 1).toInt = (σ1_66.2 1).toInt := by rw [eσ5_68]; rfl
              have : (-2147483648 : Int) ≤ (σ5_68.2 0).toInt ∧ (σ5_68.2 0).toInt ≤ 2147483647 := Iσ5_68.2.1 0
              have : (0 : Int) ≤ (σ5_68.2 1).toInt ∧ (σ5_68.2 1).toInt ≤ 8 := Iσ5_68.2.1 1
              refine hs_pa (idx := (σ5_68.2 1)) (v := _) Iσ5_68 (by omega) (by omega) (hs_any _) (fun r => ⟨hm_Ra (by decide) r.1, ra 1 (by decide) _ _ r.2⟩) (fun σ8_69 eσ8_69 Iσ8_69 => ?_)
              have : (σ8_69.2 0).toInt = (σ5_68.2 0).toInt := by rw [eσ8_69]; rfl
              have : (σ8_69.2 1).toInt = (σ5_68.2 1).toInt := by rw [eσ8_69]; rfl
              have : (-2147483648 : Int) ≤ (σ8_69.2 0).toInt ∧ (σ8_69.2 0).toInt ≤ 2147483647 := Iσ8_69.2.1 0
              have : (0 : Int) ≤ (σ8_69.2 1).toInt ∧ (σ8_69.2 1).toInt ≤ 8 := Iσ8_69.2.1 1
              refine hs_pa (idx := (σ8_69.2 1)) (v := _) Iσ8_69 (by omega) (by omega) (hs_any _) (fun r => ⟨hm_Ra (by decide) r.1, ra 2 (by decide) _ _ r.2⟩) (fun σ11_70 eσ11_70 Iσ11_70 => ?_)
              have : (σ11_70.2 0).toInt = (σ8_69.2 0).toInt := by rw [eσ11_70]; rfl
              have : (σ11_70.2 1).toInt = (σ8_69.2 1).toInt := by rw [eσ11_70]; rfl
              have : (-2147483648 : Int) ≤ (σ11_70.2 0).toInt ∧ (σ11_70.2 0).toInt ≤ 2147483647 := Iσ11_70.2.1 0
              have : (0 : Int) ≤ (σ11_70.2 1).toInt ∧ (σ11_70.2 1).toInt ≤ 8 := Iσ11_70.2.1 1
              obtain ⟨e_71, he_71⟩ : ∃ e9 : Int32, e9 = ((σ11_70.2 1) + 1) := ⟨_, rfl⟩
              try have : e_71.toInt = ((σ11_70.2 1) : Int32).toInt + (1) := by rw [he_71]; exact hs_addk (1) rfl (by omega) (by omega)
              try rw [← he_71]
              refine hs_pf (v := e_71) Iσ11_70 ⟨(by omega : (0 : Int) ≤ (e_71 : Int32).toInt), (by omega : (e_71 : Int32).toInt ≤ 8)⟩ (fun r => ⟨hm_Ri (by decide) r.1, ri 1 (by decide) _ _ r.2⟩) (fun σ14_72 eσ14_72 Iσ14_72 => ?_)
              have : (σ14_72.2 0).toInt = (σ11_70.2 0).toInt := by rw [eσ14_72]; rfl
              have : (σ14_72.2 1).toInt = (e_71 : Int32).toInt := by rw [eσ14_72]; rfl
              have : (-2147483648 : Int) ≤ (σ14_72.2 0).toInt ∧ (σ14_72.2 0).toInt ≤ 2147483647 := Iσ14_72.2.1 0
              have : (0 : Int) ≤ (σ14_72.2 1).toInt ∧ (σ14_72.2 1).toInt ≤ 8 := Iσ14_72.2.1 1
              obtain ⟨e_73, he_73⟩ : ∃ e9 : Int32, e9 = ((σ14_72.2 1) - 1) := ⟨_, rfl⟩
              try have : e_73.toInt = ((σ14_72.2 1) : Int32).toInt - (1) := by rw [he_73]; exact hs_subk (1) rfl (by omega) (by omega)
              try rw [← he_73]
              exact hs_some (hQ σ14_72 (e_73 : Int32) Iσ14_72 (show ((σ14_72.2 0).toInt = 0 ∧ ¬ (x1.toInt < 1 ∨ 100 < x1.toInt ∨ x2.toInt < 1 ∨ 200 < x2.toInt ∨ x3.toInt < 0 ∨ 5000 < x3.toInt) ∧ (σ.2 1).toInt < 8 ∧ (σ14_72.2 1).toInt = (σ.2 1).toInt + 1 ∧ (e_73 : Int32).toInt = (σ.2 1).toInt) ∨ ((σ14_72.2 0).toInt = 1 ∧ (x1.toInt < 1 ∨ 100 < x1.toInt ∨ x2.toInt < 1 ∨ 200 < x2.toInt ∨ x3.toInt < 0 ∨ 5000 < x3.toInt) ∧ (σ14_72.2 1).toInt = (σ.2 1).toInt) ∨ ((σ14_72.2 0).toInt = 2 ∧ ¬ (x1.toInt < 1 ∨ 100 < x1.toInt ∨ x2.toInt < 1 ∨ 200 < x2.toInt ∨ x3.toInt < 0 ∨ 5000 < x3.toInt) ∧ 8 ≤ (σ.2 1).toInt ∧ (σ14_72.2 1).toInt = (σ.2 1).toInt) by omega))
            · have : ¬ (v2_65 : Int32).toInt = (0) := fun z => h_67 (Int32.toInt_inj.mp z)
              exact hs_some (hQ σ1_66 (0 : Int32) Iσ1_66 (show ((σ1_66.2 0).toInt = 0 ∧ ¬ (x1.toInt < 1 ∨ 100 < x1.toInt ∨ x2.toInt < 1 ∨ 200 < x2.toInt ∨ x3.toInt < 0 ∨ 5000 < x3.toInt) ∧ (σ.2 1).toInt < 8 ∧ (σ1_66.2 1).toInt = (σ.2 1).toInt + 1 ∧ (0) = (σ.2 1).toInt) ∨ ((σ1_66.2 0).toInt = 1 ∧ (x1.toInt < 1 ∨ 100 < x1.toInt ∨ x2.toInt < 1 ∨ 200 < x2.toInt ∨ x3.toInt < 0 ∨ 5000 < x3.toInt) ∧ (σ1_66.2 1).toInt = (σ.2 1).toInt) ∨ ((σ1_66.2 0).toInt = 2 ∧ ¬ (x1.toInt < 1 ∨ 100 < x1.toInt ∨ x2.toInt < 1 ∨ 200 < x2.toInt ∨ x3.toInt < 0 ∨ 5000 < x3.toInt) ∧ 8 ≤ (σ.2 1).toInt ∧ (σ1_66.2 1).toInt = (σ.2 1).toInt) by omega))
        · have : ¬ (v2_52 : Int32).toInt = (0) := fun z => h_54 (Int32.toInt_inj.mp z)
          exact hs_some (hQ σ1_53 (0 : Int32) Iσ1_53 (show ((σ1_53.2 0).toInt = 0 ∧ ¬ (x1.toInt < 1 ∨ 100 < x1.toInt ∨ x2.toInt < 1 ∨ 200 < x2.toInt ∨ x3.toInt < 0 ∨ 5000 < x3.toInt) ∧ (σ.2 1).toInt < 8 ∧ (σ1_53.2 1).toInt = (σ.2 1).toInt + 1 ∧ (0) = (σ.2 1).toInt) ∨ ((σ1_53.2 0).toInt = 1 ∧ (x1.toInt < 1 ∨ 100 < x1.toInt ∨ x2.toInt < 1 ∨ 200 < x2.toInt ∨ x3.toInt < 0 ∨ 5000 < x3.toInt) ∧ (σ1_53.2 1).toInt = (σ.2 1).toInt) ∨ ((σ1_53.2 0).toInt = 2 ∧ ¬ (x1.toInt < 1 ∨ 100 < x1.toInt ∨ x2.toInt < 1 ∨ 200 < x2.toInt ∨ x3.toInt < 0 ∨ 5000 < x3.toInt) ∧ 8 ≤ (σ.2 1).toInt ∧ (σ1_53.2 1).toInt = (σ.2 1).toInt) by omega))
      · have : ¬ (v12_50 : Int32).toInt = (0) := fun z => h_51 (Int32.toInt_inj.mp z)
        unfold fX10_kind_43
        refine hs_bd (s_fX10_throwsIf (fun j h => ra j (hs_inc (by decide) h)) (fun j h => ri j (hs_inc (by decide) h)) σ1_1 (0 : Int32) (1 : Int32) Iσ1_1 (show 0 ≤ (0) by omega) (show (0) ≤ 1 by omega) (fun σ1_75 v2_74 Iσ1_75 (gv2_74_0 : v2_74.toInt = (0)) (gv2_74_1 : (σ1_75.2 1).toInt = (σ1_1.2 1).toInt) (gv2_74_2 : (σ1_75.2 2).toInt = (σ1_1.2 2).toInt) (gv2_74_3 : (σ1_75.2 3).toInt = (σ1_1.2 3).toInt) (gv2_74_4 : (σ1_75.2 4).toInt = (σ1_1.2 4).toInt) (gv2_74_5 : (σ1_75.2 5).toInt = (σ1_1.2 5).toInt) (gv2_74_6 : (σ1_75.2 6).toInt = (σ1_1.2 6).toInt) (gv2_74_7 : (σ1_75.2 7).toInt = (σ1_1.2 7).toInt) (gv2_74_8 : (σ1_75.2 8).toInt = (σ1_1.2 8).toInt) (gv2_74_9 : (σ1_75.2 9).toInt = (σ1_1.2 9).toInt) (gv2_74_10 : (σ1_75.2 10).toInt = (σ1_1.2 10).toInt) (gv2_74_11 : (σ1_75.2 11).toInt = (σ1_1.2 11).toInt) (gv2_74_12 : ((0) = 0 ∧ (σ1_75.2 0).toInt = (σ1_1.2 0).toInt) ∨ ((0) = 1 ∧ (σ1_75.2 0).toInt = (1))) => ?_))
        have : (-2147483648 : Int) ≤ (σ1_75.2 0).toInt ∧ (σ1_75.2 0).toInt ≤ 2147483647 := Iσ1_75.2.1 0
        have : (0 : Int) ≤ (σ1_75.2 1).toInt ∧ (σ1_75.2 1).toInt ≤ 8 := Iσ1_75.2.1 1
        refine hs_ite (fun h_76 => ?_) (fun h_76 => ?_)
        · have : (v2_74 : Int32).toInt = (0) := congrArg Int32.toInt h_76
          refine hs_ite (fun h_77 => ?_) (fun h_77 => ?_)
          · have : ((σ1_75.2 1) : Int32).toInt = (8) := congrArg Int32.toInt h_77
            unfold fX10_kind_65
            refine hs_bd (s_fX10_throwsIf (fun j h => ra j (hs_inc (by decide) h)) (fun j h => ri j (hs_inc (by decide) h)) σ1_75 (1 : Int32) (2 : Int32) Iσ1_75 (show 0 ≤ (1) by omega) (show (1) ≤ 1 by omega) (fun σ1_79 v2_78 Iσ1_79 (gv2_78_0 : v2_78.toInt = (1)) (gv2_78_1 : (σ1_79.2 1).toInt = (σ1_75.2 1).toInt) (gv2_78_2 : (σ1_79.2 2).toInt = (σ1_75.2 2).toInt) (gv2_78_3 : (σ1_79.2 3).toInt = (σ1_75.2 3).toInt) (gv2_78_4 : (σ1_79.2 4).toInt = (σ1_75.2 4).toInt) (gv2_78_5 : (σ1_79.2 5).toInt = (σ1_75.2 5).toInt) (gv2_78_6 : (σ1_79.2 6).toInt = (σ1_75.2 6).toInt) (gv2_78_7 : (σ1_79.2 7).toInt = (σ1_75.2 7).toInt) (gv2_78_8 : (σ1_79.2 8).toInt = (σ1_75.2 8).toInt) (gv2_78_9 : (σ1_79.2 9).toInt = (σ1_75.2 9).toInt) (gv2_78_10 : (σ1_79.2 10).toInt = (σ1_75.2 10).toInt) (gv2_78_11 : (σ1_79.2 11).toInt = (σ1_75.2 11).toInt) (gv2_78_12 : ((1) = 0 ∧ (σ1_79.2 0).toInt = (σ1_75.2 0).toInt) ∨ ((1) = 1 ∧ (σ1_79.2 0).toInt = (2))) => ?_))
            have : (-2147483648 : Int) ≤ (σ1_79.2 0).toInt ∧ (σ1_79.2 0).toInt ≤ 2147483647 := Iσ1_79.2.1 0
            have : (0 : Int) ≤ (σ1_79.2 1).toInt ∧ (σ1_79.2 1).toInt ≤ 8 := Iσ1_79.2.1 1
            refine hs_ite (fun h_80 => ?_) (fun h_80 => ?_)
            · have : (v2_78 : Int32).toInt = (0) := congrArg Int32.toInt h_80
              refine hs_pa (idx := (σ1_79.2 1)) (v := _) Iσ1_79 (by omega) (by omega) (hs_any _) (fun r => ⟨hm_Ra (by decide) r.1, ra 0 (by decide) _ _ r.2⟩) (fun σ5_81 eσ5_81 Iσ5_81 => ?_)
              have : (σ5_81.2 0).toInt = (σ1_79.2 0).toInt := by rw [eσ5_81]; rfl
              have : (σ5_81.2 1).toInt = (σ1_79.2 1).toInt := by rw [eσ5_81]; rfl
              have : (-2147483648 : Int) ≤ (σ5_81.2 0).toInt ∧ (σ5_81.2 0).toInt ≤ 2147483647 := Iσ5_81.2.1 0
              have : (0 : Int) ≤ (σ5_81.2 1).toInt ∧ (σ5_81.2 1).toInt ≤ 8 := Iσ5_81.2.1 1
              refine hs_pa (idx := (σ5_81.2 1)) (v := _) Iσ5_81 (by omega) (by omega) (hs_any _) (fun r => ⟨hm_Ra (by decide) r.1, ra 1 (by decide) _ _ r.2⟩) (fun σ8_82 eσ8_82 Iσ8_82 => ?_)
              have : (σ8_82.2 0).toInt = (σ5_81.2 0).toInt := by rw [eσ8_82]; rfl
              have : (σ8_82.2 1).toInt = (σ5_81.2 1).toInt := by rw [eσ8_82]; rfl
              have : (-2147483648 : Int) ≤ (σ8_82.2 0).toInt ∧ (σ8_82.2 0).toInt ≤ 2147483647 := Iσ8_82.2.1 0
              have : (0 : Int) ≤ (σ8_82.2 1).toInt ∧ (σ8_82.2 1).toInt ≤ 8 := Iσ8_82.2.1 1
              refine hs_pa (idx := (σ8_82.2 1)) (v := _) Iσ8_82 (by omega) (by omega) (hs_any _) (fun r => ⟨hm_Ra (by decide) r.1, ra 2 (by decide) _ _ r.2⟩) (fun σ11_83 eσ11_83 Iσ11_83 => ?_)
              have : (σ11_83.2 0).toInt = (σ8_82.2 0).toInt := by rw [eσ11_83]; rfl
              have : (σ11_83.2 1).toInt = (σ8_82.2 1).toInt := by rw [eσ11_83]; rfl
              have : (-2147483648 : Int) ≤ (σ11_83.2 0).toInt ∧ (σ11_83.2 0).toInt ≤ 2147483647 := Iσ11_83.2.1 0
              have : (0 : Int) ≤ (σ11_83.2 1).toInt ∧ (σ11_83.2 1).toInt ≤ 8 := Iσ11_83.2.1 1
              obtain ⟨e_84, he_84⟩ : ∃ e9 : Int32, e9 = ((σ11_83.2 1) + 1) := ⟨_, rfl⟩
              try have : e_84.toInt = ((σ11_83.2 1) : Int32).toInt + (1) := by rw [he_84]; exact hs_addk (1) rfl (by omega) (by omega)
              try rw [← he_84]
              refine hs_pf (v := e_84) Iσ11_83 ⟨(by omega : (0 : Int) ≤ (e_84 : Int32).toInt), (by omega : (e_84 : Int32).toInt ≤ 8)⟩ (fun r => ⟨hm_Ri (by decide) r.1, ri 1 (by decide) _ _ r.2⟩) (fun σ14_85 eσ14_85 Iσ14_85 => ?_)
              have : (σ14_85.2 0).toInt = (σ11_83.2 0).toInt := by rw [eσ14_85]; rfl
              have : (σ14_85.2 1).toInt = (e_84 : Int32).toInt := by rw [eσ14_85]; rfl
              have : (-2147483648 : Int) ≤ (σ14_85.2 0).toInt ∧ (σ14_85.2 0).toInt ≤ 2147483647 := Iσ14_85.2.1 0
              have : (0 : Int) ≤ (σ14_85.2 1).toInt ∧ (σ14_85.2 1).toInt ≤ 8 := Iσ14_85.2.1 1
              obtain ⟨e_86, he_86⟩ : ∃ e9 : Int32, e9 = ((σ14_85.2 1) - 1) := ⟨_, rfl⟩
              try have : e_86.toInt = ((σ14_85.2 1) : Int32).toInt - (1) := by rw [he_86]; exact hs_subk (1) rfl (by omega) (by omega)
              try rw [← he_86]
              exact hs_some (hQ σ14_85 (e_86 : Int32) Iσ14_85 (show ((σ14_85.2 0).toInt = 0 ∧ ¬ (x1.toInt < 1 ∨ 100 < x1.toInt ∨ x2.toInt < 1 ∨ 200 < x2.toInt ∨ x3.toInt < 0 ∨ 5000 < x3.toInt) ∧ (σ.2 1).toInt < 8 ∧ (σ14_85.2 1).toInt = (σ.2 1).toInt + 1 ∧ (e_86 : Int32).toInt = (σ.2 1).toInt) ∨ ((σ14_85.2 0).toInt = 1 ∧ (x1.toInt < 1 ∨ 100 < x1.toInt ∨ x2.toInt < 1 ∨ 200 < x2.toInt ∨ x3.toInt < 0 ∨ 5000 < x3.toInt) ∧ (σ14_85.2 1).toInt = (σ.2 1).toInt) ∨ ((σ14_85.2 0).toInt = 2 ∧ ¬ (x1.toInt < 1 ∨ 100 < x1.toInt ∨ x2.toInt < 1 ∨ 200 < x2.toInt ∨ x3.toInt < 0 ∨ 5000 < x3.toInt) ∧ 8 ≤ (σ.2 1).toInt ∧ (σ14_85.2 1).toInt = (σ.2 1).toInt) by omega))
            · have : ¬ (v2_78 : Int32).toInt = (0) := fun z => h_80 (Int32.toInt_inj.mp z)
              exact hs_some (hQ σ1_79 (0 : Int32) Iσ1_79 (show ((σ1_79.2 0).toInt = 0 ∧ ¬ (x1.toInt < 1 ∨ 100 < x1.toInt ∨ x2.toInt < 1 ∨ 200 < x2.toInt ∨ x3.toInt < 0 ∨ 5000 < x3.toInt) ∧ (σ.2 1).toInt < 8 ∧ (σ1_79.2 1).toInt = (σ.2 1).toInt + 1 ∧ (0) = (σ.2 1).toInt) ∨ ((σ1_79.2 0).toInt = 1 ∧ (x1.toInt < 1 ∨ 100 < x1.toInt ∨ x2.toInt < 1 ∨ 200 < x2.toInt ∨ x3.toInt < 0 ∨ 5000 < x3.toInt) ∧ (σ1_79.2 1).toInt = (σ.2 1).toInt) ∨ ((σ1_79.2 0).toInt = 2 ∧ ¬ (x1.toInt < 1 ∨ 100 < x1.toInt ∨ x2.toInt < 1 ∨ 200 < x2.toInt ∨ x3.toInt < 0 ∨ 5000 < x3.toInt) ∧ 8 ≤ (σ.2 1).toInt ∧ (σ1_79.2 1).toInt = (σ.2 1).toInt) by omega))
          · have : ¬ ((σ1_75.2 1) : Int32).toInt = (8) := fun z => h_77 (Int32.toInt_inj.mp z)
            unfold fX10_kind_65
            refine hs_bd (s_fX10_throwsIf (fun j h => ra j (hs_inc (by decide) h)) (fun j h => ri j (hs_inc (by decide) h)) σ1_75 (0 : Int32) (2 : Int32) Iσ1_75 (show 0 ≤ (0) by omega) (show (0) ≤ 1 by omega) (fun σ1_88 v2_87 Iσ1_88 (gv2_87_0 : v2_87.toInt = (0)) (gv2_87_1 : (σ1_88.2 1).toInt = (σ1_75.2 1).toInt) (gv2_87_2 : (σ1_88.2 2).toInt = (σ1_75.2 2).toInt) (gv2_87_3 : (σ1_88.2 3).toInt = (σ1_75.2 3).toInt) (gv2_87_4 : (σ1_88.2 4).toInt = (σ1_75.2 4).toInt) (gv2_87_5 : (σ1_88.2 5).toInt = (σ1_75.2 5).toInt) (gv2_87_6 : (σ1_88.2 6).toInt = (σ1_75.2 6).toInt) (gv2_87_7 : (σ1_88.2 7).toInt = (σ1_75.2 7).toInt) (gv2_87_8 : (σ1_88.2 8).toInt = (σ1_75.2 8).toInt) (gv2_87_9 : (σ1_88.2 9).toInt = (σ1_75.2 9).toInt) (gv2_87_10 : (σ1_88.2 10).toInt = (σ1_75.2 10).toInt) (gv2_87_11 : (σ1_88.2 11).toInt = (σ1_75.2 11).toInt) (gv2_87_12 : ((0) = 0 ∧ (σ1_88.2 0).toInt = (σ1_75.2 0).toInt) ∨ ((0) = 1 ∧ (σ1_88.2 0).toInt = (2))) => ?_))
            have : (-2147483648 : Int) ≤ (σ1_88.2 0).toInt ∧ (σ1_88.2 0).toInt ≤ 2147483647 := Iσ1_88.2.1 0
            have : (0 : Int) ≤ (σ1_88.2 1).toInt ∧ (σ1_88.2 1).toInt ≤ 8 := Iσ1_88.2.1 1
            refine hs_ite (fun h_89 => ?_) (fun h_89 => ?_)
            · have : (v2_87 : Int32).toInt = (0) := congrArg Int32.toInt h_89
              refine hs_pa (idx := (σ1_88.2 1)) (v := _) Iσ1_88 (by omega) (by omega) (hs_any _) (fun r => ⟨hm_Ra (by decide) r.1, ra 0 (by decide) _ _ r.2⟩) (fun σ5_90 eσ5_90 Iσ5_90 => ?_)
              have : (σ5_90.2 0).toInt = (σ1_88.2 0).toInt := by rw [eσ5_90]; rfl
              have : (σ5_90.2 1).toInt = (σ1_88.2 1).toInt := by rw [eσ5_90]; rfl
              have : (-2147483648 : Int) ≤ (σ5_90.2 0).toInt ∧ (σ5_90.2 0).toInt ≤ 2147483647 := Iσ5_90.2.1 0
              have : (0 : Int) ≤ (σ5_90.2 1).toInt ∧ (σ5_90.2 1).toInt ≤ 8 := Iσ5_90.2.1 1
              refine hs_pa (idx := (σ5_90.2 1)) (v := _) Iσ5_90 (by omega) (by omega) (hs_any _) (fun r => ⟨hm_Ra (by decide) r.1, ra 1 (by decide) _ _ r.2⟩) (fun σ8_91 eσ8_91 Iσ8_91 => ?_)
              have : (σ8_91.2 0).toInt = (σ5_90.2 0).toInt := by rw [eσ8_91]; rfl
              have : (σ8_91.2 1).toInt = (σ5_90.2 1).toInt := by rw [eσ8_91]; rfl
              have : (-2147483648 : Int) ≤ (σ8_91.2 0).toInt ∧ (σ8_91.2 0).toInt ≤ 2147483647 := Iσ8_91.2.1 0
              have : (0 : Int) ≤ (σ8_91.2 1).toInt ∧ (σ8_91.2 1).toInt ≤ 8 := Iσ8_91.2.1 1
              refine hs_pa (idx := (σ8_91.2 1)) (v := _) Iσ8_91 (by omega) (by omega) (hs_any _) (fun r => ⟨hm_Ra (by decide) r.1, ra 2 (by decide) _ _ r.2⟩) (fun σ11_92 eσ11_92 Iσ11_92 => ?_)
              have : (σ11_92.2 0).toInt = (σ8_91.2 0).toInt := by rw [eσ11_92]; rfl
              have : (σ11_92.2 1).toInt = (σ8_91.2 1).toInt := by rw [eσ11_92]; rfl
              have : (-2147483648 : Int) ≤ (σ11_92.2 0).toInt ∧ (σ11_92.2 0).toInt ≤ 2147483647 := Iσ11_92.2.1 0
              have : (0 : Int) ≤ (σ11_92.2 1).toInt ∧ (σ11_92.2 1).toInt ≤ 8 := Iσ11_92.2.1 1
              obtain ⟨e_93, he_93⟩ : ∃ e9 : Int32, e9 = ((σ11_92.2 1) + 1) := ⟨_, rfl⟩
              try have : e_93.toInt = ((σ11_92.2 1) : Int32).toInt + (1) := by rw [he_93]; exact hs_addk (1) rfl (by omega) (by omega)
              try rw [← he_93]
              refine hs_pf (v := e_93) Iσ11_92 ⟨(by omega : (0 : Int) ≤ (e_93 : Int32).toInt), (by omega : (e_93 : Int32).toInt ≤ 8)⟩ (fun r => ⟨hm_Ri (by decide) r.1, ri 1 (by decide) _ _ r.2⟩) (fun σ14_94 eσ14_94 Iσ14_94 => ?_)
              have : (σ14_94.2 0).toInt = (σ11_92.2 0).toInt := by rw [eσ14_94]; rfl
              have : (σ14_94.2 1).toInt = (e_93 : Int32).toInt := by rw [eσ14_94]; rfl
              have : (-2147483648 : Int) ≤ (σ14_94.2 0).toInt ∧ (σ14_94.2 0).toInt ≤ 2147483647 := Iσ14_94.2.1 0
              have : (0 : Int) ≤ (σ14_94.2 1).toInt ∧ (σ14_94.2 1).toInt ≤ 8 := Iσ14_94.2.1 1
              obtain ⟨e_95, he_95⟩ : ∃ e9 : Int32, e9 = ((σ14_94.2 1) - 1) := ⟨_, rfl⟩
              try have : e_95.toInt = ((σ14_94.2 1) : Int32).toInt - (1) := by rw [he_95]; exact hs_subk (1) rfl (by omega) (by omega)
              try rw [← he_95]
              exact hs_some (hQ σ14_94 (e_95 : Int32) Iσ14_94 (show ((σ14_94.2 0).toInt = 0 ∧ ¬ (x1.toInt < 1 ∨ 100 < x1.toInt ∨ x2.toInt < 1 ∨ 200 < x2.toInt ∨ x3.toInt < 0 ∨ 5000 < x3.toInt) ∧ (σ.2 1).toInt < 8 ∧ (σ14_94.2 1).toInt = (σ.2 1).toInt + 1 ∧ (e_95 : Int32).toInt = (σ.2 1).toInt) ∨ ((σ14_94.2 0).toInt = 1 ∧ (x1.toInt < 1 ∨ 100 < x1.toInt ∨ x2.toInt < 1 ∨ 200 < x2.toInt ∨ x3.toInt < 0 ∨ 5000 < x3.toInt) ∧ (σ14_94.2 1).toInt = (σ.2 1).toInt) ∨ ((σ14_94.2 0).toInt = 2 ∧ ¬ (x1.toInt < 1 ∨ 100 < x1.toInt ∨ x2.toInt < 1 ∨ 200 < x2.toInt ∨ x3.toInt < 0 ∨ 5000 < x3.toInt) ∧ 8 ≤ (σ.2 1).toInt ∧ (σ14_94.2 1).toInt = (σ.2 1).toInt) by omega))
            · have : ¬ (v2_87 : Int32).toInt = (0) := fun z => h_89 (Int32.toInt_inj.mp z)
              exact hs_some (hQ σ1_88 (0 : Int32) Iσ1_88 (show ((σ1_88.2 0).toInt = 0 ∧ ¬ (x1.toInt < 1 ∨ 100 < x1.toInt ∨ x2.toInt < 1 ∨ 200 < x2.toInt ∨ x3.toInt < 0 ∨ 5000 < x3.toInt) ∧ (σ.2 1).toInt < 8 ∧ (σ1_88.2 1).toInt = (σ.2 1).toInt + 1 ∧ (0) = (σ.2 1).toInt) ∨ ((σ1_88.2 0).toInt = 1 ∧ (x1.toInt < 1 ∨ 100 < x1.toInt ∨ x2.toInt < 1 ∨ 200 < x2.toInt ∨ x3.toInt < 0 ∨ 5000 < x3.toInt) ∧ (σ1_88.2 1).toInt = (σ.2 1).toInt) ∨ ((σ1_88.2 0).toInt = 2 ∧ ¬ (x1.toInt < 1 ∨ 100 < x1.toInt ∨ x2.toInt < 1 ∨ 200 < x2.toInt ∨ x3.toInt < 0 ∨ 5000 < x3.toInt) ∧ 8 ≤ (σ.2 1).toInt ∧ (σ1_88.2 1).toInt = (σ.2 1).toInt) by omega))
        · have : ¬ (v2_74 : Int32).toInt = (0) := fun z => h_76 (Int32.toInt_inj.mp z)
          exact hs_some (hQ σ1_75 (0 : Int32) Iσ1_75 (show ((σ1_75.2 0).toInt = 0 ∧ ¬ (x1.toInt < 1 ∨ 100 < x1.toInt ∨ x2.toInt < 1 ∨ 200 < x2.toInt ∨ x3.toInt < 0 ∨ 5000 < x3.toInt) ∧ (σ.2 1).toInt < 8 ∧ (σ1_75.2 1).toInt = (σ.2 1).toInt + 1 ∧ (0) = (σ.2 1).toInt) ∨ ((σ1_75.2 0).toInt = 1 ∧ (x1.toInt < 1 ∨ 100 < x1.toInt ∨ x2.toInt < 1 ∨ 200 < x2.toInt ∨ x3.toInt < 0 ∨ 5000 < x3.toInt) ∧ (σ1_75.2 1).toInt = (σ.2 1).toInt) ∨ ((σ1_75.2 0).toInt = 2 ∧ ¬ (x1.toInt < 1 ∨ 100 < x1.toInt ∨ x2.toInt < 1 ∨ 200 < x2.toInt ∨ x3.toInt < 0 ∨ 5000 < x3.toInt) ∧ 8 ≤ (σ.2 1).toInt ∧ (σ1_75.2 1).toInt = (σ.2 1).toInt) by omega))
theorem s_fX10_fire {R : hy_S → Prop} (ra : ∀ j, j ∈ ([3, 4, 5, 8] : List Nat) → ∀ (τ : hy_S) (g : Nat → Int32), R τ → R (hy_sc τ j g)) (ri : ∀ j, j ∈ ([0, 2] : List Nat) → ∀ (τ : hy_S) (v : Int32), R τ → R (hy_si τ j v)) (σ : hy_S) (x1 : Int32) (x2 : Int32) (x3 : Int32) {P : hy_S → Int32 → Prop} (I : hm_I R σ) (hQ : ∀ (σ9 : hy_S) (v9 : Int32), hm_I R σ9 → ((σ9.2 0).toInt = 0 ∧ 0 ≤ x1.toInt ∧ x1.toInt < (σ.2 1).toInt ∧ ¬ (x2.toInt < 0 ∨ 15 < x2.toInt ∨ x3.toInt < 1 ∨ 300 < x3.toInt) ∧ (σ.2 2).toInt < 60 ∧ (σ9.2 2).toInt = (σ.2 2).toInt + 1 ∧ v9.toInt = (σ.2 2).toInt) ∨ ((σ9.2 0).toInt = 1 ∧ (x1.toInt < 0 ∨ (σ.2 1).toInt ≤ x1.toInt) ∧ (σ9.2 2).toInt = (σ.2 2).toInt) ∨ ((σ9.2 0).toInt = 2 ∧ 0 ≤ x1.toInt ∧ x1.toInt < (σ.2 1).toInt ∧ (x2.toInt < 0 ∨ 15 < x2.toInt ∨ x3.toInt < 1 ∨ 300 < x3.toInt) ∧ (σ9.2 2).toInt = (σ.2 2).toInt) ∨ ((σ9.2 0).toInt = 3 ∧ 0 ≤ x1.toInt ∧ x1.toInt < (σ.2 1).toInt ∧ ¬ (x2.toInt < 0 ∨ 15 < x2.toInt ∨ x3.toInt < 1 ∨ 300 < x3.toInt) ∧ 60 ≤ (σ.2 2).toInt ∧ (σ9.2 2).toInt = (σ.2 2).toInt) → P σ9 v9) : hs_ok2 (fX10_fire σ x1 x2 x3) P := by
  unfold fX10_fire
  show hs_ok _ _
  have : (-2147483648 : Int) ≤ (σ.2 0).toInt ∧ (σ.2 0).toInt ≤ 2147483647 := I.2.1 0
  have : (0 : Int) ≤ (σ.2 1).toInt ∧ (σ.2 1).toInt ≤ 8 := I.2.1 1
  have : (0 : Int) ≤ (σ.2 2).toInt ∧ (σ.2 2).toInt ≤ 60 := I.2.1 2
  refine hs_pf (v := 0) I (hs_any _) (fun r => ⟨hm_Ri (by decide) r.1, ri 0 (by decide) _ _ r.2⟩) (fun σ1_1 eσ1_1 Iσ1_1 => ?_)
  have : (σ1_1.2 0).toInt = (0) := by rw [eσ1_1]; rfl
  have : (σ1_1.2 1).toInt = (σ.2 1).toInt := by rw [eσ1_1]; rfl
  have : (σ1_1.2 2).toInt = (σ.2 2).toInt := by rw [eσ1_1]; rfl
  have : (-2147483648 : Int) ≤ (σ1_1.2 0).toInt ∧ (σ1_1.2 0).toInt ≤ 2147483647 := Iσ1_1.2.1 0
  have : (0 : Int) ≤ (σ1_1.2 1).toInt ∧ (σ1_1.2 1).toInt ≤ 8 := Iσ1_1.2.1 1
  have : (0 : Int) ≤ (σ1_1.2 2).toInt ∧ (σ1_1.2 2).toInt ≤ 60 := Iσ1_1.2.1 2
  obtain ⟨e_2, he_2⟩ : ∃ e9 : Int32, e9 = ((σ1_1.2 1) - 1) := ⟨_, rfl⟩
  try have : e_2.toInt = ((σ1_1.2 1) : Int32).toInt - (1) := by rw [he_2]; exact hs_subk (1) rfl (by omega) (by omega)
  try rw [← he_2]
  refine hs_bd (s_fX10_in σ1_1 x1 (0 : Int32) e_2 Iσ1_1  (fun v4_3 (gv4_3_0 : (v4_3.toInt = 1 ∧ (0) ≤ (x1 : Int32).toInt ∧ (x1 : Int32).toInt ≤ (e_2 : Int32).toInt) ∨ (v4_3.toInt = 0 ∧ ((x1 : Int32).toInt < (0) ∨ (e_2 : Int32).toInt < (x1 : Int32).toInt))) => ?_))
  refine hs_ite (fun h_4 => ?_) (fun h_4 => ?_)
  · have : (v4_3 : Int32).toInt = (0) := congrArg Int32.toInt h_4
    unfold fX10_fire_25
    refine hs_bd (s_fX10_throwsIf (fun j h => ra j (hs_inc (by decide) h)) (fun j h => ri j (hs_inc (by decide) h)) σ1_1 (1 : Int32) (1 : Int32) Iσ1_1 (show 0 ≤ (1) by omega) (show (1) ≤ 1 by omega) (fun σ1_6 v2_5 Iσ1_6 (gv2_5_0 : v2_5.toInt = (1)) (gv2_5_1 : (σ1_6.2 1).toInt = (σ1_1.2 1).toInt) (gv2_5_2 : (σ1_6.2 2).toInt = (σ1_1.2 2).toInt) (gv2_5_3 : (σ1_6.2 3).toInt = (σ1_1.2 3).toInt) (gv2_5_4 : (σ1_6.2 4).toInt = (σ1_1.2 4).toInt) (gv2_5_5 : (σ1_6.2 5).toInt = (σ1_1.2 5).toInt) (gv2_5_6 : (σ1_6.2 6).toInt = (σ1_1.2 6).toInt) (gv2_5_7 : (σ1_6.2 7).toInt = (σ1_1.2 7).toInt) (gv2_5_8 : (σ1_6.2 8).toInt = (σ1_1.2 8).toInt) (gv2_5_9 : (σ1_6.2 9).toInt = (σ1_1.2 9).toInt) (gv2_5_10 : (σ1_6.2 10).toInt = (σ1_1.2 10).toInt) (gv2_5_11 : (σ1_6.2 11).toInt = (σ1_1.2 11).toInt) (gv2_5_12 : ((1) = 0 ∧ (σ1_6.2 0).toInt = (σ1_1.2 0).toInt) ∨ ((1) = 1 ∧ (σ1_6.2 0).toInt = (1))) => ?_))
    have : (-2147483648 : Int) ≤ (σ1_6.2 0).toInt ∧ (σ1_6.2 0).toInt ≤ 2147483647 := Iσ1_6.2.1 0
    have : (0 : Int) ≤ (σ1_6.2 1).toInt ∧ (σ1_6.2 1).toInt ≤ 8 := Iσ1_6.2.1 1
    have : (0 : Int) ≤ (σ1_6.2 2).toInt ∧ (σ1_6.2 2).toInt ≤ 60 := Iσ1_6.2.1 2
    refine hs_ite (fun h_7 => ?_) (fun h_7 => ?_)
    · have : (v2_5 : Int32).toInt = (0) := congrArg Int32.toInt h_7
      refine hs_bd (s_fX10_in σ1_6 x2 (0 : Int32) (15 : Int32) Iσ1_6  (fun v6_8 (gv6_8_0 : (v6_8.toInt = 1 ∧ (0) ≤ (x2 : Int32).toInt ∧ (x2 : Int32).toInt ≤ (15)) ∨ (v6_8.toInt = 0 ∧ ((x2 : Int32).toInt < (0) ∨ (15) < (x2 : Int32).toInt))) => ?_))
      refine hs_ite (fun h_9 => ?_) (fun h_9 => ?_)
      · have : (v6_8 : Int32).toInt = (0) := congrArg Int32.toInt h_9
        unfold fX10_fire_54
        unfold fX10_fire_59
        refine hs_bd (s_fX10_throwsIf (fun j h => ra j (hs_inc (by decide) h)) (fun j h => ri j (hs_inc (by decide) h)) σ1_6 (1 : Int32) (2 : Int32) Iσ1_6 (show 0 ≤ (1) by omega) (show (1) ≤ 1 by omega) (fun σ1_11 v2_10 Iσ1_11 (gv2_10_0 : v2_10.toInt = (1)) (gv2_10_1 : (σ1_11.2 1).toInt = (σ1_6.2 1).toInt) (gv2_10_2 : (σ1_11.2 2).toInt = (σ1_6.2 2).toInt) (gv2_10_3 : (σ1_11.2 3).toInt = (σ1_6.2 3).toInt) (gv2_10_4 : (σ1_11.2 4).toInt = (σ1_6.2 4).toInt) (gv2_10_5 : (σ1_11.2 5).toInt = (σ1_6.2 5).toInt) (gv2_10_6 : (σ1_11.2 6).toInt = (σ1_6.2 6).toInt) (gv2_10_7 : (σ1_11.2 7).toInt = (σ1_6.2 7).toInt) (gv2_10_8 : (σ1_11.2 8).toInt = (σ1_6.2 8).toInt) (gv2_10_9 : (σ1_11.2 9).toInt = (σ1_6.2 9).toInt) (gv2_10_10 : (σ1_11.2 10).toInt = (σ1_6.2 10).toInt) (gv2_10_11 : (σ1_11.2 11).toInt = (σ1_6.2 11).toInt) (gv2_10_12 : ((1) = 0 ∧ (σ1_11.2 0).toInt = (σ1_6.2 0).toInt) ∨ ((1) = 1 ∧ (σ1_11.2 0).toInt = (2))) => ?_))
        have : (-2147483648 : Int) ≤ (σ1_11.2 0).toInt ∧ (σ1_11.2 0).toInt ≤ 2147483647 := Iσ1_11.2.1 0
        have : (0 : Int) ≤ (σ1_11.2 1).toInt ∧ (σ1_11.2 1).toInt ≤ 8 := Iσ1_11.2.1 1
        have : (0 : Int) ≤ (σ1_11.2 2).toInt ∧ (σ1_11.2 2).toInt ≤ 60 := Iσ1_11.2.1 2
        refine hs_ite (fun h_12 => ?_) (fun h_12 => ?_)
        · have : (v2_10 : Int32).toInt = (0) := congrArg Int32.toInt h_12
          refine hs_ite (fun h_13 => ?_) (fun h_13 => ?_)
          · have : ((σ1_11.2 2) : Int32).toInt = (60) := congrArg Int32.toInt h_13
            unfold fX10_fire_81
            refine hs_bd (s_fX10_throwsIf (fun j h => ra j (hs_inc (by decide) h)) (fun j h => ri j (hs_inc (by decide) h)) σ1_11 (1 : Int32) (3 : Int32) Iσ1_11 (show 0 ≤ (1) by omega) (show (1) ≤ 1 by omega) (fun σ1_15 v2_14 Iσ1_15 (gv2_14_0 : v2_14.toInt = (1)) (gv2_14_1 : (σ1_15.2 1).toInt = (σ1_11.2 1).toInt) (gv2_14_2 : (σ1_15.2 2).toInt = (σ1_11.2 2).toInt) (gv2_14_3 : (σ1_15.2 3).toInt = (σ1_11.2 3).toInt) (gv2_14_4 : (σ1_15.2 4).toInt = (σ1_11.2 4).toInt) (gv2_14_5 : (σ1_15.2 5).toInt = (σ1_11.2 5).toInt) (gv2_14_6 : (σ1_15.2 6).toInt = (σ1_11.2 6).toInt) (gv2_14_7 : (σ1_15.2 7).toInt = (σ1_11.2 7).toInt) (gv2_14_8 : (σ1_15.2 8).toInt = (σ1_11.2 8).toInt) (gv2_14_9 : (σ1_15.2 9).toInt = (σ1_11.2 9).toInt) (gv2_14_10 : (σ1_15.2 10).toInt = (σ1_11.2 10).toInt) (gv2_14_11 : (σ1_15.2 11).toInt = (σ1_11.2 11).toInt) (gv2_14_12 : ((1) = 0 ∧ (σ1_15.2 0).toInt = (σ1_11.2 0).toInt) ∨ ((1) = 1 ∧ (σ1_15.2 0).toInt = (3))) => ?_))
            have : (-2147483648 : Int) ≤ (σ1_15.2 0).toInt ∧ (σ1_15.2 0).toInt ≤ 2147483647 := Iσ1_15.2.1 0
            have : (0 : Int) ≤ (σ1_15.2 1).toInt ∧ (σ1_15.2 1).toInt ≤ 8 := Iσ1_15.2.1 1
            have : (0 : Int) ≤ (σ1_15.2 2).toInt ∧ (σ1_15.2 2).toInt ≤ 60 := Iσ1_15.2.1 2
            refine hs_ite (fun h_16 => ?_) (fun h_16 => ?_)
            · have : (v2_14 : Int32).toInt = (0) := congrArg Int32.toInt h_16
              refine hs_pa (idx := (σ1_15.2 2)) (v := x1) Iσ1_15 (by omega) (by omega) ⟨(by omega : (0 : Int) ≤ (x1 : Int32).toInt), (by omega : (x1 : Int32).toInt ≤ 7)⟩ (fun r => ⟨hm_Ra (by decide) r.1, ra 3 (by decide) _ _ r.2⟩) (fun σ5_17 eσ5_17 Iσ5_17 => ?_)
              have : (σ5_17.2 0).toInt = (σ1_15.2 0).toInt := by rw [eσ5_17]; rfl
              have : (σ5_17.2 1).toInt = (σ1_15.2 1).toInt := by rw [eσ5_17]; rfl
              have : (σ5_17.2 2).toInt = (σ1_15.2 2).toInt := by rw [eσ5_17]; rfl
              have : (-2147483648 : Int) ≤ (σ5_17.2 0).toInt ∧ (σ5_17.2 0).toInt ≤ 2147483647 := Iσ5_17.2.1 0
              have : (0 : Int) ≤ (σ5_17.2 1).toInt ∧ (σ5_17.2 1).toInt ≤ 8 := Iσ5_17.2.1 1
              have : (0 : Int) ≤ (σ5_17.2 2).toInt ∧ (σ5_17.2 2).toInt ≤ 60 := Iσ5_17.2.1 2
              refine hs_pa (idx := (σ5_17.2 2)) (v := _) Iσ5_17 (by omega) (by omega) (hs_any _) (fun r => ⟨hm_Ra (by decide) r.1, ra 4 (by decide) _ _ r.2⟩) (fun σ8_18 eσ8_18 Iσ8_18 => ?_)
              have : (σ8_18.2 0).toInt = (σ5_17.2 0).toInt := by rw [eσ8_18]; rfl
              have : (σ8_18.2 1).toInt = (σ5_17.2 1).toInt := by rw [eσ8_18]; rfl
              have : (σ8_18.2 2).toInt = (σ5_17.2 2).toInt := by rw [eσ8_18]; rfl
              have : (-2147483648 : Int) ≤ (σ8_18.2 0).toInt ∧ (σ8_18.2 0).toInt ≤ 2147483647 := Iσ8_18.2.1 0
              have : (0 : Int) ≤ (σ8_18.2 1).toInt ∧ (σ8_18.2 1).toInt ≤ 8 := Iσ8_18.2.1 1
              have : (0 : Int) ≤ (σ8_18.2 2).toInt ∧ (σ8_18.2 2).toInt ≤ 60 := Iσ8_18.2.1 2
              refine hs_pa (idx := (σ8_18.2 2)) (v := _) Iσ8_18 (by omega) (by omega) (hs_any _) (fun r => ⟨hm_Ra (by decide) r.1, ra 5 (by decide) _ _ r.2⟩) (fun σ11_19 eσ11_19 Iσ11_19 => ?_)
              have : (σ11_19.2 0).toInt = (σ8_18.2 0).toInt := by rw [eσ11_19]; rfl
              have : (σ11_19.2 1).toInt = (σ8_18.2 1).toInt := by rw [eσ11_19]; rfl
              have : (σ11_19.2 2).toInt = (σ8_18.2 2).toInt := by rw [eσ11_19]; rfl
              have : (-2147483648 : Int) ≤ (σ11_19.2 0).toInt ∧ (σ11_19.2 0).toInt ≤ 2147483647 := Iσ11_19.2.1 0
              have : (0 : Int) ≤ (σ11_19.2 1).toInt ∧ (σ11_19.2 1).toInt ≤ 8 := Iσ11_19.2.1 1
              have : (0 : Int) ≤ (σ11_19.2 2).toInt ∧ (σ11_19.2 2).toInt ≤ 60 := Iσ11_19.2.1 2
              refine hs_pa (idx := (σ11_19.2 2)) (v := (-1)) Iσ11_19 (by omega) (by omega) ⟨by decide, by decide⟩ (fun r => ⟨hm_R8 r.1, ra 8 (by decide) _ _ r.2⟩) (fun σ14_20 eσ14_20 Iσ14_20 => ?_)
              have : (σ14_20.2 0).toInt = (σ11_19.2 0).toInt := by rw [eσ14_20]; rfl
              have : (σ14_20.2 1).toInt = (σ11_19.2 1).toInt := by rw [eσ14_20]; rfl
              have : (σ14_20.2 2).toInt = (σ11_19.2 2).toInt := by rw [eσ14_20]; rfl
              have : (-2147483648 : Int) ≤ (σ14_20.2 0).toInt ∧ (σ14_20.2 0).toInt ≤ 2147483647 := Iσ14_20.2.1 0
              have : (0 : Int) ≤ (σ14_20.2 1).toInt ∧ (σ14_20.2 1).toInt ≤ 8 := Iσ14_20.2.1 1
              have : (0 : Int) ≤ (σ14_20.2 2).toInt ∧ (σ14_20.2 2).toInt ≤ 60 := Iσ14_20.2.1 2
              have : (σ14_20.1 8 ((σ11_19.2 2) : Int32).toNatClampNeg).toInt = (-1) := by rw [eσ14_20]; exact hs_same _ _ _ _
              have : (-1 : Int) ≤ (σ14_20.1 8 ((σ11_19.2 2) : Int32).toNatClampNeg).toInt ∧ (σ14_20.1 8 ((σ11_19.2 2) : Int32).toNatClampNeg).toInt ≤ 23 := Iσ14_20.1 8 _
              obtain ⟨e_21, he_21⟩ : ∃ e9 : Int32, e9 = ((σ14_20.2 2) + 1) := ⟨_, rfl⟩
              try have : e_21.toInt = ((σ14_20.2 2) : Int32).toInt + (1) := by rw [he_21]; exact hs_addk (1) rfl (by omega) (by omega)
              try rw [← he_21]
              refine hs_pf (v := e_21) Iσ14_20 ⟨(by omega : (0 : Int) ≤ (e_21 : Int32).toInt), (by omega : (e_21 : Int32).toInt ≤ 60)⟩ (fun r => ⟨hm_R2 (by rw [eσ14_20]; exact hs_sameN _ _) (by omega) (by omega) r.1, ri 2 (by decide) _ _ r.2⟩) (fun σ17_22 eσ17_22 Iσ17_22 => ?_)
              have : (σ17_22.2 0).toInt = (σ14_20.2 0).toInt := by rw [eσ17_22]; rfl
              have : (σ17_22.2 1).toInt = (σ14_20.2 1).toInt := by rw [eσ17_22]; rfl
              have : (σ17_22.2 2).toInt = (e_21 : Int32).toInt := by rw [eσ17_22]; rfl
              have : (-2147483648 : Int) ≤ (σ17_22.2 0).toInt ∧ (σ17_22.2 0).toInt ≤ 2147483647 := Iσ17_22.2.1 0
              have : (0 : Int) ≤ (σ17_22.2 1).toInt ∧ (σ17_22.2 1).toInt ≤ 8 := Iσ17_22.2.1 1
              have : (0 : Int) ≤ (σ17_22.2 2).toInt ∧ (σ17_22.2 2).toInt ≤ 60 := Iσ17_22.2.1 2
              have : (σ17_22.1 8 ((σ11_19.2 2) : Int32).toNatClampNeg).toInt = (σ14_20.1 8 ((σ11_19.2 2) : Int32).toNatClampNeg).toInt := by rw [eσ17_22]; rfl
              have : (-1 : Int) ≤ (σ17_22.1 8 ((σ11_19.2 2) : Int32).toNatClampNeg).toInt ∧ (σ17_22.1 8 ((σ11_19.2 2) : Int32).toNatClampNeg).toInt ≤ 23 := Iσ17_22.1 8 _
              obtain ⟨e_23, he_23⟩ : ∃ e9 : Int32, e9 = ((σ17_22.2 2) - 1) := ⟨_, rfl⟩
              try have : e_23.toInt = ((σ17_22.2 2) : Int32).toInt - (1) := by rw [he_23]; exact hs_subk (1) rfl (by omega) (by omega)
              try rw [← he_23]
              exact hs_some (hQ σ17_22 (e_23 : Int32) Iσ17_22 (show ((σ17_22.2 0).toInt = 0 ∧ 0 ≤ x1.toInt ∧ x1.toInt < (σ.2 1).toInt ∧ ¬ (x2.toInt < 0 ∨ 15 < x2.toInt ∨ x3.toInt < 1 ∨ 300 < x3.toInt) ∧ (σ.2 2).toInt < 60 ∧ (σ17_22.2 2).toInt = (σ.2 2).toInt + 1 ∧ (e_23 : Int32).toInt = (σ.2 2).toInt) ∨ ((σ17_22.2 0).toInt = 1 ∧ (x1.toInt < 0 ∨ (σ.2 1).toInt ≤ x1.toInt) ∧ (σ17_22.2 2).toInt = (σ.2 2).toInt) ∨ ((σ17_22.2 0).toInt = 2 ∧ 0 ≤ x1.toInt ∧ x1.toInt < (σ.2 1).toInt ∧ (x2.toInt < 0 ∨ 15 < x2.toInt ∨ x3.toInt < 1 ∨ 300 < x3.toInt) ∧ (σ17_22.2 2).toInt = (σ.2 2).toInt) ∨ ((σ17_22.2 0).toInt = 3 ∧ 0 ≤ x1.toInt ∧ x1.toInt < (σ.2 1).toInt ∧ ¬ (x2.toInt < 0 ∨ 15 < x2.toInt ∨ x3.toInt < 1 ∨ 300 < x3.toInt) ∧ 60 ≤ (σ.2 2).toInt ∧ (σ17_22.2 2).toInt = (σ.2 2).toInt) by omega))
            · have : ¬ (v2_14 : Int32).toInt = (0) := fun z => h_16 (Int32.toInt_inj.mp z)
              exact hs_some (hQ σ1_15 (0 : Int32) Iσ1_15 (show ((σ1_15.2 0).toInt = 0 ∧ 0 ≤ x1.toInt ∧ x1.toInt < (σ.2 1).toInt ∧ ¬ (x2.toInt < 0 ∨ 15 < x2.toInt ∨ x3.toInt < 1 ∨ 300 < x3.toInt) ∧ (σ.2 2).toInt < 60 ∧ (σ1_15.2 2).toInt = (σ.2 2).toInt + 1 ∧ (0) = (σ.2 2).toInt) ∨ ((σ1_15.2 0).toInt = 1 ∧ (x1.toInt < 0 ∨ (σ.2 1).toInt ≤ x1.toInt) ∧ (σ1_15.2 2).toInt = (σ.2 2).toInt) ∨ ((σ1_15.2 0).toInt = 2 ∧ 0 ≤ x1.toInt ∧ x1.toInt < (σ.2 1).toInt ∧ (x2.toInt < 0 ∨ 15 < x2.toInt ∨ x3.toInt < 1 ∨ 300 < x3.toInt) ∧ (σ1_15.2 2).toInt = (σ.2 2).toInt) ∨ ((σ1_15.2 0).toInt = 3 ∧ 0 ≤ x1.toInt ∧ x1.toInt < (σ.2 1).toInt ∧ ¬ (x2.toInt < 0 ∨ 15 < x2.toInt ∨ x3.toInt < 1 ∨ 300 < x3.toInt) ∧ 60 ≤ (σ.2 2).toInt ∧ (σ1_15.2 2).toInt = (σ.2 2).toInt) by omega))
          · have : ¬ ((σ1_11.2 2) : Int32).toInt = (60) := fun z => h_13 (Int32.toInt_inj.mp z)
            unfold fX10_fire_81
            refine hs_bd (s_fX10_throwsIf (fun j h => ra j (hs_inc (by decide) h)) (fun j h => ri j (hs_inc (by decide) h)) σ1_11 (0 : Int32) (3 : Int32) Iσ1_11 (show 0 ≤ (0) by omega) (show (0) ≤ 1 by omega) (fun σ1_25 v2_24 Iσ1_25 (gv2_24_0 : v2_24.toInt = (0)) (gv2_24_1 : (σ1_25.2 1).toInt = (σ1_11.2 1).toInt) (gv2_24_2 : (σ1_25.2 2).toInt = (σ1_11.2 2).toInt) (gv2_24_3 : (σ1_25.2 3).toInt = (σ1_11.2 3).toInt) (gv2_24_4 : (σ1_25.2 4).toInt = (σ1_11.2 4).toInt) (gv2_24_5 : (σ1_25.2 5).toInt = (σ1_11.2 5).toInt) (gv2_24_6 : (σ1_25.2 6).toInt = (σ1_11.2 6).toInt) (gv2_24_7 : (σ1_25.2 7).toInt = (σ1_11.2 7).toInt) (gv2_24_8 : (σ1_25.2 8).toInt = (σ1_11.2 8).toInt) (gv2_24_9 : (σ1_25.2 9).toInt = (σ1_11.2 9).toInt) (gv2_24_10 : (σ1_25.2 10).toInt = (σ1_11.2 10).toInt) (gv2_24_11 : (σ1_25.2 11).toInt = (σ1_11.2 11).toInt) (gv2_24_12 : ((0) = 0 ∧ (σ1_25.2 0).toInt = (σ1_11.2 0).toInt) ∨ ((0) = 1 ∧ (σ1_25.2 0).toInt = (3))) => ?_))
            have : (-2147483648 : Int) ≤ (σ1_25.2 0).toInt ∧ (σ1_25.2 0).toInt ≤ 2147483647 := Iσ1_25.2.1 0
            have : (0 : Int) ≤ (σ1_25.2 1).toInt ∧ (σ1_25.2 1).toInt ≤ 8 := Iσ1_25.2.1 1
            have : (0 : Int) ≤ (σ1_25.2 2).toInt ∧ (σ1_25.2 2).toInt ≤ 60 := Iσ1_25.2.1 2
            refine hs_ite (fun h_26 => ?_) (fun h_26 => ?_)
            · have : (v2_24 : Int32).toInt = (0) := congrArg Int32.toInt h_26
              refine hs_pa (idx := (σ1_25.2 2)) (v := x1) Iσ1_25 (by omega) (by omega) ⟨(by omega : (0 : Int) ≤ (x1 : Int32).toInt), (by omega : (x1 : Int32).toInt ≤ 7)⟩ (fun r => ⟨hm_Ra (by decide) r.1, ra 3 (by decide) _ _ r.2⟩) (fun σ5_27 eσ5_27 Iσ5_27 => ?_)
              have : (σ5_27.2 0).toInt = (σ1_25.2 0).toInt := by rw [eσ5_27]; rfl
              have : (σ5_27.2 1).toInt = (σ1_25.2 1).toInt := by rw [eσ5_27]; rfl
              have : (σ5_27.2 2).toInt = (σ1_25.2 2).toInt := by rw [eσ5_27]; rfl
              have : (-2147483648 : Int) ≤ (σ5_27.2 0).toInt ∧ (σ5_27.2 0).toInt ≤ 2147483647 := Iσ5_27.2.1 0
              have : (0 : Int) ≤ (σ5_27.2 1).toInt ∧ (σ5_27.2 1).toInt ≤ 8 := Iσ5_27.2.1 1
              have : (0 : Int) ≤ (σ5_27.2 2).toInt ∧ (σ5_27.2 2).toInt ≤ 60 := Iσ5_27.2.1 2
              refine hs_pa (idx := (σ5_27.2 2)) (v := _) Iσ5_27 (by omega) (by omega) (hs_any _) (fun r => ⟨hm_Ra (by decide) r.1, ra 4 (by decide) _ _ r.2⟩) (fun σ8_28 eσ8_28 Iσ8_28 => ?_)
              have : (σ8_28.2 0).toInt = (σ5_27.2 0).toInt := by rw [eσ8_28]; rfl
              have : (σ8_28.2 1).toInt = (σ5_27.2 1).toInt := by rw [eσ8_28]; rfl
              have : (σ8_28.2 2).toInt = (σ5_27.2 2).toInt := by rw [eσ8_28]; rfl
              have : (-2147483648 : Int) ≤ (σ8_28.2 0).toInt ∧ (σ8_28.2 0).toInt ≤ 2147483647 := Iσ8_28.2.1 0
              have : (0 : Int) ≤ (σ8_28.2 1).toInt ∧ (σ8_28.2 1).toInt ≤ 8 := Iσ8_28.2.1 1
              have : (0 : Int) ≤ (σ8_28.2 2).toInt ∧ (σ8_28.2 2).toInt ≤ 60 := Iσ8_28.2.1 2
              refine hs_pa (idx := (σ8_28.2 2)) (v := _) Iσ8_28 (by omega) (by omega) (hs_any _) (fun r => ⟨hm_Ra (by decide) r.1, ra 5 (by decide) _ _ r.2⟩) (fun σ11_29 eσ11_29 Iσ11_29 => ?_)
              have : (σ11_29.2 0).toInt = (σ8_28.2 0).toInt := by rw [eσ11_29]; rfl
              have : (σ11_29.2 1).toInt = (σ8_28.2 1).toInt := by rw [eσ11_29]; rfl
              have : (σ11_29.2 2).toInt = (σ8_28.2 2).toInt := by rw [eσ11_29]; rfl
              have : (-2147483648 : Int) ≤ (σ11_29.2 0).toInt ∧ (σ11_29.2 0).toInt ≤ 2147483647 := Iσ11_29.2.1 0
              have : (0 : Int) ≤ (σ11_29.2 1).toInt ∧ (σ11_29.2 1).toInt ≤ 8 := Iσ11_29.2.1 1
              have : (0 : Int) ≤ (σ11_29.2 2).toInt ∧ (σ11_29.2 2).toInt ≤ 60 := Iσ11_29.2.1 2
              refine hs_pa (idx := (σ11_29.2 2)) (v := (-1)) Iσ11_29 (by omega) (by omega) ⟨by decide, by decide⟩ (fun r => ⟨hm_R8 r.1, ra 8 (by decide) _ _ r.2⟩) (fun σ14_30 eσ14_30 Iσ14_30 => ?_)
              have : (σ14_30.2 0).toInt = (σ11_29.2 0).toInt := by rw [eσ14_30]; rfl
              have : (σ14_30.2 1).toInt = (σ11_29.2 1).toInt := by rw [eσ14_30]; rfl
              have : (σ14_30.2 2).toInt = (σ11_29.2 2).toInt := by rw [eσ14_30]; rfl
              have : (-2147483648 : Int) ≤ (σ14_30.2 0).toInt ∧ (σ14_30.2 0).toInt ≤ 2147483647 := Iσ14_30.2.1 0
              have : (0 : Int) ≤ (σ14_30.2 1).toInt ∧ (σ14_30.2 1).toInt ≤ 8 := Iσ14_30.2.1 1
              have : (0 : Int) ≤ (σ14_30.2 2).toInt ∧ (σ14_30.2 2).toInt ≤ 60 := Iσ14_30.2.1 2
              have : (σ14_30.1 8 ((σ11_29.2 2) : Int32).toNatClampNeg).toInt = (-1) := by rw [eσ14_30]; exact hs_same _ _ _ _
              have : (-1 : Int) ≤ (σ14_30.1 8 ((σ11_29.2 2) : Int32).toNatClampNeg).toInt ∧ (σ14_30.1 8 ((σ11_29.2 2) : Int32).toNatClampNeg).toInt ≤ 23 := Iσ14_30.1 8 _
              obtain ⟨e_31, he_31⟩ : ∃ e9 : Int32, e9 = ((σ14_30.2 2) + 1) := ⟨_, rfl⟩
              try have : e_31.toInt = ((σ14_30.2 2) : Int32).toInt + (1) := by rw [he_31]; exact hs_addk (1) rfl (by omega) (by omega)
              try rw [← he_31]
              refine hs_pf (v := e_31) Iσ14_30 ⟨(by omega : (0 : Int) ≤ (e_31 : Int32).toInt), (by omega : (e_31 : Int32).toInt ≤ 60)⟩ (fun r => ⟨hm_R2 (by rw [eσ14_30]; exact hs_sameN _ _) (by omega) (by omega) r.1, ri 2 (by decide) _ _ r.2⟩) (fun σ17_32 eσ17_32 Iσ17_32 => ?_)
              have : (σ17_32.2 0).toInt = (σ14_30.2 0).toInt := by rw [eσ17_32]; rfl
              have : (σ17_32.2 1).toInt = (σ14_30.2 1).toInt := by rw [eσ17_32]; rfl
              have : (σ17_32.2 2).toInt = (e_31 : Int32).toInt := by rw [eσ17_32]; rfl
              have : (-2147483648 : Int) ≤ (σ17_32.2 0).toInt ∧ (σ17_32.2 0).toInt ≤ 2147483647 := Iσ17_32.2.1 0
              have : (0 : Int) ≤ (σ17_32.2 1).toInt ∧ (σ17_32.2 1).toInt ≤ 8 := Iσ17_32.2.1 1
              have : (0 : Int) ≤ (σ17_32.2 2).toInt ∧ (σ17_32.2 2).toInt ≤ 60 := Iσ17_32.2.1 2
              have : (σ17_32.1 8 ((σ11_29.2 2) : Int32).toNatClampNeg).toInt = (σ14_30.1 8 ((σ11_29.2 2) : Int32).toNatClampNeg).toInt := by rw [eσ17_32]; rfl
              have : (-1 : Int) ≤ (σ17_32.1 8 ((σ11_29.2 2) : Int32).toNatClampNeg).toInt ∧ (σ17_32.1 8 ((σ11_29.2 2) : Int32).toNatClampNeg).toInt ≤ 23 := Iσ17_32.1 8 _
              obtain ⟨e_33, he_33⟩ : ∃ e9 : Int32, e9 = ((σ17_32.2 2) - 1) := ⟨_, rfl⟩
              try have : e_33.toInt = ((σ17_32.2 2) : Int32).toInt - (1) := by rw [he_33]; exact hs_subk (1) rfl (by omega) (by omega)
              try rw [← he_33]
              exact hs_some (hQ σ17_32 (e_33 : Int32) Iσ17_32 (show ((σ17_32.2 0).toInt = 0 ∧ 0 ≤ x1.toInt ∧ x1.toInt < (σ.2 1).toInt ∧ ¬ (x2.toInt < 0 ∨ 15 < x2.toInt ∨ x3.toInt < 1 ∨ 300 < x3.toInt) ∧ (σ.2 2).toInt < 60 ∧ (σ17_32.2 2).toInt = (σ.2 2).toInt + 1 ∧ (e_33 : Int32).toInt = (σ.2 2).toInt) ∨ ((σ17_32.2 0).toInt = 1 ∧ (x1.toInt < 0 ∨ (σ.2 1).toInt ≤ x1.toInt) ∧ (σ17_32.2 2).toInt = (σ.2 2).toInt) ∨ ((σ17_32.2 0).toInt = 2 ∧ 0 ≤ x1.toInt ∧ x1.toInt < (σ.2 1).toInt ∧ (x2.toInt < 0 ∨ 15 < x2.toInt ∨ x3.toInt < 1 ∨ 300 < x3.toInt) ∧ (σ17_32.2 2).toInt = (σ.2 2).toInt) ∨ ((σ17_32.2 0).toInt = 3 ∧ 0 ≤ x1.toInt ∧ x1.toInt < (σ.2 1).toInt ∧ ¬ (x2.toInt < 0 ∨ 15 < x2.toInt ∨ x3.toInt < 1 ∨ 300 < x3.toInt) ∧ 60 ≤ (σ.2 2).toInt ∧ (σ17_32.2 2).toInt = (σ.2 2).toInt) by omega))
            · have : ¬ (v2_24 : Int32).toInt = (0) := fun z => h_26 (Int32.toInt_inj.mp z)
              exact hs_some (hQ σ1_25 (0 : Int32) Iσ1_25 (show ((σ1_25.2 0).toInt = 0 ∧ 0 ≤ x1.toInt ∧ x1.toInt < (σ.2 1).toInt ∧ ¬ (x2.toInt < 0 ∨ 15 < x2.toInt ∨ x3.toInt < 1 ∨ 300 < x3.toInt) ∧ (σ.2 2).toInt < 60 ∧ (σ1_25.2 2).toInt = (σ.2 2).toInt + 1 ∧ (0) = (σ.2 2).toInt) ∨ ((σ1_25.2 0).toInt = 1 ∧ (x1.toInt < 0 ∨ (σ.2 1).toInt ≤ x1.toInt) ∧ (σ1_25.2 2).toInt = (σ.2 2).toInt) ∨ ((σ1_25.2 0).toInt = 2 ∧ 0 ≤ x1.toInt ∧ x1.toInt < (σ.2 1).toInt ∧ (x2.toInt < 0 ∨ 15 < x2.toInt ∨ x3.toInt < 1 ∨ 300 < x3.toInt) ∧ (σ1_25.2 2).toInt = (σ.2 2).toInt) ∨ ((σ1_25.2 0).toInt = 3 ∧ 0 ≤ x1.toInt ∧ x1.toInt < (σ.2 1).toInt ∧ ¬ (x2.toInt < 0 ∨ 15 < x2.toInt ∨ x3.toInt < 1 ∨ 300 < x3.toInt) ∧ 60 ≤ (σ.2 2).toInt ∧ (σ1_25.2 2).toInt = (σ.2 2).toInt) by omega))
        · have : ¬ (v2_10 : Int32).toInt = (0) := fun z => h_12 (Int32.toInt_inj.mp z)
          exact hs_some (hQ σ1_11 (0 : Int32) Iσ1_11 (show ((σ1_11.2 0).toInt = 0 ∧ 0 ≤ x1.toInt ∧ x1.toInt < (σ.2 1).toInt ∧ ¬ (x2.toInt < 0 ∨ 15 < x2.toInt ∨ x3.toInt < 1 ∨ 300 < x3.toInt) ∧ (σ.2 2).toInt < 60 ∧ (σ1_11.2 2).toInt = (σ.2 2).toInt + 1 ∧ (0) = (σ.2 2).toInt) ∨ ((σ1_11.2 0).toInt = 1 ∧ (x1.toInt < 0 ∨ (σ.2 1).toInt ≤ x1.toInt) ∧ (σ1_11.2 2).toInt = (σ.2 2).toInt) ∨ ((σ1_11.2 0).toInt = 2 ∧ 0 ≤ x1.toInt ∧ x1.toInt < (σ.2 1).toInt ∧ (x2.toInt < 0 ∨ 15 < x2.toInt ∨ x3.toInt < 1 ∨ 300 < x3.toInt) ∧ (σ1_11.2 2).toInt = (σ.2 2).toInt) ∨ ((σ1_11.2 0).toInt = 3 ∧ 0 ≤ x1.toInt ∧ x1.toInt < (σ.2 1).toInt ∧ ¬ (x2.toInt < 0 ∨ 15 < x2.toInt ∨ x3.toInt < 1 ∨ 300 < x3.toInt) ∧ 60 ≤ (σ.2 2).toInt ∧ (σ1_11.2 2).toInt = (σ.2 2).toInt) by omega))
      · have : ¬ (v6_8 : Int32).toInt = (0) := fun z => h_9 (Int32.toInt_inj.mp z)
        refine hs_bd (s_fX10_in σ1_6 x3 (1 : Int32) (300 : Int32) Iσ1_6  (fun v10_34 (gv10_34_0 : (v10_34.toInt = 1 ∧ (1) ≤ (x3 : Int32).toInt ∧ (x3 : Int32).toInt ≤ (300)) ∨ (v10_34.toInt = 0 ∧ ((x3 : Int32).toInt < (1) ∨ (300) < (x3 : Int32).toInt))) => ?_))
        refine hs_ite (fun h_35 => ?_) (fun h_35 => ?_)
        · have : (v10_34 : Int32).toInt = (0) := congrArg Int32.toInt h_35
          unfold fX10_fire_54
          unfold fX10_fire_59
          refine hs_bd (s_fX10_throwsIf (fun j h => ra j (hs_inc (by decide) h)) (fun j h => ri j (hs_inc (by decide) h)) σ1_6 (1 : Int32) (2 : Int32) Iσ1_6 (show 0 ≤ (1) by omega) (show (1) ≤ 1 by omega) (fun σ1_37 v2_36 Iσ1_37 (gv2_36_0 : v2_36.toInt = (1)) (gv2_36_1 : (σ1_37.2 1).toInt = (σ1_6.2 1).toInt) (gv2_36_2 : (σ1_37.2 2).toInt = (σ1_6.2 2).toInt) (gv2_36_3 : (σ1_37.2 3).toInt = (σ1_6.2 3).toInt) (gv2_36_4 : (σ1_37.2 4).toInt = (σ1_6.2 4).toInt) (gv2_36_5 : (σ1_37.2 5).toInt = (σ1_6.2 5).toInt) (gv2_36_6 : (σ1_37.2 6).toInt = (σ1_6.2 6).toInt) (gv2_36_7 : (σ1_37.2 7).toInt = (σ1_6.2 7).toInt) (gv2_36_8 : (σ1_37.2 8).toInt = (σ1_6.2 8).toInt) (gv2_36_9 : (σ1_37.2 9).toInt = (σ1_6.2 9).toInt) (gv2_36_10 : (σ1_37.2 10).toInt = (σ1_6.2 10).toInt) (gv2_36_11 : (σ1_37.2 11).toInt = (σ1_6.2 11).toInt) (gv2_36_12 : ((1) = 0 ∧ (σ1_37.2 0).toInt = (σ1_6.2 0).toInt) ∨ ((1) = 1 ∧ (σ1_37.2 0).toInt = (2))) => ?_))
          have : (-2147483648 : Int) ≤ (σ1_37.2 0).toInt ∧ (σ1_37.2 0).toInt ≤ 2147483647 := Iσ1_37.2.1 0
          have : (0 : Int) ≤ (σ1_37.2 1).toInt ∧ (σ1_37.2 1).toInt ≤ 8 := Iσ1_37.2.1 1
          have : (0 : Int) ≤ (σ1_37.2 2).toInt ∧ (σ1_37.2 2).toInt ≤ 60 := Iσ1_37.2.1 2
          refine hs_ite (fun h_38 => ?_) (fun h_38 => ?_)
          · have : (v2_36 : Int32).toInt = (0) := congrArg Int32.toInt h_38
            refine hs_ite (fun h_39 => ?_) (fun h_39 => ?_)
            · have : ((σ1_37.2 2) : Int32).toInt = (60) := congrArg Int32.toInt h_39
              unfold fX10_fire_81
              refine hs_bd (s_fX10_throwsIf (fun j h => ra j (hs_inc (by decide) h)) (fun j h => ri j (hs_inc (by decide) h)) σ1_37 (1 : Int32) (3 : Int32) Iσ1_37 (show 0 ≤ (1) by omega) (show (1) ≤ 1 by omega) (fun σ1_41 v2_40 Iσ1_41 (gv2_40_0 : v2_40.toInt = (1)) (gv2_40_1 : (σ1_41.2 1).toInt = (σ1_37.2 1).toInt) (gv2_40_2 : (σ1_41.2 2).toInt = (σ1_37.2 2).toInt) (gv2_40_3 : (σ1_41.2 3).toInt = (σ1_37.2 3).toInt) (gv2_40_4 : (σ1_41.2 4).toInt = (σ1_37.2 4).toInt) (gv2_40_5 : (σ1_41.2 5).toInt = (σ1_37.2 5).toInt) (gv2_40_6 : (σ1_41.2 6).toInt = (σ1_37.2 6).toInt) (gv2_40_7 : (σ1_41.2 7).toInt = (σ1_37.2 7).toInt) (gv2_40_8 : (σ1_41.2 8).toInt = (σ1_37.2 8).toInt) (gv2_40_9 : (σ1_41.2 9).toInt = (σ1_37.2 9).toInt) (gv2_40_10 : (σ1_41.2 10).toInt = (σ1_37.2 10).toInt) (gv2_40_11 : (σ1_41.2 11).toInt = (σ1_37.2 11).toInt) (gv2_40_12 : ((1) = 0 ∧ (σ1_41.2 0).toInt = (σ1_37.2 0).toInt) ∨ ((1) = 1 ∧ (σ1_41.2 0).toInt = (3))) => ?_))
              have : (-2147483648 : Int) ≤ (σ1_41.2 0).toInt ∧ (σ1_41.2 0).toInt ≤ 2147483647 := Iσ1_41.2.1 0
              have : (0 : Int) ≤ (σ1_41.2 1).toInt ∧ (σ1_41.2 1).toInt ≤ 8 := Iσ1_41.2.1 1
              have : (0 : Int) ≤ (σ1_41.2 2).toInt ∧ (σ1_41.2 2).toInt ≤ 60 := Iσ1_41.2.1 2
              refine hs_ite (fun h_42 => ?_) (fun h_42 => ?_)
              · have : (v2_40 : Int32).toInt = (0) := congrArg Int32.toInt h_42
                refine hs_pa (idx := (σ1_41.2 2)) (v := x1) Iσ1_41 (by omega) (by omega) ⟨(by omega : (0 : Int) ≤ (x1 : Int32).toInt), (by omega : (x1 : Int32).toInt ≤ 7)⟩ (fun r => ⟨hm_Ra (by decide) r.1, ra 3 (by decide) _ _ r.2⟩) (fun σ5_43 eσ5_43 Iσ5_43 => ?_)
                have : (σ5_43.2 0).toInt = (σ1_41.2 0).toInt := by rw [eσ5_43]; rfl
                have : (σ5_43.2 1).toInt = (σ1_41.2 1).toInt := by rw [eσ5_43]; rfl
                have : (σ5_43.2 2).toInt = (σ1_41.2 2).toInt := by rw [eσ5_43]; rfl
                have : (-2147483648 : Int) ≤ (σ5_43.2 0).toInt ∧ (σ5_43.2 0).toInt ≤ 2147483647 := Iσ5_43.2.1 0
                have : (0 : Int) ≤ (σ5_43.2 1).toInt ∧ (σ5_43.2 1).toInt ≤ 8 := Iσ5_43.2.1 1
                have : (0 : Int) ≤ (σ5_43.2 2).toInt ∧ (σ5_43.2 2).toInt ≤ 60 := Iσ5_43.2.1 2
                refine hs_pa (idx := (σ5_43.2 2)) (v := _) Iσ5_43 (by omega) (by omega) (hs_any _) (fun r => ⟨hm_Ra (by decide) r.1, ra 4 (by decide) _ _ r.2⟩) (fun σ8_44 eσ8_44 Iσ8_44 => ?_)
                have : (σ8_44.2 0).toInt = (σ5_43.2 0).toInt := by rw [eσ8_44]; rfl
                have : (σ8_44.2 1).toInt = (σ5_43.2 1).toInt := by rw [eσ8_44]; rfl
                have : (σ8_44.2 2).toInt = (σ5_43.2 2).toInt := by rw [eσ8_44]; rfl
                have : (-2147483648 : Int) ≤ (σ8_44.2 0).toInt ∧ (σ8_44.2 0).toInt ≤ 2147483647 := Iσ8_44.2.1 0
                have : (0 : Int) ≤ (σ8_44.2 1).toInt ∧ (σ8_44.2 1).toInt ≤ 8 := Iσ8_44.2.1 1
                have : (0 : Int) ≤ (σ8_44.2 2).toInt ∧ (σ8_44.2 2).toInt ≤ 60 := Iσ8_44.2.1 2
                refine hs_pa (idx := (σ8_44.2 2)) (v := _) Iσ8_44 (by omega) (by omega) (hs_any _) (fun r => ⟨hm_Ra (by decide) r.1, ra 5 (by decide) _ _ r.2⟩) (fun σ11_45 eσ11_45 Iσ11_45 => ?_)
                have : (σ11_45.2 0).toInt = (σ8_44.2 0).toInt := by rw [eσ11_45]; rfl
                have : (σ11_45.2 1).toInt = (σ8_44.2 1).toInt := by rw [eσ11_45]; rfl
                have : (σ11_45.2 2).toInt = (σ8_44.2 2).toInt := by rw [eσ11_45]; rfl
                have : (-2147483648 : Int) ≤ (σ11_45.2 0).toInt ∧ (σ11_45.2 0).toInt ≤ 2147483647 := Iσ11_45.2.1 0
                have : (0 : Int) ≤ (σ11_45.2 1).toInt ∧ (σ11_45.2 1).toInt ≤ 8 := Iσ11_45.2.1 1
                have : (0 : Int) ≤ (σ11_45.2 2).toInt ∧ (σ11_45.2 2).toInt ≤ 60 := Iσ11_45.2.1 2
                refine hs_pa (idx := (σ11_45.2 2)) (v := (-1)) Iσ11_45 (by omega) (by omega) ⟨by decide, by decide⟩ (fun r => ⟨hm_R8 r.1, ra 8 (by decide) _ _ r.2⟩) (fun σ14_46 eσ14_46 Iσ14_46 => ?_)
                have : (σ14_46.2 0).toInt = (σ11_45.2 0).toInt := by rw [eσ14_46]; rfl
                have : (σ14_46.2 1).toInt = (σ11_45.2 1).toInt := by rw [eσ14_46]; rfl
                have : (σ14_46.2 2).toInt = (σ11_45.2 2).toInt := by rw [eσ14_46]; rfl
                have : (-2147483648 : Int) ≤ (σ14_46.2 0).toInt ∧ (σ14_46.2 0).toInt ≤ 2147483647 := Iσ14_46.2.1 0
                have : (0 : Int) ≤ (σ14_46.2 1).toInt ∧ (σ14_46.2 1).toInt ≤ 8 := Iσ14_46.2.1 1
                have : (0 : Int) ≤ (σ14_46.2 2).toInt ∧ (σ14_46.2 2).toInt ≤ 60 := Iσ14_46.2.1 2
                have : (σ14_46.1 8 ((σ11_45.2 2) : Int32).toNatClampNeg).toInt = (-1) := by rw [eσ14_46]; exact hs_same _ _ _ _
                have : (-1 : Int) ≤ (σ14_46.1 8 ((σ11_45.2 2) : Int32).toNatClampNeg).toInt ∧ (σ14_46.1 8 ((σ11_45.2 2) : Int32).toNatClampNeg).toInt ≤ 23 := Iσ14_46.1 8 _
                obtain ⟨e_47, he_47⟩ : ∃ e9 : Int32, e9 = ((σ14_46.2 2) + 1) := ⟨_, rfl⟩
                try have : e_47.toInt = ((σ14_46.2 2) : Int32).toInt + (1) := by rw [he_47]; exact hs_addk (1) rfl (by omega) (by omega)
                try rw [← he_47]
                refine hs_pf (v := e_47) Iσ14_46 ⟨(by omega : (0 : Int) ≤ (e_47 : Int32).toInt), (by omega : (e_47 : Int32).toInt ≤ 60)⟩ (fun r => ⟨hm_R2 (by rw [eσ14_46]; exact hs_sameN _ _) (by omega) (by omega) r.1, ri 2 (by decide) _ _ r.2⟩) (fun σ17_48 eσ17_48 Iσ17_48 => ?_)
                have : (σ17_48.2 0).toInt = (σ14_46.2 0).toInt := by rw [eσ17_48]; rfl
                have : (σ17_48.2 1).toInt = (σ14_46.2 1).toInt := by rw [eσ17_48]; rfl
                have : (σ17_48.2 2).toInt = (e_47 : Int32).toInt := by rw [eσ17_48]; rfl
                have : (-2147483648 : Int) ≤ (σ17_48.2 0).toInt ∧ (σ17_48.2 0).toInt ≤ 2147483647 := Iσ17_48.2.1 0
                have : (0 : Int) ≤ (σ17_48.2 1).toInt ∧ (σ17_48.2 1).toInt ≤ 8 := Iσ17_48.2.1 1
                have : (0 : Int) ≤ (σ17_48.2 2).toInt ∧ (σ17_48.2 2).toInt ≤ 60 := Iσ17_48.2.1 2
                have : (σ17_48.1 8 ((σ11_45.2 2) : Int32).toNatClampNeg).toInt = (σ14_46.1 8 ((σ11_45.2 2) : Int32).toNatClampNeg).toInt := by rw [eσ17_48]; rfl
                have : (-1 : Int) ≤ (σ17_48.1 8 ((σ11_45.2 2) : Int32).toNatClampNeg).toInt ∧ (σ17_48.1 8 ((σ11_45.2 2) : Int32).toNatClampNeg).toInt ≤ 23 := Iσ17_48.1 8 _
                obtain ⟨e_49, he_49⟩ : ∃ e9 : Int32, e9 = ((σ17_48.2 2) - 1) := ⟨_, rfl⟩
                try have : e_49.toInt = ((σ17_48.2 2) : Int32).toInt - (1) := by rw [he_49]; exact hs_subk (1) rfl (by omega) (by omega)
                try rw [← he_49]
                exact hs_some (hQ σ17_48 (e_49 : Int32) Iσ17_48 (show ((σ17_48.2 0).toInt = 0 ∧ 0 ≤ x1.toInt ∧ x1.toInt < (σ.2 1).toInt ∧ ¬ (x2.toInt < 0 ∨ 15 < x2.toInt ∨ x3.toInt < 1 ∨ 300 < x3.toInt) ∧ (σ.2 2).toInt < 60 ∧ (σ17_48.2 2).toInt = (σ.2 2).toInt + 1 ∧ (e_49 : Int32).toInt = (σ.2 2).toInt) ∨ ((σ17_48.2 0).toInt = 1 ∧ (x1.toInt < 0 ∨ (σ.2 1).toInt ≤ x1.toInt) ∧ (σ17_48.2 2).toInt = (σ.2 2).toInt) ∨ ((σ17_48.2 0).toInt = 2 ∧ 0 ≤ x1.toInt ∧ x1.toInt < (σ.2 1).toInt ∧ (x2.toInt < 0 ∨ 15 < x2.toInt ∨ x3.toInt < 1 ∨ 300 < x3.toInt) ∧ (σ17_48.2 2).toInt = (σ.2 2).toInt) ∨ ((σ17_48.2 0).toInt = 3 ∧ 0 ≤ x1.toInt ∧ x1.toInt < (σ.2 1).toInt ∧ ¬ (x2.toInt < 0 ∨ 15 < x2.toInt ∨ x3.toInt < 1 ∨ 300 < x3.toInt) ∧ 60 ≤ (σ.2 2).toInt ∧ (σ17_48.2 2).toInt = (σ.2 2).toInt) by omega))
              · have : ¬ (v2_40 : Int32).toInt = (0) := fun z => h_42 (Int32.toInt_inj.mp z)
                exact hs_some (hQ σ1_41 (0 : Int32) Iσ1_41 (show ((σ1_41.2 0).toInt = 0 ∧ 0 ≤ x1.toInt ∧ x1.toInt < (σ.2 1).toInt ∧ ¬ (x2.toInt < 0 ∨ 15 < x2.toInt ∨ x3.toInt < 1 ∨ 300 < x3.toInt) ∧ (σ.2 2).toInt < 60 ∧ (σ1_41.2 2).toInt = (σ.2 2).toInt + 1 ∧ (0) = (σ.2 2).toInt) ∨ ((σ1_41.2 0).toInt = 1 ∧ (x1.toInt < 0 ∨ (σ.2 1).toInt ≤ x1.toInt) ∧ (σ1_41.2 2).toInt = (σ.2 2).toInt) ∨ ((σ1_41.2 0).toInt = 2 ∧ 0 ≤ x1.toInt ∧ x1.toInt < (σ.2 1).toInt ∧ (x2.toInt < 0 ∨ 15 < x2.toInt ∨ x3.toInt < 1 ∨ 300 < x3.toInt) ∧ (σ1_41.2 2).toInt = (σ.2 2).toInt) ∨ ((σ1_41.2 0).toInt = 3 ∧ 0 ≤ x1.toInt ∧ x1.toInt < (σ.2 1).toInt ∧ ¬ (x2.toInt < 0 ∨ 15 < x2.toInt ∨ x3.toInt < 1 ∨ 300 < x3.toInt) ∧ 60 ≤ (σ.2 2).toInt ∧ (σ1_41.2 2).toInt = (σ.2 2).toInt) by omega))
            · have : ¬ ((σ1_37.2 2) : Int32).toInt = (60) := fun z => h_39 (Int32.toInt_inj.mp z)
              unfold fX10_fire_81
              refine hs_bd (s_fX10_throwsIf (fun j h => ra j (hs_inc (by decide) h)) (fun j h => ri j (hs_inc (by decide) h)) σ1_37 (0 : Int32) (3 : Int32) Iσ1_37 (show 0 ≤ (0) by omega) (show (0) ≤ 1 by omega) (fun σ1_51 v2_50 Iσ1_51 (gv2_50_0 : v2_50.toInt = (0)) (gv2_50_1 : (σ1_51.2 1).toInt = (σ1_37.2 1).toInt) (gv2_50_2 : (σ1_51.2 2).toInt = (σ1_37.2 2).toInt) (gv2_50_3 : (σ1_51.2 3).toInt = (σ1_37.2 3).toInt) (gv2_50_4 : (σ1_51.2 4).toInt = (σ1_37.2 4).toInt) (gv2_50_5 : (σ1_51.2 5).toInt = (σ1_37.2 5).toInt) (gv2_50_6 : (σ1_51.2 6).toInt = (σ1_37.2 6).toInt) (gv2_50_7 : (σ1_51.2 7).toInt = (σ1_37.2 7).toInt) (gv2_50_8 : (σ1_51.2 8).toInt = (σ1_37.2 8).toInt) (gv2_50_9 : (σ1_51.2 9).toInt = (σ1_37.2 9).toInt) (gv2_50_10 : (σ1_51.2 10).toInt = (σ1_37.2 10).toInt) (gv2_50_11 : (σ1_51.2 11).toInt = (σ1_37.2 11).toInt) (gv2_50_12 : ((0) = 0 ∧ (σ1_51.2 0).toInt = (σ1_37.2 0).toInt) ∨ ((0) = 1 ∧ (σ1_51.2 0).toInt = (3))) => ?_))
              have : (-2147483648 : Int) ≤ (σ1_51.2 0).toInt ∧ (σ1_51.2 0).toInt ≤ 2147483647 := Iσ1_51.2.1 0
              have : (0 : Int) ≤ (σ1_51.2 1).toInt ∧ (σ1_51.2 1).toInt ≤ 8 := Iσ1_51.2.1 1
              have : (0 : Int) ≤ (σ1_51.2 2).toInt ∧ (σ1_51.2 2).toInt ≤ 60 := Iσ1_51.2.1 2
              refine hs_ite (fun h_52 => ?_) (fun h_52 => ?_)
              · have : (v2_50 : Int32).toInt = (0) := congrArg Int32.toInt h_52
                refine hs_pa (idx := (σ1_51.2 2)) (v := x1) Iσ1_51 (by omega) (by omega) ⟨(by omega : (0 : Int) ≤ (x1 : Int32).toInt), (by omega : (x1 : Int32).toInt ≤ 7)⟩ (fun r => ⟨hm_Ra (by decide) r.1, ra 3 (by decide) _ _ r.2⟩) (fun σ5_53 eσ5_53 Iσ5_53 => ?_)
                have : (σ5_53.2 0).toInt = (σ1_51.2 0).toInt := by rw [eσ5_53]; rfl
                have : (σ5_53.2 1).toInt = (σ1_51.2 1).toInt := by rw [eσ5_53]; rfl
                have : (σ5_53.2 2).toInt = (σ1_51.2 2).toInt := by rw [eσ5_53]; rfl
                have : (-2147483648 : Int) ≤ (σ5_53.2 0).toInt ∧ (σ5_53.2 0).toInt ≤ 2147483647 := Iσ5_53.2.1 0
                have : (0 : Int) ≤ (σ5_53.2 1).toInt ∧ (σ5_53.2 1).toInt ≤ 8 := Iσ5_53.2.1 1
                have : (0 : Int) ≤ (σ5_53.2 2).toInt ∧ (σ5_53.2 2).toInt ≤ 60 := Iσ5_53.2.1 2
                refine hs_pa (idx := (σ5_53.2 2)) (v := _) Iσ5_53 (by omega) (by omega) (hs_any _) (fun r => ⟨hm_Ra (by decide) r.1, ra 4 (by decide) _ _ r.2⟩) (fun σ8_54 eσ8_54 Iσ8_54 => ?_)
                have : (σ8_54.2 0).toInt = (σ5_53.2 0).toInt := by rw [eσ8_54]; rfl
                have : (σ8_54.2 1).toInt = (σ5_53.2 1).toInt := by rw [eσ8_54]; rfl
                have : (σ8_54.2 2).toInt = (σ5_53.2 2).toInt := by rw [eσ8_54]; rfl
                have : (-2147483648 : Int) ≤ (σ8_54.2 0).toInt ∧ (σ8_54.2 0).toInt ≤ 2147483647 := Iσ8_54.2.1 0
                have : (0 : Int) ≤ (σ8_54.2 1).toInt ∧ (σ8_54.2 1).toInt ≤ 8 := Iσ8_54.2.1 1
                have : (0 : Int) ≤ (σ8_54.2 2).toInt ∧ (σ8_54.2 2).toInt ≤ 60 := Iσ8_54.2.1 2
                refine hs_pa (idx := (σ8_54.2 2)) (v := _) Iσ8_54 (by omega) (by omega) (hs_any _) (fun r => ⟨hm_Ra (by decide) r.1, ra 5 (by decide) _ _ r.2⟩) (fun σ11_55 eσ11_55 Iσ11_55 => ?_)
                have : (σ11_55.2 0).toInt = (σ8_54.2 0).toInt := by rw [eσ11_55]; rfl
                have : (σ11_55.2 1).toInt = (σ8_54.2 1).toInt := by rw [eσ11_55]; rfl
                have : (σ11_55.2 2).toInt = (σ8_54.2 2).toInt := by rw [eσ11_55]; rfl
                have : (-2147483648 : Int) ≤ (σ11_55.2 0).toInt ∧ (σ11_55.2 0).toInt ≤ 2147483647 := Iσ11_55.2.1 0
                have : (0 : Int) ≤ (σ11_55.2 1).toInt ∧ (σ11_55.2 1).toInt ≤ 8 := Iσ11_55.2.1 1
                have : (0 : Int) ≤ (σ11_55.2 2).toInt ∧ (σ11_55.2 2).toInt ≤ 60 := Iσ11_55.2.1 2
                refine hs_pa (idx := (σ11_55.2 2)) (v := (-1)) Iσ11_55 (by omega) (by omega) ⟨by decide, by decide⟩ (fun r => ⟨hm_R8 r.1, ra 8 (by decide) _ _ r.2⟩) (fun σ14_56 eσ14_56 Iσ14_56 => ?_)
                have : (σ14_56.2 0).toInt = (σ11_55.2 0).toInt := by rw [eσ14_56]; rfl
                have : (σ14_56.2 1).toInt = (σ11_55.2 1).toInt := by rw [eσ14_56]; rfl
                have : (σ14_56.2 2).toInt = (σ11_55.2 2).toInt := by rw [eσ14_56]; rfl
                have : (-2147483648 : Int) ≤ (σ14_56.2 0).toInt ∧ (σ14_56.2 0).toInt ≤ 2147483647 := Iσ14_56.2.1 0
                have : (0 : Int) ≤ (σ14_56.2 1).toInt ∧ (σ14_56.2 1).toInt ≤ 8 := Iσ14_56.2.1 1
                have : (0 : Int) ≤ (σ14_56.2 2).toInt ∧ (σ14_56.2 2).toInt ≤ 60 := Iσ14_56.2.1 2
                have : (σ14_56.1 8 ((σ11_55.2 2) : Int32).toNatClampNeg).toInt = (-1) := by rw [eσ14_56]; exact hs_same _ _ _ _
                have : (-1 : Int) ≤ (σ14_56.1 8 ((σ11_55.2 2) : Int32).toNatClampNeg).toInt ∧ (σ14_56.1 8 ((σ11_55.2 2) : Int32).toNatClampNeg).toInt ≤ 23 := Iσ14_56.1 8 _
                obtain ⟨e_57, he_57⟩ : ∃ e9 : Int32, e9 = ((σ14_56.2 2) + 1) := ⟨_, rfl⟩
                try have : e_57.toInt = ((σ14_56.2 2) : Int32).toInt + (1) := by rw [he_57]; exact hs_addk (1) rfl (by omega) (by omega)
                try rw [← he_57]
                refine hs_pf (v := e_57) Iσ14_56 ⟨(by omega : (0 : Int) ≤ (e_57 : Int32).toInt), (by omega : (e_57 : Int32).toInt ≤ 60)⟩ (fun r => ⟨hm_R2 (by rw [eσ14_56]; exact hs_sameN _ _) (by omega) (by omega) r.1, ri 2 (by decide) _ _ r.2⟩) (fun σ17_58 eσ17_58 Iσ17_58 => ?_)
                have : (σ17_58.2 0).toInt = (σ14_56.2 0).toInt := by rw [eσ17_58]; rfl
                have : (σ17_58.2 1).toInt = (σ14_56.2 1).toInt := by rw [eσ17_58]; rfl
                have : (σ17_58.2 2).toInt = (e_57 : Int32).toInt := by rw [eσ17_58]; rfl
                have : (-2147483648 : Int) ≤ (σ17_58.2 0).toInt ∧ (σ17_58.2 0).toInt ≤ 2147483647 := Iσ17_58.2.1 0
                have : (0 : Int) ≤ (σ17_58.2 1).toInt ∧ (σ17_58.2 1).toInt ≤ 8 := Iσ17_58.2.1 1
                have : (0 : Int) ≤ (σ17_58.2 2).toInt ∧ (σ17_58.2 2).toInt ≤ 60 := Iσ17_58.2.1 2
                have : (σ17_58.1 8 ((σ11_55.2 2) : Int32).toNatClampNeg).toInt = (σ14_56.1 8 ((σ11_55.2 2) : Int32).toNatClampNeg).toInt := by rw [eσ17_58]; rfl
                have : (-1 : Int) ≤ (σ17_58.1 8 ((σ11_55.2 2) : Int32).toNatClampNeg).toInt ∧ (σ17_58.1 8 ((σ11_55.2 2) : Int32).toNatClampNeg).toInt ≤ 23 := Iσ17_58.1 8 _
                obtain ⟨e_59, he_59⟩ : ∃ e9 : Int32, e9 = ((σ17_58.2 2) - 1) := ⟨_, rfl⟩
                try have : e_59.toInt = ((σ17_58.2 2) : Int32).toInt - (1) := by rw [he_59]; exact hs_subk (1) rfl (by omega) (by omega)
                try rw [← he_59]
                exact hs_some (hQ σ17_58 (e_59 : Int32) Iσ17_58 (show ((σ17_58.2 0).toInt = 0 ∧ 0 ≤ x1.toInt ∧ x1.toInt < (σ.2 1).toInt ∧ ¬ (x2.toInt < 0 ∨ 15 < x2.toInt ∨ x3.toInt < 1 ∨ 300 < x3.toInt) ∧ (σ.2 2).toInt < 60 ∧ (σ17_58.2 2).toInt = (σ.2 2).toInt + 1 ∧ (e_59 : Int32).toInt = (σ.2 2).toInt) ∨ ((σ17_58.2 0).toInt = 1 ∧ (x1.toInt < 0 ∨ (σ.2 1).toInt ≤ x1.toInt) ∧ (σ17_58.2 2).toInt = (σ.2 2).toInt) ∨ ((σ17_58.2 0).toInt = 2 ∧ 0 ≤ x1.toInt ∧ x1.toInt < (σ.2 1).toInt ∧ (x2.toInt < 0 ∨ 15 < x2.toInt ∨ x3.toInt < 1 ∨ 300 < x3.toInt) ∧ (σ17_58.2 2).toInt = (σ.2 2).toInt) ∨ ((σ17_58.2 0).toInt = 3 ∧ 0 ≤ x1.toInt ∧ x1.toInt < (σ.2 1).toInt ∧ ¬ (x2.toInt < 0 ∨ 15 < x2.toInt ∨ x3.toInt < 1 ∨ 300 < x3.toInt) ∧ 60 ≤ (σ.2 2).toInt ∧ (σ17_58.2 2).toInt = (σ.2 2).toInt) by omega))
              · have : ¬ (v2_50 : Int32).toInt = (0) := fun z => h_52 (Int32.toInt_inj.mp z)
                exact hs_some (hQ σ1_51 (0 : Int32) Iσ1_51 (show ((σ1_51.2 0).toInt = 0 ∧ 0 ≤ x1.toInt ∧ x1.toInt < (σ.2 1).toInt ∧ ¬ (x2.toInt < 0 ∨ 15 < x2.toInt ∨ x3.toInt < 1 ∨ 300 < x3.toInt) ∧ (σ.2 2).toInt < 60 ∧ (σ1_51.2 2).toInt = (σ.2 2).toInt + 1 ∧ (0) = (σ.2 2).toInt) ∨ ((σ1_51.2 0).toInt = 1 ∧ (x1.toInt < 0 ∨ (σ.2 1).toInt ≤ x1.toInt) ∧ (σ1_51.2 2).toInt = (σ.2 2).toInt) ∨ ((σ1_51.2 0).toInt = 2 ∧ 0 ≤ x1.toInt ∧ x1.toInt < (σ.2 1).toInt ∧ (x2.toInt < 0 ∨ 15 < x2.toInt ∨ x3.toInt < 1 ∨ 300 < x3.toInt) ∧ (σ1_51.2 2).toInt = (σ.2 2).toInt) ∨ ((σ1_51.2 0).toInt = 3 ∧ 0 ≤ x1.toInt ∧ x1.toInt < (σ.2 1).toInt ∧ ¬ (x2.toInt < 0 ∨ 15 < x2.toInt ∨ x3.toInt < 1 ∨ 300 < x3.toInt) ∧ 60 ≤ (σ.2 2).toInt ∧ (σ1_51.2 2).toInt = (σ.2 2).toInt) by omega))
          · have : ¬ (v2_36 : Int32).toInt = (0) := fun z => h_38 (Int32.toInt_inj.mp z)
            exact hs_some (hQ σ1_37 (0 : Int32) Iσ1_37 (show ((σ1_37.2 0).toInt = 0 ∧ 0 ≤ x1.toInt ∧ x1.toInt < (σ.2 1).toInt ∧ ¬ (x2.toInt < 0 ∨ 15 < x2.toInt ∨ x3.toInt < 1 ∨ 300 < x3.toInt) ∧ (σ.2 2).toInt < 60 ∧ (σ1_37.2 2).toInt = (σ.2 2).toInt + 1 ∧ (0) = (σ.2 2).toInt) ∨ ((σ1_37.2 0).toInt = 1 ∧ (x1.toInt < 0 ∨ (σ.2 1).toInt ≤ x1.toInt) ∧ (σ1_37.2 2).toInt = (σ.2 2).toInt) ∨ ((σ1_37.2 0).toInt = 2 ∧ 0 ≤ x1.toInt ∧ x1.toInt < (σ.2 1).toInt ∧ (x2.toInt < 0 ∨ 15 < x2.toInt ∨ x3.toInt < 1 ∨ 300 < x3.toInt) ∧ (σ1_37.2 2).toInt = (σ.2 2).toInt) ∨ ((σ1_37.2 0).toInt = 3 ∧ 0 ≤ x1.toInt ∧ x1.toInt < (σ.2 1).toInt ∧ ¬ (x2.toInt < 0 ∨ 15 < x2.toInt ∨ x3.toInt < 1 ∨ 300 < x3.toInt) ∧ 60 ≤ (σ.2 2).toInt ∧ (σ1_37.2 2).toInt = (σ.2 2).toInt) by omega))
        · have : ¬ (v10_34 : Int32).toInt = (0) := fun z => h_35 (Int32.toInt_inj.mp z)
          unfold fX10_fire_59
          refine hs_bd (s_fX10_throwsIf (fun j h => ra j (hs_inc (by decide) h)) (fun j h => ri j (hs_inc (by decide) h)) σ1_6 (0 : Int32) (2 : Int32) Iσ1_6 (show 0 ≤ (0) by omega) (show (0) ≤ 1 by omega) (fun σ1_61 v2_60 Iσ1_61 (gv2_60_0 : v2_60.toInt = (0)) (gv2_60_1 : (σ1_61.2 1).toInt = (σ1_6.2 1).toInt) (gv2_60_2 : (σ1_61.2 2).toInt = (σ1_6.2 2).toInt) (gv2_60_3 : (σ1_61.2 3).toInt = (σ1_6.2 3).toInt) (gv2_60_4 : (σ1_61.2 4).toInt = (σ1_6.2 4).toInt) (gv2_60_5 : (σ1_61.2 5).toInt = (σ1_6.2 5).toInt) (gv2_60_6 : (σ1_61.2 6).toInt = (σ1_6.2 6).toInt) (gv2_60_7 : (σ1_61.2 7).toInt = (σ1_6.2 7).toInt) (gv2_60_8 : (σ1_61.2 8).toInt = (σ1_6.2 8).toInt) (gv2_60_9 : (σ1_61.2 9).toInt = (σ1_6.2 9).toInt) (gv2_60_10 : (σ1_61.2 10).toInt = (σ1_6.2 10).toInt) (gv2_60_11 : (σ1_61.2 11).toInt = (σ1_6.2 11).toInt) (gv2_60_12 : ((0) = 0 ∧ (σ1_61.2 0).toInt = (σ1_6.2 0).toInt) ∨ ((0) = 1 ∧ (σ1_61.2 0).toInt = (2))) => ?_))
          have : (-2147483648 : Int) ≤ (σ1_61.2 0).toInt ∧ (σ1_61.2 0).toInt ≤ 2147483647 := Iσ1_61.2.1 0
          have : (0 : Int) ≤ (σ1_61.2 1).toInt ∧ (σ1_61.2 1).toInt ≤ 8 := Iσ1_61.2.1 1
          have : (0 : Int) ≤ (σ1_61.2 2).toInt ∧ (σ1_61.2 2).toInt ≤ 60 := Iσ1_61.2.1 2
          refine hs_ite (fun h_62 => ?_) (fun h_62 => ?_)
          · have : (v2_60 : Int32).toInt = (0) := congrArg Int32.toInt h_62
            refine hs_ite (fun h_63 => ?_) (fun h_63 => ?_)
            · have : ((σ1_61.2 2) : Int32).toInt = (60) := congrArg Int32.toInt h_63
              unfold fX10_fire_81
              refine hs_bd (s_fX10_throwsIf (fun j h => ra j (hs_inc (by decide) h)) (fun j h => ri j (hs_inc (by decide) h)) σ1_61 (1 : Int32) (3 : Int32) Iσ1_61 (show 0 ≤ (1) by omega) (show (1) ≤ 1 by omega) (fun σ1_65 v2_64 Iσ1_65 (gv2_64_0 : v2_64.toInt = (1)) (gv2_64_1 : (σ1_65.2 1).toInt = (σ1_61.2 1).toInt) (gv2_64_2 : (σ1_65.2 2).toInt = (σ1_61.2 2).toInt) (gv2_64_3 : (σ1_65.2 3).toInt = (σ1_61.2 3).toInt) (gv2_64_4 : (σ1_65.2 4).toInt = (σ1_61.2 4).toInt) (gv2_64_5 : (σ1_65.2 5).toInt = (σ1_61.2 5).toInt) (gv2_64_6 : (σ1_65.2 6).toInt = (σ1_61.2 6).toInt) (gv2_64_7 : (σ1_65.2 7).toInt = (σ1_61.2 7).toInt) (gv2_64_8 : (σ1_65.2 8).toInt = (σ1_61.2 8).toInt) (gv2_64_9 : (σ1_65.2 9).toInt = (σ1_61.2 9).toInt) (gv2_64_10 : (σ1_65.2 10).toInt = (σ1_61.2 10).toInt) (gv2_64_11 : (σ1_65.2 11).toInt = (σ1_61.2 11).toInt) (gv2_64_12 : ((1) = 0 ∧ (σ1_65.2 0).toInt = (σ1_61.2 0).toInt) ∨ ((1) = 1 ∧ (σ1_65.2 0).toInt = (3))) => ?_))
              have : (-2147483648 : Int) ≤ (σ1_65.2 0).toInt ∧ (σ1_65.2 0).toInt ≤ 2147483647 := Iσ1_65.2.1 0
              have : (0 : Int) ≤ (σ1_65.2 1).toInt ∧ (σ1_65.2 1).toInt ≤ 8 := Iσ1_65.2.1 1
              have : (0 : Int) ≤ (σ1_65.2 2).toInt ∧ (σ1_65.2 2).toInt ≤ 60 := Iσ1_65.2.1 2
              refine hs_ite (fun h_66 => ?_) (fun h_66 => ?_)
              · have : (v2_64 : Int32).toInt = (0) := congrArg Int32.toInt h_66
                refine hs_pa (idx := (σ1_65.2 2)) (v := x1) Iσ1_65 (by omega) (by omega) ⟨(by omega : (0 : Int) ≤ (x1 : Int32).toInt), (by omega : (x1 : Int32).toInt ≤ 7)⟩ (fun r => ⟨hm_Ra (by decide) r.1, ra 3 (by decide) _ _ r.2⟩) (fun σ5_67 eσ5_67 Iσ5_67 => ?_)
                have : (σ5_67.2 0).toInt = (σ1_65.2 0).toInt := by rw [eσ5_67]; rfl
                have : (σ5_67.2 1).toInt = (σ1_65.2 1).toInt := by rw [eσ5_67]; rfl
                have : (σ5_67.2 2).toInt = (σ1_65.2 2).toInt := by rw [eσ5_67]; rfl
                have : (-2147483648 : Int) ≤ (σ5_67.2 0).toInt ∧ (σ5_67.2 0).toInt ≤ 2147483647 := Iσ5_67.2.1 0
                have : (0 : Int) ≤ (σ5_67.2 1).toInt ∧ (σ5_67.2 1).toInt ≤ 8 := Iσ5_67.2.1 1
                have : (0 : Int) ≤ (σ5_67.2 2).toInt ∧ (σ5_67.2 2).toInt ≤ 60 := Iσ5_67.2.1 2
                refine hs_pa (idx := (σ5_67.2 2)) (v := _) Iσ5_67 (by omega) (by omega) (hs_any _) (fun r => ⟨hm_Ra (by decide) r.1, ra 4 (by decide) _ _ r.2⟩) (fun σ8_68 eσ8_68 Iσ8_68 => ?_)
                have : (σ8_68.2 0).toInt = (σ5_67.2 0).toInt := by rw [eσ8_68]; rfl
                have : (σ8_68.2 1).toInt = (σ5_67.2 1).toInt := by rw [eσ8_68]; rfl
                have : (σ8_68.2 2).toInt = (σ5_67.2 2).toInt := by rw [eσ8_68]; rfl
                have : (-2147483648 : Int) ≤ (σ8_68.2 0).toInt ∧ (σ8_68.2 0).toInt ≤ 2147483647 := Iσ8_68.2.1 0
                have : (0 : Int) ≤ (σ8_68.2 1).toInt ∧ (σ8_68.2 1).toInt ≤ 8 := Iσ8_68.2.1 1
                have : (0 : Int) ≤ (σ8_68.2 2).toInt ∧ (σ8_68.2 2).toInt ≤ 60 := Iσ8_68.2.1 2
                refine hs_pa (idx := (σ8_68.2 2)) (v := _) Iσ8_68 (by omega) (by omega) (hs_any _) (fun r => ⟨hm_Ra (by decide) r.1, ra 5 (by decide) _ _ r.2⟩) (fun σ11_69 eσ11_69 Iσ11_69 => ?_)
                have : (σ11_69.2 0).toInt = (σ8_68.2 0).toInt := by rw [eσ11_69]; rfl
                have : (σ11_69.2 1).toInt = (σ8_68.2 1).toInt := by rw [eσ11_69]; rfl
                have : (σ11_69.2 2).toInt = (σ8_68.2 2).toInt := by rw [eσ11_69]; rfl
                have : (-2147483648 : Int) ≤ (σ11_69.2 0).toInt ∧ (σ11_69.2 0).toInt ≤ 2147483647 := Iσ11_69.2.1 0
                have : (0 : Int) ≤ (σ11_69.2 1).toInt ∧ (σ11_69.2 1).toInt ≤ 8 := Iσ11_69.2.1 1
                have : (0 : Int) ≤ (σ11_69.2 2).toInt ∧ (σ11_69.2 2).toInt ≤ 60 := Iσ11_69.2.1 2
                refine hs_pa (idx := (σ11_69.2 2)) (v := (-1)) Iσ11_69 (by omega) (by omega) ⟨by decide, by decide⟩ (fun r => ⟨hm_R8 r.1, ra 8 (by decide) _ _ r.2⟩) (fun σ14_70 eσ14_70 Iσ14_70 => ?_)
                have : (σ14_70.2 0).toInt = (σ11_69.2 0).toInt := by rw [eσ14_70]; rfl
                have : (σ14_70.2 1).toInt = (σ11_69.2 1).toInt := by rw [eσ14_70]; rfl
                have : (σ14_70.2 2).toInt = (σ11_69.2 2).toInt := by rw [eσ14_70]; rfl
                have : (-2147483648 : Int) ≤ (σ14_70.2 0).toInt ∧ (σ14_70.2 0).toInt ≤ 2147483647 := Iσ14_70.2.1 0
                have : (0 : Int) ≤ (σ14_70.2 1).toInt ∧ (σ14_70.2 1).toInt ≤ 8 := Iσ14_70.2.1 1
                have : (0 : Int) ≤ (σ14_70.2 2).toInt ∧ (σ14_70.2 2).toInt ≤ 60 := Iσ14_70.2.1 2
                have : (σ14_70.1 8 ((σ11_69.2 2) : Int32).toNatClampNeg).toInt = (-1) := by rw [eσ14_70]; exact hs_same _ _ _ _
                have : (-1 : Int) ≤ (σ14_70.1 8 ((σ11_69.2 2) : Int32).toNatClampNeg).toInt ∧ (σ14_70.1 8 ((σ11_69.2 2) : Int32).toNatClampNeg).toInt ≤ 23 := Iσ14_70.1 8 _
                obtain ⟨e_71, he_71⟩ : ∃ e9 : Int32, e9 = ((σ14_70.2 2) + 1) := ⟨_, rfl⟩
                try have : e_71.toInt = ((σ14_70.2 2) : Int32).toInt + (1) := by rw [he_71]; exact hs_addk (1) rfl (by omega) (by omega)
                try rw [← he_71]
                refine hs_pf (v := e_71) Iσ14_70 ⟨(by omega : (0 : Int) ≤ (e_71 : Int32).toInt), (by omega : (e_71 : Int32).toInt ≤ 60)⟩ (fun r => ⟨hm_R2 (by rw [eσ14_70]; exact hs_sameN _ _) (by omega) (by omega) r.1, ri 2 (by decide) _ _ r.2⟩) (fun σ17_72 eσ17_72 Iσ17_72 => ?_)
                have : (σ17_72.2 0).toInt = (σ14_70.2 0).toInt := by rw [eσ17_72]; rfl
                have : (σ17_72.2 1).toInt = (σ14_70.2 1).toInt := by rw [eσ17_72]; rfl
                have : (σ17_72.2 2).toInt = (e_71 : Int32).toInt := by rw [eσ17_72]; rfl
                have : (-2147483648 : Int) ≤ (σ17_72.2 0).toInt ∧ (σ17_72.2 0).toInt ≤ 2147483647 := Iσ17_72.2.1 0
                have : (0 : Int) ≤ (σ17_72.2 1).toInt ∧ (σ17_72.2 1).toInt ≤ 8 := Iσ17_72.2.1 1
                have : (0 : Int) ≤ (σ17_72.2 2).toInt ∧ (σ17_72.2 2).toInt ≤ 60 := Iσ17_72.2.1 2
                have : (σ17_72.1 8 ((σ11_69.2 2) : Int32).toNatClampNeg).toInt = (σ14_70.1 8 ((σ11_69.2 2) : Int32).toNatClampNeg).toInt := by rw [eσ17_72]; rfl
                have : (-1 : Int) ≤ (σ17_72.1 8 ((σ11_69.2 2) : Int32).toNatClampNeg).toInt ∧ (σ17_72.1 8 ((σ11_69.2 2) : Int32).toNatClampNeg).toInt ≤ 23 := Iσ17_72.1 8 _
                obtain ⟨e_73, he_73⟩ : ∃ e9 : Int32, e9 = ((σ17_72.2 2) - 1) := ⟨_, rfl⟩
                try have : e_73.toInt = ((σ17_72.2 2) : Int32).toInt - (1) := by rw [he_73]; exact hs_subk (1) rfl (by omega) (by omega)
                try rw [← he_73]
                exact hs_some (hQ σ17_72 (e_73 : Int32) Iσ17_72 (show ((σ17_72.2 0).toInt = 0 ∧ 0 ≤ x1.toInt ∧ x1.toInt < (σ.2 1).toInt ∧ ¬ (x2.toInt < 0 ∨ 15 < x2.toInt ∨ x3.toInt < 1 ∨ 300 < x3.toInt) ∧ (σ.2 2).toInt < 60 ∧ (σ17_72.2 2).toInt = (σ.2 2).toInt + 1 ∧ (e_73 : Int32).toInt = (σ.2 2).toInt) ∨ ((σ17_72.2 0).toInt = 1 ∧ (x1.toInt < 0 ∨ (σ.2 1).toInt ≤ x1.toInt) ∧ (σ17_72.2 2).toInt = (σ.2 2).toInt) ∨ ((σ17_72.2 0).toInt = 2 ∧ 0 ≤ x1.toInt ∧ x1.toInt < (σ.2 1).toInt ∧ (x2.toInt < 0 ∨ 15 < x2.toInt ∨ x3.toInt < 1 ∨ 300 < x3.toInt) ∧ (σ17_72.2 2).toInt = (σ.2 2).toInt) ∨ ((σ17_72.2 0).toInt = 3 ∧ 0 ≤ x1.toInt ∧ x1.toInt < (σ.2 1).toInt ∧ ¬ (x2.toInt < 0 ∨ 15 < x2.toInt ∨ x3.toInt < 1 ∨ 300 < x3.toInt) ∧ 60 ≤ (σ.2 2).toInt ∧ (σ17_72.2 2).toInt = (σ.2 2).toInt) by omega))
              · have : ¬ (v2_64 : Int32).toInt = (0) := fun z => h_66 (Int32.toInt_inj.mp z)
                exact hs_some (hQ σ1_65 (0 : Int32) Iσ1_65 (show ((σ1_65.2 0).toInt = 0 ∧ 0 ≤ x1.toInt ∧ x1.toInt < (σ.2 1).toInt ∧ ¬ (x2.toInt < 0 ∨ 15 < x2.toInt ∨ x3.toInt < 1 ∨ 300 < x3.toInt) ∧ (σ.2 2).toInt < 60 ∧ (σ1_65.2 2).toInt = (σ.2 2).toInt + 1 ∧ (0) = (σ.2 2).toInt) ∨ ((σ1_65.2 0).toInt = 1 ∧ (x1.toInt < 0 ∨ (σ.2 1).toInt ≤ x1.toInt) ∧ (σ1_65.2 2).toInt = (σ.2 2).toInt) ∨ ((σ1_65.2 0).toInt = 2 ∧ 0 ≤ x1.toInt ∧ x1.toInt < (σ.2 1).toInt ∧ (x2.toInt < 0 ∨ 15 < x2.toInt ∨ x3.toInt < 1 ∨ 300 < x3.toInt) ∧ (σ1_65.2 2).toInt = (σ.2 2).toInt) ∨ ((σ1_65.2 0).toInt = 3 ∧ 0 ≤ x1.toInt ∧ x1.toInt < (σ.2 1).toInt ∧ ¬ (x2.toInt < 0 ∨ 15 < x2.toInt ∨ x3.toInt < 1 ∨ 300 < x3.toInt) ∧ 60 ≤ (σ.2 2).toInt ∧ (σ1_65.2 2).toInt = (σ.2 2).toInt) by omega))
            · have : ¬ ((σ1_61.2 2) : Int32).toInt = (60) := fun z => h_63 (Int32.toInt_inj.mp z)
              unfold fX10_fire_81
              refine hs_bd (s_fX10_throwsIf (fun j h => ra j (hs_inc (by decide) h)) (fun j h => ri j (hs_inc (by decide) h)) σ1_61 (0 : Int32) (3 : Int32) Iσ1_61 (show 0 ≤ (0) by omega) (show (0) ≤ 1 by omega) (fun σ1_75 v2_74 Iσ1_75 (gv2_74_0 : v2_74.toInt = (0)) (gv2_74_1 : (σ1_75.2 1).toInt = (σ1_61.2 1).toInt) (gv2_74_2 : (σ1_75.2 2).toInt = (σ1_61.2 2).toInt) (gv2_74_3 : (σ1_75.2 3).toInt = (σ1_61.2 3).toInt) (gv2_74_4 : (σ1_75.2 4).toInt = (σ1_61.2 4).toInt) (gv2_74_5 : (σ1_75.2 5).toInt = (σ1_61.2 5).toInt) (gv2_74_6 : (σ1_75.2 6).toInt = (σ1_61.2 6).toInt) (gv2_74_7 : (σ1_75.2 7).toInt = (σ1_61.2 7).toInt) (gv2_74_8 : (σ1_75.2 8).toInt = (σ1_61.2 8).toInt) (gv2_74_9 : (σ1_75.2 9).toInt = (σ1_61.2 9).toInt) (gv2_74_10 : (σ1_75.2 10).toInt = (σ1_61.2 10).toInt) (gv2_74_11 : (σ1_75.2 11).toInt = (σ1_61.2 11).toInt) (gv2_74_12 : ((0) = 0 ∧ (σ1_75.2 0).toInt = (σ1_61.2 0).toInt) ∨ ((0) = 1 ∧ (σ1_75.2 0).toInt = (3))) => ?_))
              have : (-2147483648 : Int) ≤ (σ1_75.2 0).toInt ∧ (σ1_75.2 0).toInt ≤ 2147483647 := Iσ1_75.2.1 0
              have : (0 : Int) ≤ (σ1_75.2 1).toInt ∧ (σ1_75.2 1).toInt ≤ 8 := Iσ1_75.2.1 1
              have : (0 : Int) ≤ (σ1_75.2 2).toInt ∧ (σ1_75.2 2).toInt ≤ 60 := Iσ1_75.2.1 2
              refine hs_ite (fun h_76 => ?_) (fun h_76 => ?_)
              · have : (v2_74 : Int32).toInt = (0) := congrArg Int32.toInt h_76
                refine hs_pa (idx := (σ1_75.2 2)) (v := x1) Iσ1_75 (by omega) (by omega) ⟨(by omega : (0 : Int) ≤ (x1 : Int32).toInt), (by omega : (x1 : Int32).toInt ≤ 7)⟩ (fun r => ⟨hm_Ra (by decide) r.1, ra 3 (by decide) _ _ r.2⟩) (fun σ5_77 eσ5_77 Iσ5_77 => ?_)
                have : (σ5_77.2 0).toInt = (σ1_75.2 0).toInt := by rw [eσ5_77]; rfl
                have : (σ5_77.2 1).toInt = (σ1_75.2 1).toInt := by rw [eσ5_77]; rfl
                have : (σ5_77.2 2).toInt = (σ1_75.2 2).toInt := by rw [eσ5_77]; rfl
                have : (-2147483648 : Int) ≤ (σ5_77.2 0).toInt ∧ (σ5_77.2 0).toInt ≤ 2147483647 := Iσ5_77.2.1 0
                have : (0 : Int) ≤ (σ5_77.2 1).toInt ∧ (σ5_77.2 1).toInt ≤ 8 := Iσ5_77.2.1 1
                have : (0 : Int) ≤ (σ5_77.2 2).toInt ∧ (σ5_77.2 2).toInt ≤ 60 := Iσ5_77.2.1 2
                refine hs_pa (idx := (σ5_77.2 2)) (v := _) Iσ5_77 (by omega) (by omega) (hs_any _) (fun r => ⟨hm_Ra (by decide) r.1, ra 4 (by decide) _ _ r.2⟩) (fun σ8_78 eσ8_78 Iσ8_78 => ?_)
                have : (σ8_78.2 0).toInt = (σ5_77.2 0).toInt := by rw [eσ8_78]; rfl
                have : (σ8_78.2 1).toInt = (σ5_77.2 1).toInt := by rw [eσ8_78]; rfl
                have : (σ8_78.2 2).toInt = (σ5_77.2 2).toInt := by rw [eσ8_78]; rfl
                have : (-2147483648 : Int) ≤ (σ8_78.2 0).toInt ∧ (σ8_78.2 0).toInt ≤ 2147483647 := Iσ8_78.2.1 0
                have : (0 : Int) ≤ (σ8_78.2 1).toInt ∧ (σ8_78.2 1).toInt ≤ 8 := Iσ8_78.2.1 1
                have : (0 : Int) ≤ (σ8_78.2 2).toInt ∧ (σ8_78.2 2).toInt ≤ 60 := Iσ8_78.2.1 2
                refine hs_pa (idx := (σ8_78.2 2)) (v := _) Iσ8_78 (by omega) (by omega) (hs_any _) (fun r => ⟨hm_Ra (by decide) r.1, ra 5 (by decide) _ _ r.2⟩) (fun σ11_79 eσ11_79 Iσ11_79 => ?_)
                have : (σ11_79.2 0).toInt = (σ8_78.2 0).toInt := by rw [eσ11_79]; rfl
                have : (σ11_79.2 1).toInt = (σ8_78.2 1).toInt := by rw [eσ11_79]; rfl
                have : (σ11_79.2 2).toInt = (σ8_78.2 2).toInt := by rw [eσ11_79]; rfl
                have : (-2147483648 : Int) ≤ (σ11_79.2 0).toInt ∧ (σ11_79.2 0).toInt ≤ 2147483647 := Iσ11_79.2.1 0
                have : (0 : Int) ≤ (σ11_79.2 1).toInt ∧ (σ11_79.2 1).toInt ≤ 8 := Iσ11_79.2.1 1
                have : (0 : Int) ≤ (σ11_79.2 2).toInt ∧ (σ11_79.2 2).toInt ≤ 60 := Iσ11_79.2.1 2
                refine hs_pa (idx := (σ11_79.2 2)) (v := (-1)) Iσ11_79 (by omega) (by omega) ⟨by decide, by decide⟩ (fun r => ⟨hm_R8 r.1, ra 8 (by decide) _ _ r.2⟩) (fun σ14_80 eσ14_80 Iσ14_80 => ?_)
                have : (σ14_80.2 0).toInt = (σ11_79.2 0).toInt := by rw [eσ14_80]; rfl
                have : (σ14_80.2 1).toInt = (σ11_79.2 1).toInt := by rw [eσ14_80]; rfl
                have : (σ14_80.2 2).toInt = (σ11_79.2 2).toInt := by rw [eσ14_80]; rfl
                have : (-2147483648 : Int) ≤ (σ14_80.2 0).toInt ∧ (σ14_80.2 0).toInt ≤ 2147483647 := Iσ14_80.2.1 0
                have : (0 : Int) ≤ (σ14_80.2 1).toInt ∧ (σ14_80.2 1).toInt ≤ 8 := Iσ14_80.2.1 1
                have : (0 : Int) ≤ (σ14_80.2 2).toInt ∧ (σ14_80.2 2).toInt ≤ 60 := Iσ14_80.2.1 2
                have : (σ14_80.1 8 ((σ11_79.2 2) : Int32).toNatClampNeg).toInt = (-1) := by rw [eσ14_80]; exact hs_same _ _ _ _
                have : (-1 : Int) ≤ (σ14_80.1 8 ((σ11_79.2 2) : Int32).toNatClampNeg).toInt ∧ (σ14_80.1 8 ((σ11_79.2 2) : Int32).toNatClampNeg).toInt ≤ 23 := Iσ14_80.1 8 _
                obtain ⟨e_81, he_81⟩ : ∃ e9 : Int32, e9 = ((σ14_80.2 2) + 1) := ⟨_, rfl⟩
                try have : e_81.toInt = ((σ14_80.2 2) : Int32).toInt + (1) := by rw [he_81]; exact hs_addk (1) rfl (by omega) (by omega)
                try rw [← he_81]
                refine hs_pf (v := e_81) Iσ14_80 ⟨(by omega : (0 : Int) ≤ (e_81 : Int32).toInt), (by omega : (e_81 : Int32).toInt ≤ 60)⟩ (fun r => ⟨hm_R2 (by rw [eσ14_80]; exact hs_sameN _ _) (by omega) (by omega) r.1, ri 2 (by decide) _ _ r.2⟩) (fun σ17_82 eσ17_82 Iσ17_82 => ?_)
                have : (σ17_82.2 0).toInt = (σ14_80.2 0).toInt := by rw [eσ17_82]; rfl
                have : (σ17_82.2 1).toInt = (σ14_80.2 1).toInt := by rw [eσ17_82]; rfl
                have : (σ17_82.2 2).toInt = (e_81 : Int32).toInt := by rw [eσ17_82]; rfl
                have : (-2147483648 : Int) ≤ (σ17_82.2 0).toInt ∧ (σ17_82.2 0).toInt ≤ 2147483647 := Iσ17_82.2.1 0
                have : (0 : Int) ≤ (σ17_82.2 1).toInt ∧ (σ17_82.2 1).toInt ≤ 8 := Iσ17_82.2.1 1
                have : (0 : Int) ≤ (σ17_82.2 2).toInt ∧ (σ17_82.2 2).toInt ≤ 60 := Iσ17_82.2.1 2
                have : (σ17_82.1 8 ((σ11_79.2 2) : Int32).toNatClampNeg).toInt = (σ14_80.1 8 ((σ11_79.2 2) : Int32).toNatClampNeg).toInt := by rw [eσ17_82]; rfl
                have : (-1 : Int) ≤ (σ17_82.1 8 ((σ11_79.2 2) : Int32).toNatClampNeg).toInt ∧ (σ17_82.1 8 ((σ11_79.2 2) : Int32).toNatClampNeg).toInt ≤ 23 := Iσ17_82.1 8 _
                obtain ⟨e_83, he_83⟩ : ∃ e9 : Int32, e9 = ((σ17_82.2 2) - 1) := ⟨_, rfl⟩
                try have : e_83.toInt = ((σ17_82.2 2) : Int32).toInt - (1) := by rw [he_83]; exact hs_subk (1) rfl (by omega) (by omega)
                try rw [← he_83]
                exact hs_some (hQ σ17_82 (e_83 : Int32) Iσ17_82 (show ((σ17_82.2 0).toInt = 0 ∧ 0 ≤ x1.toInt ∧ x1.toInt < (σ.2 1).toInt ∧ ¬ (x2.toInt < 0 ∨ 15 < x2.toInt ∨ x3.toInt < 1 ∨ 300 < x3.toInt) ∧ (σ.2 2).toInt < 60 ∧ (σ17_82.2 2).toInt = (σ.2 2).toInt + 1 ∧ (e_83 : Int32).toInt = (σ.2 2).toInt) ∨ ((σ17_82.2 0).toInt = 1 ∧ (x1.toInt < 0 ∨ (σ.2 1).toInt ≤ x1.toInt) ∧ (σ17_82.2 2).toInt = (σ.2 2).toInt) ∨ ((σ17_82.2 0).toInt = 2 ∧ 0 ≤ x1.toInt ∧ x1.toInt < (σ.2 1).toInt ∧ (x2.toInt < 0 ∨ 15 < x2.toInt ∨ x3.toInt < 1 ∨ 300 < x3.toInt) ∧ (σ17_82.2 2).toInt = (σ.2 2).toInt) ∨ ((σ17_82.2 0).toInt = 3 ∧ 0 ≤ x1.toInt ∧ x1.toInt < (σ.2 1).toInt ∧ ¬ (x2.toInt < 0 ∨ 15 < x2.toInt ∨ x3.toInt < 1 ∨ 300 < x3.toInt) ∧ 60 ≤ (σ.2 2).toInt ∧ (σ17_82.2 2).toInt = (σ.2 2).toInt) by omega))
              · have : ¬ (v2_74 : Int32).toInt = (0) := fun z => h_76 (Int32.toInt_inj.mp z)
                exact hs_some (hQ σ1_75 (0 : Int32) Iσ1_75 (show ((σ1_75.2 0).toInt = 0 ∧ 0 ≤ x1.toInt ∧ x1.toInt < (σ.2 1).toInt ∧ ¬ (x2.toInt < 0 ∨ 15 < x2.toInt ∨ x3.toInt < 1 ∨ 300 < x3.toInt) ∧ (σ.2 2).toInt < 60 ∧ (σ1_75.2 2).toInt = (σ.2 2).toInt + 1 ∧ (0) = (σ.2 2).toInt) ∨ ((σ1_75.2 0).toInt = 1 ∧ (x1.toInt < 0 ∨ (σ.2 1).toInt ≤ x1.toInt) ∧ (σ1_75.2 2).toInt = (σ.2 2).toInt) ∨ ((σ1_75.2 0).toInt = 2 ∧ 0 ≤ x1.toInt ∧ x1.toInt < (σ.2 1).toInt ∧ (x2.toInt < 0 ∨ 15 < x2.toInt ∨ x3.toInt < 1 ∨ 300 < x3.toInt) ∧ (σ1_75.2 2).toInt = (σ.2 2).toInt) ∨ ((σ1_75.2 0).toInt = 3 ∧ 0 ≤ x1.toInt ∧ x1.toInt < (σ.2 1).toInt ∧ ¬ (x2.toInt < 0 ∨ 15 < x2.toInt ∨ x3.toInt < 1 ∨ 300 < x3.toInt) ∧ 60 ≤ (σ.2 2).toInt ∧ (σ1_75.2 2).toInt = (σ.2 2).toInt) by omega))
          · have : ¬ (v2_60 : Int32).toInt = (0) := fun z => h_62 (Int32.toInt_inj.mp z)
            exact hs_some (hQ σ1_61 (0 : Int32) Iσ1_61 (show ((σ1_61.2 0).toInt = 0 ∧ 0 ≤ x1.toInt ∧ x1.toInt < (σ.2 1).toInt ∧ ¬ (x2.toInt < 0 ∨ 15 < x2.toInt ∨ x3.toInt < 1 ∨ 300 < x3.toInt) ∧ (σ.2 2).toInt < 60 ∧ (σ1_61.2 2).toInt = (σ.2 2).toInt + 1 ∧ (0) = (σ.2 2).toInt) ∨ ((σ1_61.2 0).toInt = 1 ∧ (x1.toInt < 0 ∨ (σ.2 1).toInt ≤ x1.toInt) ∧ (σ1_61.2 2).toInt = (σ.2 2).toInt) ∨ ((σ1_61.2 0).toInt = 2 ∧ 0 ≤ x1.toInt ∧ x1.toInt < (σ.2 1).toInt ∧ (x2.toInt < 0 ∨ 15 < x2.toInt ∨ x3.toInt < 1 ∨ 300 < x3.toInt) ∧ (σ1_61.2 2).toInt = (σ.2 2).toInt) ∨ ((σ1_61.2 0).toInt = 3 ∧ 0 ≤ x1.toInt ∧ x1.toInt < (σ.2 1).toInt ∧ ¬ (x2.toInt < 0 ∨ 15 < x2.toInt ∨ x3.toInt < 1 ∨ 300 < x3.toInt) ∧ 60 ≤ (σ.2 2).toInt ∧ (σ1_61.2 2).toInt = (σ.2 2).toInt) by omega))
    · have : ¬ (v2_5 : Int32).toInt = (0) := fun z => h_7 (Int32.toInt_inj.mp z)
      exact hs_some (hQ σ1_6 (0 : Int32) Iσ1_6 (show ((σ1_6.2 0).toInt = 0 ∧ 0 ≤ x1.toInt ∧ x1.toInt < (σ.2 1).toInt ∧ ¬ (x2.toInt < 0 ∨ 15 < x2.toInt ∨ x3.toInt < 1 ∨ 300 < x3.toInt) ∧ (σ.2 2).toInt < 60 ∧ (σ1_6.2 2).toInt = (σ.2 2).toInt + 1 ∧ (0) = (σ.2 2).toInt) ∨ ((σ1_6.2 0).toInt = 1 ∧ (x1.toInt < 0 ∨ (σ.2 1).toInt ≤ x1.toInt) ∧ (σ1_6.2 2).toInt = (σ.2 2).toInt) ∨ ((σ1_6.2 0).toInt = 2 ∧ 0 ≤ x1.toInt ∧ x1.toInt < (σ.2 1).toInt ∧ (x2.toInt < 0 ∨ 15 < x2.toInt ∨ x3.toInt < 1 ∨ 300 < x3.toInt) ∧ (σ1_6.2 2).toInt = (σ.2 2).toInt) ∨ ((σ1_6.2 0).toInt = 3 ∧ 0 ≤ x1.toInt ∧ x1.toInt < (σ.2 1).toInt ∧ ¬ (x2.toInt < 0 ∨ 15 < x2.toInt ∨ x3.toInt < 1 ∨ 300 < x3.toInt) ∧ 60 ≤ (σ.2 2).toInt ∧ (σ1_6.2 2).toInt = (σ.2 2).toInt) by omega))
  · have : ¬ (v4_3 : Int32).toInt = (0) := fun z => h_4 (Int32.toInt_inj.mp z)
    unfold fX10_fire_25
    refine hs_bd (s_fX10_throwsIf (fun j h => ra j (hs_inc (by decide) h)) (fun j h => ri j (hs_inc (by decide) h)) σ1_1 (0 : Int32) (1 : Int32) Iσ1_1 (show 0 ≤ (0) by omega) (show (0) ≤ 1 by omega) (fun σ1_85 v2_84 Iσ1_85 (gv2_84_0 : v2_84.toInt = (0)) (gv2_84_1 : (σ1_85.2 1).toInt = (σ1_1.2 1).toInt) (gv2_84_2 : (σ1_85.2 2).toInt = (σ1_1.2 2).toInt) (gv2_84_3 : (σ1_85.2 3).toInt = (σ1_1.2 3).toInt) (gv2_84_4 : (σ1_85.2 4).toInt = (σ1_1.2 4).toInt) (gv2_84_5 : (σ1_85.2 5).toInt = (σ1_1.2 5).toInt) (gv2_84_6 : (σ1_85.2 6).toInt = (σ1_1.2 6).toInt) (gv2_84_7 : (σ1_85.2 7).toInt = (σ1_1.2 7).toInt) (gv2_84_8 : (σ1_85.2 8).toInt = (σ1_1.2 8).toInt) (gv2_84_9 : (σ1_85.2 9).toInt = (σ1_1.2 9).toInt) (gv2_84_10 : (σ1_85.2 10).toInt = (σ1_1.2 10).toInt) (gv2_84_11 : (σ1_85.2 11).toInt = (σ1_1.2 11).toInt) (gv2_84_12 : ((0) = 0 ∧ (σ1_85.2 0).toInt = (σ1_1.2 0).toInt) ∨ ((0) = 1 ∧ (σ1_85.2 0).toInt = (1))) => ?_))
    have : (-2147483648 : Int) ≤ (σ1_85.2 0).toInt ∧ (σ1_85.2 0).toInt ≤ 2147483647 := Iσ1_85.2.1 0
    have : (0 : Int) ≤ (σ1_85.2 1).toInt ∧ (σ1_85.2 1).toInt ≤ 8 := Iσ1_85.2.1 1
    have : (0 : Int) ≤ (σ1_85.2 2).toInt ∧ (σ1_85.2 2).toInt ≤ 60 := Iσ1_85.2.1 2
    refine hs_ite (fun h_86 => ?_) (fun h_86 => ?_)
    · have : (v2_84 : Int32).toInt = (0) := congrArg Int32.toInt h_86
      refine hs_bd (s_fX10_in σ1_85 x2 (0 : Int32) (15 : Int32) Iσ1_85  (fun v6_87 (gv6_87_0 : (v6_87.toInt = 1 ∧ (0) ≤ (x2 : Int32).toInt ∧ (x2 : Int32).toInt ≤ (15)) ∨ (v6_87.toInt = 0 ∧ ((x2 : Int32).toInt < (0) ∨ (15) < (x2 : Int32).toInt))) => ?_))
      refine hs_ite (fun h_88 => ?_) (fun h_88 => ?_)
      · have : (v6_87 : Int32).toInt = (0) := congrArg Int32.toInt h_88
        unfold fX10_fire_54
        unfold fX10_fire_59
        refine hs_bd (s_fX10_throwsIf (fun j h => ra j (hs_inc (by decide) h)) (fun j h => ri j (hs_inc (by decide) h)) σ1_85 (1 : Int32) (2 : Int32) Iσ1_85 (show 0 ≤ (1) by omega) (show (1) ≤ 1 by omega) (fun σ1_90 v2_89 Iσ1_90 (gv2_89_0 : v2_89.toInt = (1)) (gv2_89_1 : (σ1_90.2 1).toInt = (σ1_85.2 1).toInt) (gv2_89_2 : (σ1_90.2 2).toInt = (σ1_85.2 2).toInt) (gv2_89_3 : (σ1_90.2 3).toInt = (σ1_85.2 3).toInt) (gv2_89_4 : (σ1_90.2 4).toInt = (σ1_85.2 4).toInt) (gv2_89_5 : (σ1_90.2 5).toInt = (σ1_85.2 5).toInt) (gv2_89_6 : (σ1_90.2 6).toInt = (σ1_85.2 6).toInt) (gv2_89_7 : (σ1_90.2 7).toInt = (σ1_85.2 7).toInt) (gv2_89_8 : (σ1_90.2 8).toInt = (σ1_85.2 8).toInt) (gv2_89_9 : (σ1_90.2 9).toInt = (σ1_85.2 9).toInt) (gv2_89_10 : (σ1_90.2 10).toInt = (σ1_85.2 10).toInt) (gv2_89_11 : (σ1_90.2 11).toInt = (σ1_85.2 11).toInt) (gv2_89_12 : ((1) = 0 ∧ (σ1_90.2 0).toInt = (σ1_85.2 0).toInt) ∨ ((1) = 1 ∧ (σ1_90.2 0).toInt = (2))) => ?_))
        have : (-2147483648 : Int) ≤ (σ1_90.2 0).toInt ∧ (σ1_90.2 0).toInt ≤ 2147483647 := Iσ1_90.2.1 0
        have : (0 : Int) ≤ (σ1_90.2 1).toInt ∧ (σ1_90.2 1).toInt ≤ 8 := Iσ1_90.2.1 1
        have : (0 : Int) ≤ (σ1_90.2 2).toInt ∧ (σ1_90.2 2).toInt ≤ 60 := Iσ1_90.2.1 2
        refine hs_ite (fun h_91 => ?_) (fun h_91 => ?_)
        · have : (v2_89 : Int32).toInt = (0) := congrArg Int32.toInt h_91
          refine hs_ite (fun h_92 => ?_) (fun h_92 => ?_)
          · have : ((σ1_90.2 2) : Int32).toInt = (60) := congrArg Int32.toInt h_92
            unfold fX10_fire_81
            refine hs_bd (s_fX10_throwsIf (fun j h => ra j (hs_inc (by decide) h)) (fun j h => ri j (hs_inc (by decide) h)) σ1_90 (1 : Int32) (3 : Int32) Iσ1_90 (show 0 ≤ (1) by omega) (show (1) ≤ 1 by omega) (fun σ1_94 v2_93 Iσ1_94 (gv2_93_0 : v2_93.toInt = (1)) (gv2_93_1 : (σ1_94.2 1).toInt = (σ1_90.2 1).toInt) (gv2_93_2 : (σ1_94.2 2).toInt = (σ1_90.2 2).toInt) (gv2_93_3 : (σ1_94.2 3).toInt = (σ1_90.2 3).toInt) (gv2_93_4 : (σ1_94.2 4).toInt = (σ1_90.2 4).toInt) (gv2_93_5 : (σ1_94.2 5).toInt = (σ1_90.2 5).toInt) (gv2_93_6 : (σ1_94.2 6).toInt = (σ1_90.2 6).toInt) (gv2_93_7 : (σ1_94.2 7).toInt = (σ1_90.2 7).toInt) (gv2_93_8 : (σ1_94.2 8).toInt = (σ1_90.2 8).toInt) (gv2_93_9 : (σ1_94.2 9).toInt = (σ1_90.2 9).toInt) (gv2_93_10 : (σ1_94.2 10).toInt = (σ1_90.2 10).toInt) (gv2_93_11 : (σ1_94.2 11).toInt = (σ1_90.2 11).toInt) (gv2_93_12 : ((1) = 0 ∧ (σ1_94.2 0).toInt = (σ1_90.2 0).toInt) ∨ ((1) = 1 ∧ (σ1_94.2 0).toInt = (3))) => ?_))
            have : (-2147483648 : Int) ≤ (σ1_94.2 0).toInt ∧ (σ1_94.2 0).toInt ≤ 2147483647 := Iσ1_94.2.1 0
            have : (0 : Int) ≤ (σ1_94.2 1).toInt ∧ (σ1_94.2 1).toInt ≤ 8 := Iσ1_94.2.1 1
            have : (0 : Int) ≤ (σ1_94.2 2).toInt ∧ (σ1_94.2 2).toInt ≤ 60 := Iσ1_94.2.1 2
            refine hs_ite (fun h_95 => ?_) (fun h_95 => ?_)
            · have : (v2_93 : Int32).toInt = (0) := congrArg Int32.toInt h_95
              refine hs_pa (idx := (σ1_94.2 2)) (v := x1) Iσ1_94 (by omega) (by omega) ⟨(by omega : (0 : Int) ≤ (x1 : Int32).toInt), (by omega : (x1 : Int32).toInt ≤ 7)⟩ (fun r => ⟨hm_Ra (by decide) r.1, ra 3 (by decide) _ _ r.2⟩) (fun σ5_96 eσ5_96 Iσ5_96 => ?_)
              have : (σ5_96.2 0).toInt = (σ1_94.2 0).toInt := by rw [eσ5_96]; rfl
              have : (σ5_96.2 1).toInt = (σ1_94.2 1).toInt := by rw [eσ5_96]; rfl
              have : (σ5_96.2 2).toInt = (σ1_94.2 2).toInt := by rw [eσ5_96]; rfl
              have : (-2147483648 : Int) ≤ (σ5_96.2 0).toInt ∧ (σ5_96.2 0).toInt ≤ 2147483647 := Iσ5_96.2.1 0
              have : (0 : Int) ≤ (σ5_96.2 1).toInt ∧ (σ5_96.2 1).toInt ≤ 8 := Iσ5_96.2.1 1
              have : (0 : Int) ≤ (σ5_96.2 2).toInt ∧ (σ5_96.2 2).toInt ≤ 60 := Iσ5_96.2.1 2
              refine hs_pa (idx := (σ5_96.2 2)) (v := _) Iσ5_96 (by omega) (by omega) (hs_any _) (fun r => ⟨hm_Ra (by decide) r.1, ra 4 (by decide) _ _ r.2⟩) (fun σ8_97 eσ8_97 Iσ8_97 => ?_)
              have : (σ8_97.2 0).toInt = (σ5_96.2 0).toInt := by rw [eσ8_97]; rfl
              have : (σ8_97.2 1).toInt = (σ5_96.2 1).toInt := by rw [eσ8_97]; rfl
              have : (σ8_97.2 2).toInt = (σ5_96.2 2).toInt := by rw [eσ8_97]; rfl
              have : (-2147483648 : Int) ≤ (σ8_97.2 0).toInt ∧ (σ8_97.2 0).toInt ≤ 2147483647 := Iσ8_97.2.1 0
              have : (0 : Int) ≤ (σ8_97.2 1).toInt ∧ (σ8_97.2 1).toInt ≤ 8 := Iσ8_97.2.1 1
              have : (0 : Int) ≤ (σ8_97.2 2).toInt ∧ (σ8_97.2 2).toInt ≤ 60 := Iσ8_97.2.1 2
              refine hs_pa (idx := (σ8_97.2 2)) (v := _) Iσ8_97 (by omega) (by omega) (hs_any _) (fun r => ⟨hm_Ra (by decide) r.1, ra 5 (by decide) _ _ r.2⟩) (fun σ11_98 eσ11_98 Iσ11_98 => ?_)
              have : (σ11_98.2 0).toInt = (σ8_97.2 0).toInt := by rw [eσ11_98]; rfl
              have : (σ11_98.2 1).toInt = (σ8_97.2 1).toInt := by rw [eσ11_98]; rfl
              have : (σ11_98.2 2).toInt = (σ8_97.2 2).toInt := by rw [eσ11_98]; rfl
              have : (-2147483648 : Int) ≤ (σ11_98.2 0).toInt ∧ (σ11_98.2 0).toInt ≤ 2147483647 := Iσ11_98.2.1 0
              have : (0 : Int) ≤ (σ11_98.2 1).toInt ∧ (σ11_98.2 1).toInt ≤ 8 := Iσ11_98.2.1 1
              have : (0 : Int) ≤ (σ11_98.2 2).toInt ∧ (σ11_98.2 2).toInt ≤ 60 := Iσ11_98.2.1 2
              refine hs_pa (idx := (σ11_98.2 2)) (v := (-1)) Iσ11_98 (by omega) (by omega) ⟨by decide, by decide⟩ (fun r => ⟨hm_R8 r.1, ra 8 (by decide) _ _ r.2⟩) (fun σ14_99 eσ14_99 Iσ14_99 => ?_)
              have : (σ14_99.2 0).toInt = (σ11_98.2 0).toInt := by rw [eσ14_99]; rfl
              have : (σ14_99.2 1).toInt = (σ11_98.2 1).toInt := by rw [eσ14_99]; rfl
              have : (σ14_99.2 2).toInt = (σ11_98.2 2).toInt := by rw [eσ14_99]; rfl
              have : (-2147483648 : Int) ≤ (σ14_99.2 0).toInt ∧ (σ14_99.2 0).toInt ≤ 2147483647 := Iσ14_99.2.1 0
              have : (0 : Int) ≤ (σ14_99.2 1).toInt ∧ (σ14_99.2 1).toInt ≤ 8 := Iσ14_99.2.1 1
              have : (0 : Int) ≤ (σ14_99.2 2).toInt ∧ (σ14_99.2 2).toInt ≤ 60 := Iσ14_99.2.1 2
              have : (σ14_99.1 8 ((σ11_98.2 2) : Int32).toNatClampNeg).toInt = (-1) := by rw [eσ14_99]; exact hs_same _ _ _ _
              have : (-1 : Int) ≤ (σ14_99.1 8 ((σ11_98.2 2) : Int32).toNatClampNeg).toInt ∧ (σ14_99.1 8 ((σ11_98.2 2) : Int32).toNatClampNeg).toInt ≤ 23 := Iσ14_99.1 8 _
              obtain ⟨e_100, he_100⟩ : ∃ e9 : Int32, e9 = ((σ14_99.2 2) + 1) := ⟨_, rfl⟩
              try have : e_100.toInt = ((σ14_99.2 2) : Int32).toInt + (1) := by rw [he_100]; exact hs_addk (1) rfl (by omega) (by omega)
              try rw [← he_100]
              refine hs_pf (v := e_100) Iσ14_99 ⟨(by omega : (0 : Int) ≤ (e_100 : Int32).toInt), (by omega : (e_100 : Int32).toInt ≤ 60)⟩ (fun r => ⟨hm_R2 (by rw [eσ14_99]; exact hs_sameN _ _) (by omega) (by omega) r.1, ri 2 (by decide) _ _ r.2⟩) (fun σ17_101 eσ17_101 Iσ17_101 => ?_)
              have : (σ17_101.2 0).toInt = (σ14_99.2 0).toInt := by rw [eσ17_101]; rfl
              have : (σ17_101.2 1).toInt = (σ14_99.2 1).toInt := by rw [eσ17_101]; rfl
              have : (σ17_101.2 2).toInt = (e_100 : Int32).toInt := by rw [eσ17_101]; rfl
              have : (-2147483648 : Int) ≤ (σ17_101.2 0).toInt ∧ (σ17_101.2 0).toInt ≤ 2147483647 := Iσ17_101.2.1 0
              have : (0 : Int) ≤ (σ17_101.2 1).toInt ∧ (σ17_101.2 1).toInt ≤ 8 := Iσ17_101.2.1 1
              have : (0 : Int) ≤ (σ17_101.2 2).toInt ∧ (σ17_101.2 2).toInt ≤ 60 := Iσ17_101.2.1 2
              have : (σ17_101.1 8 ((σ11_98.2 2) : Int32).toNatClampNeg).toInt = (σ14_99.1 8 ((σ11_98.2 2) : Int32).toNatClampNeg).toInt := by rw [eσ17_101]; rfl
              have : (-1 : Int) ≤ (σ17_101.1 8 ((σ11_98.2 2) : Int32).toNatClampNeg).toInt ∧ (σ17_101.1 8 ((σ11_98.2 2) : Int32).toNatClampNeg).toInt ≤ 23 := Iσ17_101.1 8 _
              obtain ⟨e_102, he_102⟩ : ∃ e9 : Int32, e9 = ((σ17_101.2 2) - 1) := ⟨_, rfl⟩
              try have : e_102.toInt = ((σ17_101.2 2) : Int32).toInt - (1) := by rw [he_102]; exact hs_subk (1) rfl (by omega) (by omega)
              try rw [← he_102]
              exact hs_some (hQ σ17_101 (e_102 : Int32) Iσ17_101 (show ((σ17_101.2 0).toInt = 0 ∧ 0 ≤ x1.toInt ∧ x1.toInt < (σ.2 1).toInt ∧ ¬ (x2.toInt < 0 ∨ 15 < x2.toInt ∨ x3.toInt < 1 ∨ 300 < x3.toInt) ∧ (σ.2 2).toInt < 60 ∧ (σ17_101.2 2).toInt = (σ.2 2).toInt + 1 ∧ (e_102 : Int32).toInt = (σ.2 2).toInt) ∨ ((σ17_101.2 0).toInt = 1 ∧ (x1.toInt < 0 ∨ (σ.2 1).toInt ≤ x1.toInt) ∧ (σ17_101.2 2).toInt = (σ.2 2).toInt) ∨ ((σ17_101.2 0).toInt = 2 ∧ 0 ≤ x1.toInt ∧ x1.toInt < (σ.2 1).toInt ∧ (x2.toInt < 0 ∨ 15 < x2.toInt ∨ x3.toInt < 1 ∨ 300 < x3.toInt) ∧ (σ17_101.2 2).toInt = (σ.2 2).toInt) ∨ ((σ17_101.2 0).toInt = 3 ∧ 0 ≤ x1.toInt ∧ x1.toInt < (σ.2 1).toInt ∧ ¬ (x2.toInt < 0 ∨ 15 < x2.toInt ∨ x3.toInt < 1 ∨ 300 < x3.toInt) ∧ 60 ≤ (σ.2 2).toInt ∧ (σ17_101.2 2).toInt = (σ.2 2).toInt) by omega))
            · have : ¬ (v2_93 : Int32).toInt = (0) := fun z => h_95 (Int32.toInt_inj.mp z)
              exact hs_some (hQ σ1_94 (0 : Int32) Iσ1_94 (show ((σ1_94.2 0).toInt = 0 ∧ 0 ≤ x1.toInt ∧ x1.toInt < (σ.2 1).toInt ∧ ¬ (x2.toInt < 0 ∨ 15 < x2.toInt ∨ x3.toInt < 1 ∨ 300 < x3.toInt) ∧ (σ.2 2).toInt < 60 ∧ (σ1_94.2 2).toInt = (σ.2 2).toInt + 1 ∧ (0) = (σ.2 2).toInt) ∨ ((σ1_94.2 0).toInt = 1 ∧ (x1.toInt < 0 ∨ (σ.2 1).toInt ≤ x1.toInt) ∧ (σ1_94.2 2).toInt = (σ.2 2).toInt) ∨ ((σ1_94.2 0).toInt = 2 ∧ 0 ≤ x1.toInt ∧ x1.toInt < (σ.2 1).toInt ∧ (x2.toInt < 0 ∨ 15 < x2.toInt ∨ x3.toInt < 1 ∨ 300 < x3.toInt) ∧ (σ1_94.2 2).toInt = (σ.2 2).toInt) ∨ ((σ1_94.2 0).toInt = 3 ∧ 0 ≤ x1.toInt ∧ x1.toInt < (σ.2 1).toInt ∧ ¬ (x2.toInt < 0 ∨ 15 < x2.toInt ∨ x3.toInt < 1 ∨ 300 < x3.toInt) ∧ 60 ≤ (σ.2 2).toInt ∧ (σ1_94.2 2).toInt = (σ.2 2).toInt) by omega))
          · have : ¬ ((σ1_90.2 2) : Int32).toInt = (60) := fun z => h_92 (Int32.toInt_inj.mp z)
            unfold fX10_fire_81
            refine hs_bd (s_fX10_throwsIf (fun j h => ra j (hs_inc (by decide) h)) (fun j h => ri j (hs_inc (by decide) h)) σ1_90 (0 : Int32) (3 : Int32) Iσ1_90 (show 0 ≤ (0) by omega) (show (0) ≤ 1 by omega) (fun σ1_104 v2_103 Iσ1_104 (gv2_103_0 : v2_103.toInt = (0)) (gv2_103_1 : (σ1_104.2 1).toInt = (σ1_90.2 1).toInt) (gv2_103_2 : (σ1_104.2 2).toInt = (σ1_90.2 2).toInt) (gv2_103_3 : (σ1_104.2 3).toInt = (σ1_90.2 3).toInt) (gv2_103_4 : (σ1_104.2 4).toInt = (σ1_90.2 4).toInt) (gv2_103_5 : (σ1_104.2 5).toInt = (σ1_90.2 5).toInt) (gv2_103_6 : (σ1_104.2 6).toInt = (σ1_90.2 6).toInt) (gv2_103_7 : (σ1_104.2 7).toInt = (σ1_90.2 7).toInt) (gv2_103_8 : (σ1_104.2 8).toInt = (σ1_90.2 8).toInt) (gv2_103_9 : (σ1_104.2 9).toInt = (σ1_90.2 9).toInt) (gv2_103_10 : (σ1_104.2 10).toInt = (σ1_90.2 10).toInt) (gv2_103_11 : (σ1_104.2 11).toInt = (σ1_90.2 11).toInt) (gv2_103_12 : ((0) = 0 ∧ (σ1_104.2 0).toInt = (σ1_90.2 0).toInt) ∨ ((0) = 1 ∧ (σ1_104.2 0).toInt = (3))) => ?_))
            have : (-2147483648 : Int) ≤ (σ1_104.2 0).toInt ∧ (σ1_104.2 0).toInt ≤ 2147483647 := Iσ1_104.2.1 0
            have : (0 : Int) ≤ (σ1_104.2 1).toInt ∧ (σ1_104.2 1).toInt ≤ 8 := Iσ1_104.2.1 1
            have : (0 : Int) ≤ (σ1_104.2 2).toInt ∧ (σ1_104.2 2).toInt ≤ 60 := Iσ1_104.2.1 2
            refine hs_ite (fun h_105 => ?_) (fun h_105 => ?_)
            · have : (v2_103 : Int32).toInt = (0) := congrArg Int32.toInt h_105
              refine hs_pa (idx := (σ1_104.2 2)) (v := x1) Iσ1_104 (by omega) (by omega) ⟨(by omega : (0 : Int) ≤ (x1 : Int32).toInt), (by omega : (x1 : Int32).toInt ≤ 7)⟩ (fun r => ⟨hm_Ra (by decide) r.1, ra 3 (by decide) _ _ r.2⟩) (fun σ5_106 eσ5_106 Iσ5_106 => ?_)
              have : (σ5_106.2 0).toInt = (σ1_104.2 0).toInt := by rw [eσ5_106]; rfl
              have : (σ5_106.2 1).toInt = (σ1_104.2 1).toInt := by rw [eσ5_106]; rfl
              have : (σ5_106.2 2).toInt = (σ1_104.2 2).toInt := by rw [eσ5_106]; rfl
              have : (-2147483648 : Int) ≤ (σ5_106.2 0).toInt ∧ (σ5_106.2 0).toInt ≤ 2147483647 := Iσ5_106.2.1 0
              have : (0 : Int) ≤ (σ5_106.2 1).toInt ∧ (σ5_106.2 1).toInt ≤ 8 := Iσ5_106.2.1 1
              have : (0 : Int) ≤ (σ5_106.2 2).toInt ∧ (σ5_106.2 2).toInt ≤ 60 := Iσ5_106.2.1 2
              refine hs_pa (idx := (σ5_106.2 2)) (v := _) Iσ5_106 (by omega) (by omega) (hs_any _) (fun r => ⟨hm_Ra (by decide) r.1, ra 4 (by decide) _ _ r.2⟩) (fun σ8_107 eσ8_107 Iσ8_107 => ?_)
              have : (σ8_107.2 0).toInt = (σ5_106.2 0).toInt := by rw [eσ8_107]; rfl
              have : (σ8_107.2 1).toInt = (σ5_106.2 1).toInt := by rw [eσ8_107]; rfl
              have : (σ8_107.2 2).toInt = (σ5_106.2 2).toInt := by rw [eσ8_107]; rfl
              have : (-2147483648 : Int) ≤ (σ8_107.2 0).toInt ∧ (σ8_107.2 0).toInt ≤ 2147483647 := Iσ8_107.2.1 0
              have : (0 : Int) ≤ (σ8_107.2 1).toInt ∧ (σ8_107.2 1).toInt ≤ 8 := Iσ8_107.2.1 1
              have : (0 : Int) ≤ (σ8_107.2 2).toInt ∧ (σ8_107.2 2).toInt ≤ 60 := Iσ8_107.2.1 2
              refine hs_pa (idx := (σ8_107.2 2)) (v := _) Iσ8_107 (by omega) (by omega) (hs_any _) (fun r => ⟨hm_Ra (by decide) r.1, ra 5 (by decide) _ _ r.2⟩) (fun σ11_108 eσ11_108 Iσ11_108 => ?_)
              have : (σ11_108.2 0).toInt = (σ8_107.2 0).toInt := by rw [eσ11_108]; rfl
              have : (σ11_108.2 1).toInt = (σ8_107.2 1).toInt := by rw [eσ11_108]; rfl
              have : (σ11_108.2 2).toInt = (σ8_107.2 2).toInt := by rw [eσ11_108]; rfl
              have : (-2147483648 : Int) ≤ (σ11_108.2 0).toInt ∧ (σ11_108.2 0).toInt ≤ 2147483647 := Iσ11_108.2.1 0
              have : (0 : Int) ≤ (σ11_108.2 1).toInt ∧ (σ11_108.2 1).toInt ≤ 8 := Iσ11_108.2.1 1
              have : (0 : Int) ≤ (σ11_108.2 2).toInt ∧ (σ11_108.2 2).toInt ≤ 60 := Iσ11_108.2.1 2
              refine hs_pa (idx := (σ11_108.2 2)) (v := (-1)) Iσ11_108 (by omega) (by omega) ⟨by decide, by decide⟩ (fun r => ⟨hm_R8 r.1, ra 8 (by decide) _ _ r.2⟩) (fun σ14_109 eσ14_109 Iσ14_109 => ?_)
              have : (σ14_109.2 0).toInt = (σ11_108.2 0).toInt := by rw [eσ14_109]; rfl
              have : (σ14_109.2 1).toInt = (σ11_108.2 1).toInt := by rw [eσ14_109]; rfl
              have : (σ14_109.2 2).toInt = (σ11_108.2 2).toInt := by rw [eσ14_109]; rfl
              have : (-2147483648 : Int) ≤ (σ14_109.2 0).toInt ∧ (σ14_109.2 0).toInt ≤ 2147483647 := Iσ14_109.2.1 0
              have : (0 : Int) ≤ (σ14_109.2 1).toInt ∧ (σ14_109.2 1).toInt ≤ 8 := Iσ14_109.2.1 1
              have : (0 : Int) ≤ (σ14_109.2 2).toInt ∧ (σ14_109.2 2).toInt ≤ 60 := Iσ14_109.2.1 2
              have : (σ14_109.1 8 ((σ11_108.2 2) : Int32).toNatClampNeg).toInt = (-1) := by rw [eσ14_109]; exact hs_same _ _ _ _
              have : (-1 : Int) ≤ (σ14_109.1 8 ((σ11_108.2 2) : Int32).toNatClampNeg).toInt ∧ (σ14_109.1 8 ((σ11_108.2 2) : Int32).toNatClampNeg).toInt ≤ 23 := Iσ14_109.1 8 _
              obtain ⟨e_110, he_110⟩ : ∃ e9 : Int32, e9 = ((σ14_109.2 2) + 1) := ⟨_, rfl⟩
              try have : e_110.toInt = ((σ14_109.2 2) : Int32).toInt + (1) := by rw [he_110]; exact hs_addk (1) rfl (by omega) (by omega)
              try rw [← he_110]
              refine hs_pf (v := e_110) Iσ14_109 ⟨(by omega : (0 : Int) ≤ (e_110 : Int32).toInt), (by omega : (e_110 : Int32).toInt ≤ 60)⟩ (fun r => ⟨hm_R2 (by rw [eσ14_109]; exact hs_sameN _ _) (by omega) (by omega) r.1, ri 2 (by decide) _ _ r.2⟩) (fun σ17_111 eσ17_111 Iσ17_111 => ?_)
              have : (σ17_111.2 0).toInt = (σ14_109.2 0).toInt := by rw [eσ17_111]; rfl
              have : (σ17_111.2 1).toInt = (σ14_109.2 1).toInt := by rw [eσ17_111]; rfl
              have : (σ17_111.2 2).toInt = (e_110 : Int32).toInt := by rw [eσ17_111]; rfl
              have : (-2147483648 : Int) ≤ (σ17_111.2 0).toInt ∧ (σ17_111.2 0).toInt ≤ 2147483647 := Iσ17_111.2.1 0
              have : (0 : Int) ≤ (σ17_111.2 1).toInt ∧ (σ17_111.2 1).toInt ≤ 8 := Iσ17_111.2.1 1
              have : (0 : Int) ≤ (σ17_111.2 2).toInt ∧ (σ17_111.2 2).toInt ≤ 60 := Iσ17_111.2.1 2
              have : (σ17_111.1 8 ((σ11_108.2 2) : Int32).toNatClampNeg).toInt = (σ14_109.1 8 ((σ11_108.2 2) : Int32).toNatClampNeg).toInt := by rw [eσ17_111]; rfl
              have : (-1 : Int) ≤ (σ17_111.1 8 ((σ11_108.2 2) : Int32).toNatClampNeg).toInt ∧ (σ17_111.1 8 ((σ11_108.2 2) : Int32).toNatClampNeg).toInt ≤ 23 := Iσ17_111.1 8 _
              obtain ⟨e_112, he_112⟩ : ∃ e9 : Int32, e9 = ((σ17_111.2 2) - 1) := ⟨_, rfl⟩
              try have : e_112.toInt = ((σ17_111.2 2) : Int32).toInt - (1) := by rw [he_112]; exact hs_subk (1) rfl (by omega) (by omega)
              try rw [← he_112]
              exact hs_some (hQ σ17_111 (e_112 : Int32) Iσ17_111 (show ((σ17_111.2 0).toInt = 0 ∧ 0 ≤ x1.toInt ∧ x1.toInt < (σ.2 1).toInt ∧ ¬ (x2.toInt < 0 ∨ 15 < x2.toInt ∨ x3.toInt < 1 ∨ 300 < x3.toInt) ∧ (σ.2 2).toInt < 60 ∧ (σ17_111.2 2).toInt = (σ.2 2).toInt + 1 ∧ (e_112 : Int32).toInt = (σ.2 2).toInt) ∨ ((σ17_111.2 0).toInt = 1 ∧ (x1.toInt < 0 ∨ (σ.2 1).toInt ≤ x1.toInt) ∧ (σ17_111.2 2).toInt = (σ.2 2).toInt) ∨ ((σ17_111.2 0).toInt = 2 ∧ 0 ≤ x1.toInt ∧ x1.toInt < (σ.2 1).toInt ∧ (x2.toInt < 0 ∨ 15 < x2.toInt ∨ x3.toInt < 1 ∨ 300 < x3.toInt) ∧ (σ17_111.2 2).toInt = (σ.2 2).toInt) ∨ ((σ17_111.2 0).toInt = 3 ∧ 0 ≤ x1.toInt ∧ x1.toInt < (σ.2 1).toInt ∧ ¬ (x2.toInt < 0 ∨ 15 < x2.toInt ∨ x3.toInt < 1 ∨ 300 < x3.toInt) ∧ 60 ≤ (σ.2 2).toInt ∧ (σ17_111.2 2).toInt = (σ.2 2).toInt) by omega))
            · have : ¬ (v2_103 : Int32).toInt = (0) := fun z => h_105 (Int32.toInt_inj.mp z)
              exact hs_some (hQ σ1_104 (0 : Int32) Iσ1_104 (show ((σ1_104.2 0).toInt = 0 ∧ 0 ≤ x1.toInt ∧ x1.toInt < (σ.2 1).toInt ∧ ¬ (x2.toInt < 0 ∨ 15 < x2.toInt ∨ x3.toInt < 1 ∨ 300 < x3.toInt) ∧ (σ.2 2).toInt < 60 ∧ (σ1_104.2 2).toInt = (σ.2 2).toInt + 1 ∧ (0) = (σ.2 2).toInt) ∨ ((σ1_104.2 0).toInt = 1 ∧ (x1.toInt < 0 ∨ (σ.2 1).toInt ≤ x1.toInt) ∧ (σ1_104.2 2).toInt = (σ.2 2).toInt) ∨ ((σ1_104.2 0).toInt = 2 ∧ 0 ≤ x1.toInt ∧ x1.toInt < (σ.2 1).toInt ∧ (x2.toInt < 0 ∨ 15 < x2.toInt ∨ x3.toInt < 1 ∨ 300 < x3.toInt) ∧ (σ1_104.2 2).toInt = (σ.2 2).toInt) ∨ ((σ1_104.2 0).toInt = 3 ∧ 0 ≤ x1.toInt ∧ x1.toInt < (σ.2 1).toInt ∧ ¬ (x2.toInt < 0 ∨ 15 < x2.toInt ∨ x3.toInt < 1 ∨ 300 < x3.toInt) ∧ 60 ≤ (σ.2 2).toInt ∧ (σ1_104.2 2).toInt = (σ.2 2).toInt) by omega))
        · have : ¬ (v2_89 : Int32).toInt = (0) := fun z => h_91 (Int32.toInt_inj.mp z)
          exact hs_some (hQ σ1_90 (0 : Int32) Iσ1_90 (show ((σ1_90.2 0).toInt = 0 ∧ 0 ≤ x1.toInt ∧ x1.toInt < (σ.2 1).toInt ∧ ¬ (x2.toInt < 0 ∨ 15 < x2.toInt ∨ x3.toInt < 1 ∨ 300 < x3.toInt) ∧ (σ.2 2).toInt < 60 ∧ (σ1_90.2 2).toInt = (σ.2 2).toInt + 1 ∧ (0) = (σ.2 2).toInt) ∨ ((σ1_90.2 0).toInt = 1 ∧ (x1.toInt < 0 ∨ (σ.2 1).toInt ≤ x1.toInt) ∧ (σ1_90.2 2).toInt = (σ.2 2).toInt) ∨ ((σ1_90.2 0).toInt = 2 ∧ 0 ≤ x1.toInt ∧ x1.toInt < (σ.2 1).toInt ∧ (x2.toInt < 0 ∨ 15 < x2.toInt ∨ x3.toInt < 1 ∨ 300 < x3.toInt) ∧ (σ1_90.2 2).toInt = (σ.2 2).toInt) ∨ ((σ1_90.2 0).toInt = 3 ∧ 0 ≤ x1.toInt ∧ x1.toInt < (σ.2 1).toInt ∧ ¬ (x2.toInt < 0 ∨ 15 < x2.toInt ∨ x3.toInt < 1 ∨ 300 < x3.toInt) ∧ 60 ≤ (σ.2 2).toInt ∧ (σ1_90.2 2).toInt = (σ.2 2).toInt) by omega))
      · have : ¬ (v6_87 : Int32).toInt = (0) := fun z => h_88 (Int32.toInt_inj.mp z)
        refine hs_bd (s_fX10_in σ1_85 x3 (1 : Int32) (300 : Int32) Iσ1_85  (fun v10_113 (gv10_113_0 : (v10_113.toInt = 1 ∧ (1) ≤ (x3 : Int32).toInt ∧ (x3 : Int32).toInt ≤ (300)) ∨ (v10_113.toInt = 0 ∧ ((x3 : Int32).toInt < (1) ∨ (300) < (x3 : Int32).toInt))) => ?_))
        refine hs_ite (fun h_114 => ?_) (fun h_114 => ?_)
        · have : (v10_113 : Int32).toInt = (0) := congrArg Int32.toInt h_114
          unfold fX10_fire_54
          unfold fX10_fire_59
          refine hs_bd (s_fX10_throwsIf (fun j h => ra j (hs_inc (by decide) h)) (fun j h => ri j (hs_inc (by decide) h)) σ1_85 (1 : Int32) (2 : Int32) Iσ1_85 (show 0 ≤ (1) by omega) (show (1) ≤ 1 by omega) (fun σ1_116 v2_115 Iσ1_116 (gv2_115_0 : v2_115.toInt = (1)) (gv2_115_1 : (σ1_116.2 1).toInt = (σ1_85.2 1).toInt) (gv2_115_2 : (σ1_116.2 2).toInt = (σ1_85.2 2).toInt) (gv2_115_3 : (σ1_116.2 3).toInt = (σ1_85.2 3).toInt) (gv2_115_4 : (σ1_116.2 4).toInt = (σ1_85.2 4).toInt) (gv2_115_5 : (σ1_116.2 5).toInt = (σ1_85.2 5).toInt) (gv2_115_6 : (σ1_116.2 6).toInt = (σ1_85.2 6).toInt) (gv2_115_7 : (σ1_116.2 7).toInt = (σ1_85.2 7).toInt) (gv2_115_8 : (σ1_116.2 8).toInt = (σ1_85.2 8).toInt) (gv2_115_9 : (σ1_116.2 9).toInt = (σ1_85.2 9).toInt) (gv2_115_10 : (σ1_116.2 10).toInt = (σ1_85.2 10).toInt) (gv2_115_11 : (σ1_116.2 11).toInt = (σ1_85.2 11).toInt) (gv2_115_12 : ((1) = 0 ∧ (σ1_116.2 0).toInt = (σ1_85.2 0).toInt) ∨ ((1) = 1 ∧ (σ1_116.2 0).toInt = (2))) => ?_))
          have : (-2147483648 : Int) ≤ (σ1_116.2 0).toInt ∧ (σ1_116.2 0).toInt ≤ 2147483647 := Iσ1_116.2.1 0
          have : (0 : Int) ≤ (σ1_116.2 1).toInt ∧ (σ1_116.2 1).toInt ≤ 8 := Iσ1_116.2.1 1
          have : (0 : Int) ≤ (σ1_116.2 2).toInt ∧ (σ1_116.2 2).toInt ≤ 60 := Iσ1_116.2.1 2
          refine hs_ite (fun h_117 => ?_) (fun h_117 => ?_)
          · have : (v2_115 : Int32).toInt = (0) := congrArg Int32.toInt h_117
            refine hs_ite (fun h_118 => ?_) (fun h_118 => ?_)
            · have : ((σ1_116.2 2) : Int32).toInt = (60) := congrArg Int32.toInt h_118
              unfold fX10_fire_81
              refine hs_bd (s_fX10_throwsIf (fun j h => ra j (hs_inc (by decide) h)) (fun j h => ri j (hs_inc (by decide) h)) σ1_116 (1 : Int32) (3 : Int32) Iσ1_116 (show 0 ≤ (1) by omega) (show (1) ≤ 1 by omega) (fun σ1_120 v2_119 Iσ1_120 (gv2_119_0 : v2_119.toInt = (1)) (gv2_119_1 : (σ1_120.2 1).toInt = (σ1_116.2 1).toInt) (gv2_119_2 : (σ1_120.2 2).toInt = (σ1_116.2 2).toInt) (gv2_119_3 : (σ1_120.2 3).toInt = (σ1_116.2 3).toInt) (gv2_119_4 : (σ1_120.2 4).toInt = (σ1_116.2 4).toInt) (gv2_119_5 : (σ1_120.2 5).toInt = (σ1_116.2 5).toInt) (gv2_119_6 : (σ1_120.2 6).toInt = (σ1_116.2 6).toInt) (gv2_119_7 : (σ1_120.2 7).toInt = (σ1_116.2 7).toInt) (gv2_119_8 : (σ1_120.2 8).toInt = (σ1_116.2 8).toInt) (gv2_119_9 : (σ1_120.2 9).toInt = (σ1_116.2 9).toInt) (gv2_119_10 : (σ1_120.2 10).toInt = (σ1_116.2 10).toInt) (gv2_119_11 : (σ1_120.2 11).toInt = (σ1_116.2 11).toInt) (gv2_119_12 : ((1) = 0 ∧ (σ1_120.2 0).toInt = (σ1_116.2 0).toInt) ∨ ((1) = 1 ∧ (σ1_120.2 0).toInt = (3))) => ?_))
              have : (-2147483648 : Int) ≤ (σ1_120.2 0).toInt ∧ (σ1_120.2 0).toInt ≤ 2147483647 := Iσ1_120.2.1 0
              have : (0 : Int) ≤ (σ1_120.2 1).toInt ∧ (σ1_120.2 1).toInt ≤ 8 := Iσ1_120.2.1 1
              have : (0 : Int) ≤ (σ1_120.2 2).toInt ∧ (σ1_120.2 2).toInt ≤ 60 := Iσ1_120.2.1 2
              refine hs_ite (fun h_121 => ?_) (fun h_121 => ?_)
              · have : (v2_119 : Int32).toInt = (0) := congrArg Int32.toInt h_121
                refine hs_pa (idx := (σ1_120.2 2)) (v := x1) Iσ1_120 (by omega) (by omega) ⟨(by omega : (0 : Int) ≤ (x1 : Int32).toInt), (by omega : (x1 : Int32).toInt ≤ 7)⟩ (fun r => ⟨hm_Ra (by decide) r.1, ra 3 (by decide) _ _ r.2⟩) (fun σ5_122 eσ5_122 Iσ5_122 => ?_)
                have : (σ5_122.2 0).toInt = (σ1_120.2 0).toInt := by rw [eσ5_122]; rfl
                have : (σ5_122.2 1).toInt = (σ1_120.2 1).toInt := by rw [eσ5_122]; rfl
                have : (σ5_122.2 2).toInt = (σ1_120.2 2).toInt := by rw [eσ5_122]; rfl
                have : (-2147483648 : Int) ≤ (σ5_122.2 0).toInt ∧ (σ5_122.2 0).toInt ≤ 2147483647 := Iσ5_122.2.1 0
                have : (0 : Int) ≤ (σ5_122.2 1).toInt ∧ (σ5_122.2 1).toInt ≤ 8 := Iσ5_122.2.1 1
                have : (0 : Int) ≤ (σ5_122.2 2).toInt ∧ (σ5_122.2 2).toInt ≤ 60 := Iσ5_122.2.1 2
                refine hs_pa (idx := (σ5_122.2 2)) (v := _) Iσ5_122 (by omega) (by omega) (hs_any _) (fun r => ⟨hm_Ra (by decide) r.1, ra 4 (by decide) _ _ r.2⟩) (fun σ8_123 eσ8_123 Iσ8_123 => ?_)
                have : (σ8_123.2 0).toInt = (σ5_122.2 0).toInt := by rw [eσ8_123]; rfl
                have : (σ8_123.2 1).toInt = (σ5_122.2 1).toInt := by rw [eσ8_123]; rfl
                have : (σ8_123.2 2).toInt = (σ5_122.2 2).toInt := by rw [eσ8_123]; rfl
                have : (-2147483648 : Int) ≤ (σ8_123.2 0).toInt ∧ (σ8_123.2 0).toInt ≤ 2147483647 := Iσ8_123.2.1 0
                have : (0 : Int) ≤ (σ8_123.2 1).toInt ∧ (σ8_123.2 1).toInt ≤ 8 := Iσ8_123.2.1 1
                have : (0 : Int) ≤ (σ8_123.2 2).toInt ∧ (σ8_123.2 2).toInt ≤ 60 := Iσ8_123.2.1 2
                refine hs_pa (idx := (σ8_123.2 2)) (v := _) Iσ8_123 (by omega) (by omega) (hs_any _) (fun r => ⟨hm_Ra (by decide) r.1, ra 5 (by decide) _ _ r.2⟩) (fun σ11_124 eσ11_124 Iσ11_124 => ?_)
                have : (σ11_124.2 0).toInt = (σ8_123.2 0).toInt := by rw [eσ11_124]; rfl
                have : (σ11_124.2 1).toInt = (σ8_123.2 1).toInt := by rw [eσ11_124]; rfl
                have : (σ11_124.2 2).toInt = (σ8_123.2 2).toInt := by rw [eσ11_124]; rfl
                have : (-2147483648 : Int) ≤ (σ11_124.2 0).toInt ∧ (σ11_124.2 0).toInt ≤ 2147483647 := Iσ11_124.2.1 0
                have : (0 : Int) ≤ (σ11_124.2 1).toInt ∧ (σ11_124.2 1).toInt ≤ 8 := Iσ11_124.2.1 1
                have : (0 : Int) ≤ (σ11_124.2 2).toInt ∧ (σ11_124.2 2).toInt ≤ 60 := Iσ11_124.2.1 2
                refine hs_pa (idx := (σ11_124.2 2)) (v := (-1)) Iσ11_124 (by omega) (by omega) ⟨by decide, by decide⟩ (fun r => ⟨hm_R8 r.1, ra 8 (by decide) _ _ r.2⟩) (fun σ14_125 eσ14_125 Iσ14_125 => ?_)
                have : (σ14_125.2 0).toInt = (σ11_124.2 0).toInt := by rw [eσ14_125]; rfl
                have : (σ14_125.2 1).toInt = (σ11_124.2 1).toInt := by rw [eσ14_125]; rfl
                have : (σ14_125.2 2).toInt = (σ11_124.2 2).toInt := by rw [eσ14_125]; rfl
                have : (-2147483648 : Int) ≤ (σ14_125.2 0).toInt ∧ (σ14_125.2 0).toInt ≤ 2147483647 := Iσ14_125.2.1 0
                have : (0 : Int) ≤ (σ14_125.2 1).toInt ∧ (σ14_125.2 1).toInt ≤ 8 := Iσ14_125.2.1 1
                have : (0 : Int) ≤ (σ14_125.2 2).toInt ∧ (σ14_125.2 2).toInt ≤ 60 := Iσ14_125.2.1 2
                have : (σ14_125.1 8 ((σ11_124.2 2) : Int32).toNatClampNeg).toInt = (-1) := by rw [eσ14_125]; exact hs_same _ _ _ _
                have : (-1 : Int) ≤ (σ14_125.1 8 ((σ11_124.2 2) : Int32).toNatClampNeg).toInt ∧ (σ14_125.1 8 ((σ11_124.2 2) : Int32).toNatClampNeg).toInt ≤ 23 := Iσ14_125.1 8 _
                obtain ⟨e_126, he_126⟩ : ∃ e9 : Int32, e9 = ((σ14_125.2 2) + 1) := ⟨_, rfl⟩
                try have : e_126.toInt = ((σ14_125.2 2) : Int32).toInt + (1) := by rw [he_126]; exact hs_addk (1) rfl (by omega) (by omega)
                try rw [← he_126]
                refine hs_pf (v := e_126) Iσ14_125 ⟨(by omega : (0 : Int) ≤ (e_126 : Int32).toInt), (by omega : (e_126 : Int32).toInt ≤ 60)⟩ (fun r => ⟨hm_R2 (by rw [eσ14_125]; exact hs_sameN _ _) (by omega) (by omega) r.1, ri 2 (by decide) _ _ r.2⟩) (fun σ17_127 eσ17_127 Iσ17_127 => ?_)
                have : (σ17_127.2 0).toInt = (σ14_125.2 0).toInt := by rw [eσ17_127]; rfl
                have : (σ17_127.2 1).toInt = (σ14_125.2 1).toInt := by rw [eσ17_127]; rfl
                have : (σ17_127.2 2).toInt = (e_126 : Int32).toInt := by rw [eσ17_127]; rfl
                have : (-2147483648 : Int) ≤ (σ17_127.2 0).toInt ∧ (σ17_127.2 0).toInt ≤ 2147483647 := Iσ17_127.2.1 0
                have : (0 : Int) ≤ (σ17_127.2 1).toInt ∧ (σ17_127.2 1).toInt ≤ 8 := Iσ17_127.2.1 1
                have : (0 : Int) ≤ (σ17_127.2 2).toInt ∧ (σ17_127.2 2).toInt ≤ 60 := Iσ17_127.2.1 2
                have : (σ17_127.1 8 ((σ11_124.2 2) : Int32).toNatClampNeg).toInt = (σ14_125.1 8 ((σ11_124.2 2) : Int32).toNatClampNeg).toInt := by rw [eσ17_127]; rfl
                have : (-1 : Int) ≤ (σ17_127.1 8 ((σ11_124.2 2) : Int32).toNatClampNeg).toInt ∧ (σ17_127.1 8 ((σ11_124.2 2) : Int32).toNatClampNeg).toInt ≤ 23 := Iσ17_127.1 8 _
                obtain ⟨e_128, he_128⟩ : ∃ e9 : Int32, e9 = ((σ17_127.2 2) - 1) := ⟨_, rfl⟩
                try have : e_128.toInt = ((σ17_127.2 2) : Int32).toInt - (1) := by rw [he_128]; exact hs_subk (1) rfl (by omega) (by omega)
                try rw [← he_128]
                exact hs_some (hQ σ17_127 (e_128 : Int32) Iσ17_127 (show ((σ17_127.2 0).toInt = 0 ∧ 0 ≤ x1.toInt ∧ x1.toInt < (σ.2 1).toInt ∧ ¬ (x2.toInt < 0 ∨ 15 < x2.toInt ∨ x3.toInt < 1 ∨ 300 < x3.toInt) ∧ (σ.2 2).toInt < 60 ∧ (σ17_127.2 2).toInt = (σ.2 2).toInt + 1 ∧ (e_128 : Int32).toInt = (σ.2 2).toInt) ∨ ((σ17_127.2 0).toInt = 1 ∧ (x1.toInt < 0 ∨ (σ.2 1).toInt ≤ x1.toInt) ∧ (σ17_127.2 2).toInt = (σ.2 2).toInt) ∨ ((σ17_127.2 0).toInt = 2 ∧ 0 ≤ x1.toInt ∧ x1.toInt < (σ.2 1).toInt ∧ (x2.toInt < 0 ∨ 15 < x2.toInt ∨ x3.toInt < 1 ∨ 300 < x3.toInt) ∧ (σ17_127.2 2).toInt = (σ.2 2).toInt) ∨ ((σ17_127.2 0).toInt = 3 ∧ 0 ≤ x1.toInt ∧ x1.toInt < (σ.2 1).toInt ∧ ¬ (x2.toInt < 0 ∨ 15 < x2.toInt ∨ x3.toInt < 1 ∨ 300 < x3.toInt) ∧ 60 ≤ (σ.2 2).toInt ∧ (σ17_127.2 2).toInt = (σ.2 2).toInt) by omega))
              · have : ¬ (v2_119 : Int32).toInt = (0) := fun z => h_121 (Int32.toInt_inj.mp z)
                exact hs_some (hQ σ1_120 (0 : Int32) Iσ1_120 (show ((σ1_120.2 0).toInt = 0 ∧ 0 ≤ x1.toInt ∧ x1.toInt < (σ.2 1).toInt ∧ ¬ (x2.toInt < 0 ∨ 15 < x2.toInt ∨ x3.toInt < 1 ∨ 300 < x3.toInt) ∧ (σ.2 2).toInt < 60 ∧ (σ1_120.2 2).toInt = (σ.2 2).toInt + 1 ∧ (0) = (σ.2 2).toInt) ∨ ((σ1_120.2 0).toInt = 1 ∧ (x1.toInt < 0 ∨ (σ.2 1).toInt ≤ x1.toInt) ∧ (σ1_120.2 2).toInt = (σ.2 2).toInt) ∨ ((σ1_120.2 0).toInt = 2 ∧ 0 ≤ x1.toInt ∧ x1.toInt < (σ.2 1).toInt ∧ (x2.toInt < 0 ∨ 15 < x2.toInt ∨ x3.toInt < 1 ∨ 300 < x3.toInt) ∧ (σ1_120.2 2).toInt = (σ.2 2).toInt) ∨ ((σ1_120.2 0).toInt = 3 ∧ 0 ≤ x1.toInt ∧ x1.toInt < (σ.2 1).toInt ∧ ¬ (x2.toInt < 0 ∨ 15 < x2.toInt ∨ x3.toInt < 1 ∨ 300 < x3.toInt) ∧ 60 ≤ (σ.2 2).toInt ∧ (σ1_120.2 2).toInt = (σ.2 2).toInt) by omega))
            · have : ¬ ((σ1_116.2 2) : Int32).toInt = (60) := fun z => h_118 (Int32.toInt_inj.mp z)
              unfold fX10_fire_81
              refine hs_bd (s_fX10_throwsIf (fun j h => ra j (hs_inc (by decide) h)) (fun j h => ri j (hs_inc (by decide) h)) σ1_116 (0 : Int32) (3 : Int32) Iσ1_116 (show 0 ≤ (0) by omega) (show (0) ≤ 1 by omega) (fun σ1_130 v2_129 Iσ1_130 (gv2_129_0 : v2_129.toInt = (0)) (gv2_129_1 : (σ1_130.2 1).toInt = (σ1_116.2 1).toInt) (gv2_129_2 : (σ1_130.2 2).toInt = (σ1_116.2 2).toInt) (gv2_129_3 : (σ1_130.2 3).toInt = (σ1_116.2 3).toInt) (gv2_129_4 : (σ1_130.2 4).toInt = (σ1_116.2 4).toInt) (gv2_129_5 : (σ1_130.2 5).toInt = (σ1_116.2 5).toInt) (gv2_129_6 : (σ1_130.2 6).toInt = (σ1_116.2 6).toInt) (gv2_129_7 : (σ1_130.2 7).toInt = (σ1_116.2 7).toInt) (gv2_129_8 : (σ1_130.2 8).toInt = (σ1_116.2 8).toInt) (gv2_129_9 : (σ1_130.2 9).toInt = (σ1_116.2 9).toInt) (gv2_129_10 : (σ1_130.2 10).toInt = (σ1_116.2 10).toInt) (gv2_129_11 : (σ1_130.2 11).toInt = (σ1_116.2 11).toInt) (gv2_129_12 : ((0) = 0 ∧ (σ1_130.2 0).toInt = (σ1_116.2 0).toInt) ∨ ((0) = 1 ∧ (σ1_130.2 0).toInt = (3))) => ?_))
              have : (-2147483648 : Int) ≤ (σ1_130.2 0).toInt ∧ (σ1_130.2 0).toInt ≤ 2147483647 := Iσ1_130.2.1 0
              have : (0 : Int) ≤ (σ1_130.2 1).toInt ∧ (σ1_130.2 1).toInt ≤ 8 := Iσ1_130.2.1 1
              have : (0 : Int) ≤ (σ1_130.2 2).toInt ∧ (σ1_130.2 2).toInt ≤ 60 := Iσ1_130.2.1 2
              refine hs_ite (fun h_131 => ?_) (fun h_131 => ?_)
              · have : (v2_129 : Int32).toInt = (0) := congrArg Int32.toInt h_131
                refine hs_pa (idx := (σ1_130.2 2)) (v := x1) Iσ1_130 (by omega) (by omega) ⟨(by omega : (0 : Int) ≤ (x1 : Int32).toInt), (by omega : (x1 : Int32).toInt ≤ 7)⟩ (fun r => ⟨hm_Ra (by decide) r.1, ra 3 (by decide) _ _ r.2⟩) (fun σ5_132 eσ5_132 Iσ5_132 => ?_)
                have : (σ5_132.2 0).toInt = (σ1_130.2 0).toInt := by rw [eσ5_132]; rfl
                have : (σ5_132.2 1).toInt = (σ1_130.2 1).toInt := by rw [eσ5_132]; rfl
                have : (σ5_132.2 2).toInt = (σ1_130.2 2).toInt := by rw [eσ5_132]; rfl
                have : (-2147483648 : Int) ≤ (σ5_132.2 0).toInt ∧ (σ5_132.2 0).toInt ≤ 2147483647 := Iσ5_132.2.1 0
                have : (0 : Int) ≤ (σ5_132.2 1).toInt ∧ (σ5_132.2 1).toInt ≤ 8 := Iσ5_132.2.1 1
                have : (0 : Int) ≤ (σ5_132.2 2).toInt ∧ (σ5_132.2 2).toInt ≤ 60 := Iσ5_132.2.1 2
                refine hs_pa (idx := (σ5_132.2 2)) (v := _) Iσ5_132 (by omega) (by omega) (hs_any _) (fun r => ⟨hm_Ra (by decide) r.1, ra 4 (by decide) _ _ r.2⟩) (fun σ8_133 eσ8_133 Iσ8_133 => ?_)
                have : (σ8_133.2 0).toInt = (σ5_132.2 0).toInt := by rw [eσ8_133]; rfl
                have : (σ8_133.2 1).toInt = (σ5_132.2 1).toInt := by rw [eσ8_133]; rfl
                have : (σ8_133.2 2).toInt = (σ5_132.2 2).toInt := by rw [eσ8_133]; rfl
                have : (-2147483648 : Int) ≤ (σ8_133.2 0).toInt ∧ (σ8_133.2 0).toInt ≤ 2147483647 := Iσ8_133.2.1 0
                have : (0 : Int) ≤ (σ8_133.2 1).toInt ∧ (σ8_133.2 1).toInt ≤ 8 := Iσ8_133.2.1 1
                have : (0 : Int) ≤ (σ8_133.2 2).toInt ∧ (σ8_133.2 2).toInt ≤ 60 := Iσ8_133.2.1 2
                refine hs_pa (idx := (σ8_133.2 2)) (v := _) Iσ8_133 (by omega) (by omega) (hs_any _) (fun r => ⟨hm_Ra (by decide) r.1, ra 5 (by decide) _ _ r.2⟩) (fun σ11_134 eσ11_134 Iσ11_134 => ?_)
                have : (σ11_134.2 0).toInt = (σ8_133.2 0).toInt := by rw [eσ11_134]; rfl
                have : (σ11_134.2 1).toInt = (σ8_133.2 1).toInt := by rw [eσ11_134]; rfl
                have : (σ11_134.2 2).toInt = (σ8_133.2 2).toInt := by rw [eσ11_134]; rfl
                have : (-2147483648 : Int) ≤ (σ11_134.2 0).toInt ∧ (σ11_134.2 0).toInt ≤ 2147483647 := Iσ11_134.2.1 0
                have : (0 : Int) ≤ (σ11_134.2 1).toInt ∧ (σ11_134.2 1).toInt ≤ 8 := Iσ11_134.2.1 1
                have : (0 : Int) ≤ (σ11_134.2 2).toInt ∧ (σ11_134.2 2).toInt ≤ 60 := Iσ11_134.2.1 2
                refine hs_pa (idx := (σ11_134.2 2)) (v := (-1)) Iσ11_134 (by omega) (by omega) ⟨by decide, by decide⟩ (fun r => ⟨hm_R8 r.1, ra 8 (by decide) _ _ r.2⟩) (fun σ14_135 eσ14_135 Iσ14_135 => ?_)
                have : (σ14_135.2 0).toInt = (σ11_134.2 0).toInt := by rw [eσ14_135]; rfl
                have : (σ14_135.2 1).toInt = (σ11_134.2 1).toInt := by rw [eσ14_135]; rfl
                have : (σ14_135.2 2).toInt = (σ11_134.2 2).toInt := by rw [eσ14_135]; rfl
                have : (-2147483648 : Int) ≤ (σ14_135.2 0).toInt ∧ (σ14_135.2 0).toInt ≤ 2147483647 := Iσ14_135.2.1 0
                have : (0 : Int) ≤ (σ14_135.2 1).toInt ∧ (σ14_135.2 1).toInt ≤ 8 := Iσ14_135.2.1 1
                have : (0 : Int) ≤ (σ14_135.2 2).toInt ∧ (σ14_135.2 2).toInt ≤ 60 := Iσ14_135.2.1 2
                have : (σ14_135.1 8 ((σ11_134.2 2) : Int32).toNatClampNeg).toInt = (-1) := by rw [eσ14_135]; exact hs_same _ _ _ _
                have : (-1 : Int) ≤ (σ14_135.1 8 ((σ11_134.2 2) : Int32).toNatClampNeg).toInt ∧ (σ14_135.1 8 ((σ11_134.2 2) : Int32).toNatClampNeg).toInt ≤ 23 := Iσ14_135.1 8 _
                obtain ⟨e_136, he_136⟩ : ∃ e9 : Int32, e9 = ((σ14_135.2 2) + 1) := ⟨_, rfl⟩
                try have : e_136.toInt = ((σ14_135.2 2) : Int32).toInt + (1) := by rw [he_136]; exact hs_addk (1) rfl (by omega) (by omega)
                try rw [← he_136]
                refine hs_pf (v := e_136) Iσ14_135 ⟨(by omega : (0 : Int) ≤ (e_136 : Int32).toInt), (by omega : (e_136 : Int32).toInt ≤ 60)⟩ (fun r => ⟨hm_R2 (by rw [eσ14_135]; exact hs_sameN _ _) (by omega) (by omega) r.1, ri 2 (by decide) _ _ r.2⟩) (fun σ17_137 eσ17_137 Iσ17_137 => ?_)
                have : (σ17_137.2 0).toInt = (σ14_135.2 0).toInt := by rw [eσ17_137]; rfl
                have : (σ17_137.2 1).toInt = (σ14_135.2 1).toInt := by rw [eσ17_137]; rfl
                have : (σ17_137.2 2).toInt = (e_136 : Int32).toInt := by rw [eσ17_137]; rfl
                have : (-2147483648 : Int) ≤ (σ17_137.2 0).toInt ∧ (σ17_137.2 0).toInt ≤ 2147483647 := Iσ17_137.2.1 0
                have : (0 : Int) ≤ (σ17_137.2 1).toInt ∧ (σ17_137.2 1).toInt ≤ 8 := Iσ17_137.2.1 1
                have : (0 : Int) ≤ (σ17_137.2 2).toInt ∧ (σ17_137.2 2).toInt ≤ 60 := Iσ17_137.2.1 2
                have : (σ17_137.1 8 ((σ11_134.2 2) : Int32).toNatClampNeg).toInt = (σ14_135.1 8 ((σ11_134.2 2) : Int32).toNatClampNeg).toInt := by rw [eσ17_137]; rfl
                have : (-1 : Int) ≤ (σ17_137.1 8 ((σ11_134.2 2) : Int32).toNatClampNeg).toInt ∧ (σ17_137.1 8 ((σ11_134.2 2) : Int32).toNatClampNeg).toInt ≤ 23 := Iσ17_137.1 8 _
                obtain ⟨e_138, he_138⟩ : ∃ e9 : Int32, e9 = ((σ17_137.2 2) - 1) := ⟨_, rfl⟩
                try have : e_138.toInt = ((σ17_137.2 2) : Int32).toInt - (1) := by rw [he_138]; exact hs_subk (1) rfl (by omega) (by omega)
                try rw [← he_138]
                exact hs_some (hQ σ17_137 (e_138 : Int32) Iσ17_137 (show ((σ17_137.2 0).toInt = 0 ∧ 0 ≤ x1.toInt ∧ x1.toInt < (σ.2 1).toInt ∧ ¬ (x2.toInt < 0 ∨ 15 < x2.toInt ∨ x3.toInt < 1 ∨ 300 < x3.toInt) ∧ (σ.2 2).toInt < 60 ∧ (σ17_137.2 2).toInt = (σ.2 2).toInt + 1 ∧ (e_138 : Int32).toInt = (σ.2 2).toInt) ∨ ((σ17_137.2 0).toInt = 1 ∧ (x1.toInt < 0 ∨ (σ.2 1).toInt ≤ x1.toInt) ∧ (σ17_137.2 2).toInt = (σ.2 2).toInt) ∨ ((σ17_137.2 0).toInt = 2 ∧ 0 ≤ x1.toInt ∧ x1.toInt < (σ.2 1).toInt ∧ (x2.toInt < 0 ∨ 15 < x2.toInt ∨ x3.toInt < 1 ∨ 300 < x3.toInt) ∧ (σ17_137.2 2).toInt = (σ.2 2).toInt) ∨ ((σ17_137.2 0).toInt = 3 ∧ 0 ≤ x1.toInt ∧ x1.toInt < (σ.2 1).toInt ∧ ¬ (x2.toInt < 0 ∨ 15 < x2.toInt ∨ x3.toInt < 1 ∨ 300 < x3.toInt) ∧ 60 ≤ (σ.2 2).toInt ∧ (σ17_137.2 2).toInt = (σ.2 2).toInt) by omega))
              · have : ¬ (v2_129 : Int32).toInt = (0) := fun z => h_131 (Int32.toInt_inj.mp z)
                exact hs_some (hQ σ1_130 (0 : Int32) Iσ1_130 (show ((σ1_130.2 0).toInt = 0 ∧ 0 ≤ x1.toInt ∧ x1.toInt < (σ.2 1).toInt ∧ ¬ (x2.toInt < 0 ∨ 15 < x2.toInt ∨ x3.toInt < 1 ∨ 300 < x3.toInt) ∧ (σ.2 2).toInt < 60 ∧ (σ1_130.2 2).toInt = (σ.2 2).toInt + 1 ∧ (0) = (σ.2 2).toInt) ∨ ((σ1_130.2 0).toInt = 1 ∧ (x1.toInt < 0 ∨ (σ.2 1).toInt ≤ x1.toInt) ∧ (σ1_130.2 2).toInt = (σ.2 2).toInt) ∨ ((σ1_130.2 0).toInt = 2 ∧ 0 ≤ x1.toInt ∧ x1.toInt < (σ.2 1).toInt ∧ (x2.toInt < 0 ∨ 15 < x2.toInt ∨ x3.toInt < 1 ∨ 300 < x3.toInt) ∧ (σ1_130.2 2).toInt = (σ.2 2).toInt) ∨ ((σ1_130.2 0).toInt = 3 ∧ 0 ≤ x1.toInt ∧ x1.toInt < (σ.2 1).toInt ∧ ¬ (x2.toInt < 0 ∨ 15 < x2.toInt ∨ x3.toInt < 1 ∨ 300 < x3.toInt) ∧ 60 ≤ (σ.2 2).toInt ∧ (σ1_130.2 2).toInt = (σ.2 2).toInt) by omega))
          · have : ¬ (v2_115 : Int32).toInt = (0) := fun z => h_117 (Int32.toInt_inj.mp z)
            exact hs_some (hQ σ1_116 (0 : Int32) Iσ1_116 (show ((σ1_116.2 0).toInt = 0 ∧ 0 ≤ x1.toInt ∧ x1.toInt < (σ.2 1).toInt ∧ ¬ (x2.toInt < 0 ∨ 15 < x2.toInt ∨ x3.toInt < 1 ∨ 300 < x3.toInt) ∧ (σ.2 2).toInt < 60 ∧ (σ1_116.2 2).toInt = (σ.2 2).toInt + 1 ∧ (0) = (σ.2 2).toInt) ∨ ((σ1_116.2 0).toInt = 1 ∧ (x1.toInt < 0 ∨ (σ.2 1).toInt ≤ x1.toInt) ∧ (σ1_116.2 2).toInt = (σ.2 2).toInt) ∨ ((σ1_116.2 0).toInt = 2 ∧ 0 ≤ x1.toInt ∧ x1.toInt < (σ.2 1).toInt ∧ (x2.toInt < 0 ∨ 15 < x2.toInt ∨ x3.toInt < 1 ∨ 300 < x3.toInt) ∧ (σ1_116.2 2).toInt = (σ.2 2).toInt) ∨ ((σ1_116.2 0).toInt = 3 ∧ 0 ≤ x1.toInt ∧ x1.toInt < (σ.2 1).toInt ∧ ¬ (x2.toInt < 0 ∨ 15 < x2.toInt ∨ x3.toInt < 1 ∨ 300 < x3.toInt) ∧ 60 ≤ (σ.2 2).toInt ∧ (σ1_116.2 2).toInt = (σ.2 2).toInt) by omega))
        · have : ¬ (v10_113 : Int32).toInt = (0) := fun z => h_114 (Int32.toInt_inj.mp z)
          unfold fX10_fire_59
          refine hs_bd (s_fX10_throwsIf (fun j h => ra j (hs_inc (by decide) h)) (fun j h => ri j (hs_inc (by decide) h)) σ1_85 (0 : Int32) (2 : Int32) Iσ1_85 (show 0 ≤ (0) by omega) (show (0) ≤ 1 by omega) (fun σ1_140 v2_139 Iσ1_140 (gv2_139_0 : v2_139.toInt = (0)) (gv2_139_1 : (σ1_140.2 1).toInt = (σ1_85.2 1).toInt) (gv2_139_2 : (σ1_140.2 2).toInt = (σ1_85.2 2).toInt) (gv2_139_3 : (σ1_140.2 3).toInt = (σ1_85.2 3).toInt) (gv2_139_4 : (σ1_140.2 4).toInt = (σ1_85.2 4).toInt) (gv2_139_5 : (σ1_140.2 5).toInt = (σ1_85.2 5).toInt) (gv2_139_6 : (σ1_140.2 6).toInt = (σ1_85.2 6).toInt) (gv2_139_7 : (σ1_140.2 7).toInt = (σ1_85.2 7).toInt) (gv2_139_8 : (σ1_140.2 8).toInt = (σ1_85.2 8).toInt) (gv2_139_9 : (σ1_140.2 9).toInt = (σ1_85.2 9).toInt) (gv2_139_10 : (σ1_140.2 10).toInt = (σ1_85.2 10).toInt) (gv2_139_11 : (σ1_140.2 11).toInt = (σ1_85.2 11).toInt) (gv2_139_12 : ((0) = 0 ∧ (σ1_140.2 0).toInt = (σ1_85.2 0).toInt) ∨ ((0) = 1 ∧ (σ1_140.2 0).toInt = (2))) => ?_))
          have : (-2147483648 : Int) ≤ (σ1_140.2 0).toInt ∧ (σ1_140.2 0).toInt ≤ 2147483647 := Iσ1_140.2.1 0
          have : (0 : Int) ≤ (σ1_140.2 1).toInt ∧ (σ1_140.2 1).toInt ≤ 8 := Iσ1_140.2.1 1
          have : (0 : Int) ≤ (σ1_140.2 2).toInt ∧ (σ1_140.2 2).toInt ≤ 60 := Iσ1_140.2.1 2
          refine hs_ite (fun h_141 => ?_) (fun h_141 => ?_)
          · have : (v2_139 : Int32).toInt = (0) := congrArg Int32.toInt h_141
            refine hs_ite (fun h_142 => ?_) (fun h_142 => ?_)
            · have : ((σ1_140.2 2) : Int32).toInt = (60) := congrArg Int32.toInt h_142
              unfold fX10_fire_81
              refine hs_bd (s_fX10_throwsIf (fun j h => ra j (hs_inc (by decide) h)) (fun j h => ri j (hs_inc (by decide) h)) σ1_140 (1 : Int32) (3 : Int32) Iσ1_140 (show 0 ≤ (1) by omega) (show (1) ≤ 1 by omega) (fun σ1_144 v2_143 Iσ1_144 (gv2_143_0 : v2_143.toInt = (1)) (gv2_143_1 : (σ1_144.2 1).toInt = (σ1_140.2 1).toInt) (gv2_143_2 : (σ1_144.2 2).toInt = (σ1_140.2 2).toInt) (gv2_143_3 : (σ1_144.2 3).toInt = (σ1_140.2 3).toInt) (gv2_143_4 : (σ1_144.2 4).toInt = (σ1_140.2 4).toInt) (gv2_143_5 : (σ1_144.2 5).toInt = (σ1_140.2 5).toInt) (gv2_143_6 : (σ1_144.2 6).toInt = (σ1_140.2 6).toInt) (gv2_143_7 : (σ1_144.2 7).toInt = (σ1_140.2 7).toInt) (gv2_143_8 : (σ1_144.2 8).toInt = (σ1_140.2 8).toInt) (gv2_143_9 : (σ1_144.2 9).toInt = (σ1_140.2 9).toInt) (gv2_143_10 : (σ1_144.2 10).toInt = (σ1_140.2 10).toInt) (gv2_143_11 : (σ1_144.2 11).toInt = (σ1_140.2 11).toInt) (gv2_143_12 : ((1) = 0 ∧ (σ1_144.2 0).toInt = (σ1_140.2 0).toInt) ∨ ((1) = 1 ∧ (σ1_144.2 0).toInt = (3))) => ?_))
              have : (-2147483648 : Int) ≤ (σ1_144.2 0).toInt ∧ (σ1_144.2 0).toInt ≤ 2147483647 := Iσ1_144.2.1 0
              have : (0 : Int) ≤ (σ1_144.2 1).toInt ∧ (σ1_144.2 1).toInt ≤ 8 := Iσ1_144.2.1 1
              have : (0 : Int) ≤ (σ1_144.2 2).toInt ∧ (σ1_144.2 2).toInt ≤ 60 := Iσ1_144.2.1 2
              refine hs_ite (fun h_145 => ?_) (fun h_145 => ?_)
              · have : (v2_143 : Int32).toInt = (0) := congrArg Int32.toInt h_145
                refine hs_pa (idx := (σ1_144.2 2)) (v := x1) Iσ1_144 (by omega) (by omega) ⟨(by omega : (0 : Int) ≤ (x1 : Int32).toInt), (by omega : (x1 : Int32).toInt ≤ 7)⟩ (fun r => ⟨hm_Ra (by decide) r.1, ra 3 (by decide) _ _ r.2⟩) (fun σ5_146 eσ5_146 Iσ5_146 => ?_)
                have : (σ5_146.2 0).toInt = (σ1_144.2 0).toInt := by rw [eσ5_146]; rfl
                have : (σ5_146.2 1).toInt = (σ1_144.2 1).toInt := by rw [eσ5_146]; rfl
                have : (σ5_146.2 2).toInt = (σ1_144.2 2).toInt := by rw [eσ5_146]; rfl
                have : (-2147483648 : Int) ≤ (σ5_146.2 0).toInt ∧ (σ5_146.2 0).toInt ≤ 2147483647 := Iσ5_146.2.1 0
                have : (0 : Int) ≤ (σ5_146.2 1).toInt ∧ (σ5_146.2 1).toInt ≤ 8 := Iσ5_146.2.1 1
                have : (0 : Int) ≤ (σ5_146.2 2).toInt ∧ (σ5_146.2 2).toInt ≤ 60 := Iσ5_146.2.1 2
                refine hs_pa (idx := (σ5_146.2 2)) (v := _) Iσ5_146 (by omega) (by omega) (hs_any _) (fun r => ⟨hm_Ra (by decide) r.1, ra 4 (by decide) _ _ r.2⟩) (fun σ8_147 eσ8_147 Iσ8_147 => ?_)
                have : (σ8_147.2 0).toInt = (σ5_146.2 0).toInt := by rw [eσ8_147]; rfl
                have : (σ8_147.2 1).toInt = (σ5_146.2 1).toInt := by rw [eσ8_147]; rfl
                have : (σ8_147.2 2).toInt = (σ5_146.2 2).toInt := by rw [eσ8_147]; rfl
                have : (-2147483648 : Int) ≤ (σ8_147.2 0).toInt ∧ (σ8_147.2 0).toInt ≤ 2147483647 := Iσ8_147.2.1 0
                have : (0 : Int) ≤ (σ8_147.2 1).toInt ∧ (σ8_147.2 1).toInt ≤ 8 := Iσ8_147.2.1 1
                have : (0 : Int) ≤ (σ8_147.2 2).toInt ∧ (σ8_147.2 2).toInt ≤ 60 := Iσ8_147.2.1 2
                refine hs_pa (idx := (σ8_147.2 2)) (v := _) Iσ8_147 (by omega) (by omega) (hs_any _) (fun r => ⟨hm_Ra (by decide) r.1, ra 5 (by decide) _ _ r.2⟩) (fun σ11_148 eσ11_148 Iσ11_148 => ?_)
                have : (σ11_148.2 0).toInt = (σ8_147.2 0).toInt := by rw [eσ11_148]; rfl
                have : (σ11_148.2 1).toInt = (σ8_147.2 1).toInt := by rw [eσ11_148]; rfl
                have : (σ11_148.2 2).toInt = (σ8_147.2 2).toInt := by rw [eσ11_148]; rfl
                have : (-2147483648 : Int) ≤ (σ11_148.2 0).toInt ∧ (σ11_148.2 0).toInt ≤ 2147483647 := Iσ11_148.2.1 0
                have : (0 : Int) ≤ (σ11_148.2 1).toInt ∧ (σ11_148.2 1).toInt ≤ 8 := Iσ11_148.2.1 1
                have : (0 : Int) ≤ (σ11_148.2 2).toInt ∧ (σ11_148.2 2).toInt ≤ 60 := Iσ11_148.2.1 2
                refine hs_pa (idx := (σ11_148.2 2)) (v := (-1)) Iσ11_148 (by omega) (by omega) ⟨by decide, by decide⟩ (fun r => ⟨hm_R8 r.1, ra 8 (by decide) _ _ r.2⟩) (fun σ14_149 eσ14_149 Iσ14_149 => ?_)
                have : (σ14_149.2 0).toInt = (σ11_148.2 0).toInt := by rw [eσ14_149]; rfl
                have : (σ14_149.2 1).toInt = (σ11_148.2 1).toInt := by rw [eσ14_149]; rfl
                have : (σ14_149.2 2).toInt = (σ11_148.2 2).toInt := by rw [eσ14_149]; rfl
                have : (-2147483648 : Int) ≤ (σ14_149.2 0).toInt ∧ (σ14_149.2 0).toInt ≤ 2147483647 := Iσ14_149.2.1 0
                have : (0 : Int) ≤ (σ14_149.2 1).toInt ∧ (σ14_149.2 1).toInt ≤ 8 := Iσ14_149.2.1 1
                have : (0 : Int) ≤ (σ14_149.2 2).toInt ∧ (σ14_149.2 2).toInt ≤ 60 := Iσ14_149.2.1 2
                have : (σ14_149.1 8 ((σ11_148.2 2) : Int32).toNatClampNeg).toInt = (-1) := by rw [eσ14_149]; exact hs_same _ _ _ _
                have : (-1 : Int) ≤ (σ14_149.1 8 ((σ11_148.2 2) : Int32).toNatClampNeg).toInt ∧ (σ14_149.1 8 ((σ11_148.2 2) : Int32).toNatClampNeg).toInt ≤ 23 := Iσ14_149.1 8 _
                obtain ⟨e_150, he_150⟩ : ∃ e9 : Int32, e9 = ((σ14_149.2 2) + 1) := ⟨_, rfl⟩
                try have : e_150.toInt = ((σ14_149.2 2) : Int32).toInt + (1) := by rw [he_150]; exact hs_addk (1) rfl (by omega) (by omega)
                try rw [← he_150]
                refine hs_pf (v := e_150) Iσ14_149 ⟨(by omega : (0 : Int) ≤ (e_150 : Int32).toInt), (by omega : (e_150 : Int32).toInt ≤ 60)⟩ (fun r => ⟨hm_R2 (by rw [eσ14_149]; exact hs_sameN _ _) (by omega) (by omega) r.1, ri 2 (by decide) _ _ r.2⟩) (fun σ17_151 eσ17_151 Iσ17_151 => ?_)
                have : (σ17_151.2 0).toInt = (σ14_149.2 0).toInt := by rw [eσ17_151]; rfl
                have : (σ17_151.2 1).toInt = (σ14_149.2 1).toInt := by rw [eσ17_151]; rfl
                have : (σ17_151.2 2).toInt = (e_150 : Int32).toInt := by rw [eσ17_151]; rfl
                have : (-2147483648 : Int) ≤ (σ17_151.2 0).toInt ∧ (σ17_151.2 0).toInt ≤ 2147483647 := Iσ17_151.2.1 0
                have : (0 : Int) ≤ (σ17_151.2 1).toInt ∧ (σ17_151.2 1).toInt ≤ 8 := Iσ17_151.2.1 1
                have : (0 : Int) ≤ (σ17_151.2 2).toInt ∧ (σ17_151.2 2).toInt ≤ 60 := Iσ17_151.2.1 2
                have : (σ17_151.1 8 ((σ11_148.2 2) : Int32).toNatClampNeg).toInt = (σ14_149.1 8 ((σ11_148.2 2) : Int32).toNatClampNeg).toInt := by rw [eσ17_151]; rfl
                have : (-1 : Int) ≤ (σ17_151.1 8 ((σ11_148.2 2) : Int32).toNatClampNeg).toInt ∧ (σ17_151.1 8 ((σ11_148.2 2) : Int32).toNatClampNeg).toInt ≤ 23 := Iσ17_151.1 8 _
                obtain ⟨e_152, he_152⟩ : ∃ e9 : Int32, e9 = ((σ17_151.2 2) - 1) := ⟨_, rfl⟩
                try have : e_152.toInt = ((σ17_151.2 2) : Int32).toInt - (1) := by rw [he_152]; exact hs_subk (1) rfl (by omega) (by omega)
                try rw [← he_152]
                exact hs_some (hQ σ17_151 (e_152 : Int32) Iσ17_151 (show ((σ17_151.2 0).toInt = 0 ∧ 0 ≤ x1.toInt ∧ x1.toInt < (σ.2 1).toInt ∧ ¬ (x2.toInt < 0 ∨ 15 < x2.toInt ∨ x3.toInt < 1 ∨ 300 < x3.toInt) ∧ (σ.2 2).toInt < 60 ∧ (σ17_151.2 2).toInt = (σ.2 2).toInt + 1 ∧ (e_152 : Int32).toInt = (σ.2 2).toInt) ∨ ((σ17_151.2 0).toInt = 1 ∧ (x1.toInt < 0 ∨ (σ.2 1).toInt ≤ x1.toInt) ∧ (σ17_151.2 2).toInt = (σ.2 2).toInt) ∨ ((σ17_151.2 0).toInt = 2 ∧ 0 ≤ x1.toInt ∧ x1.toInt < (σ.2 1).toInt ∧ (x2.toInt < 0 ∨ 15 < x2.toInt ∨ x3.toInt < 1 ∨ 300 < x3.toInt) ∧ (σ17_151.2 2).toInt = (σ.2 2).toInt) ∨ ((σ17_151.2 0).toInt = 3 ∧ 0 ≤ x1.toInt ∧ x1.toInt < (σ.2 1).toInt ∧ ¬ (x2.toInt < 0 ∨ 15 < x2.toInt ∨ x3.toInt < 1 ∨ 300 < x3.toInt) ∧ 60 ≤ (σ.2 2).toInt ∧ (σ17_151.2 2).toInt = (σ.2 2).toInt) by omega))
              · have : ¬ (v2_143 : Int32).toInt = (0) := fun z => h_145 (Int32.toInt_inj.mp z)
                exact hs_some (hQ σ1_144 (0 : Int32) Iσ1_144 (show ((σ1_144.2 0).toInt = 0 ∧ 0 ≤ x1.toInt ∧ x1.toInt < (σ.2 1).toInt ∧ ¬ (x2.toInt < 0 ∨ 15 < x2.toInt ∨ x3.toInt < 1 ∨ 300 < x3.toInt) ∧ (σ.2 2).toInt < 60 ∧ (σ1_144.2 2).toInt = (σ.2 2).toInt + 1 ∧ (0) = (σ.2 2).toInt) ∨ ((σ1_144.2 0).toInt = 1 ∧ (x1.toInt < 0 ∨ (σ.2 1).toInt ≤ x1.toInt) ∧ (σ1_144.2 2).toInt = (σ.2 2).toInt) ∨ ((σ1_144.2 0).toInt = 2 ∧ 0 ≤ x1.toInt ∧ x1.toInt < (σ.2 1).toInt ∧ (x2.toInt < 0 ∨ 15 < x2.toInt ∨ x3.toInt < 1 ∨ 300 < x3.toInt) ∧ (σ1_144.2 2).toInt = (σ.2 2).toInt) ∨ ((σ1_144.2 0).toInt = 3 ∧ 0 ≤ x1.toInt ∧ x1.toInt < (σ.2 1).toInt ∧ ¬ (x2.toInt < 0 ∨ 15 < x2.toInt ∨ x3.toInt < 1 ∨ 300 < x3.toInt) ∧ 60 ≤ (σ.2 2).toInt ∧ (σ1_144.2 2).toInt = (σ.2 2).toInt) by omega))
            · have : ¬ ((σ1_140.2 2) : Int32).toInt = (60) := fun z => h_142 (Int32.toInt_inj.mp z)
              unfold fX10_fire_81
              refine hs_bd (s_fX10_throwsIf (fun j h => ra j (hs_inc (by decide) h)) (fun j h => ri j (hs_inc (by decide) h)) σ1_140 (0 : Int32) (3 : Int32) Iσ1_140 (show 0 ≤ (0) by omega) (show (0) ≤ 1 by omega) (fun σ1_154 v2_153 Iσ1_154 (gv2_153_0 : v2_153.toInt = (0)) (gv2_153_1 : (σ1_154.2 1).toInt = (σ1_140.2 1).toInt) (gv2_153_2 : (σ1_154.2 2).toInt = (σ1_140.2 2).toInt) (gv2_153_3 : (σ1_154.2 3).toInt = (σ1_140.2 3).toInt) (gv2_153_4 : (σ1_154.2 4).toInt = (σ1_140.2 4).toInt) (gv2_153_5 : (σ1_154.2 5).toInt = (σ1_140.2 5).toInt) (gv2_153_6 : (σ1_154.2 6).toInt = (σ1_140.2 6).toInt) (gv2_153_7 : (σ1_154.2 7).toInt = (σ1_140.2 7).toInt) (gv2_153_8 : (σ1_154.2 8).toInt = (σ1_140.2 8).toInt) (gv2_153_9 : (σ1_154.2 9).toInt = (σ1_140.2 9).toInt) (gv2_153_10 : (σ1_154.2 10).toInt = (σ1_140.2 10).toInt) (gv2_153_11 : (σ1_154.2 11).toInt = (σ1_140.2 11).toInt) (gv2_153_12 : ((0) = 0 ∧ (σ1_154.2 0).toInt = (σ1_140.2 0).toInt) ∨ ((0) = 1 ∧ (σ1_154.2 0).toInt = (3))) => ?_))
              have : (-2147483648 : Int) ≤ (σ1_154.2 0).toInt ∧ (σ1_154.2 0).toInt ≤ 2147483647 := Iσ1_154.2.1 0
              have : (0 : Int) ≤ (σ1_154.2 1).toInt ∧ (σ1_154.2 1).toInt ≤ 8 := Iσ1_154.2.1 1
              have : (0 : Int) ≤ (σ1_154.2 2).toInt ∧ (σ1_154.2 2).toInt ≤ 60 := Iσ1_154.2.1 2
              refine hs_ite (fun h_155 => ?_) (fun h_155 => ?_)
              · have : (v2_153 : Int32).toInt = (0) := congrArg Int32.toInt h_155
                refine hs_pa (idx := (σ1_154.2 2)) (v := x1) Iσ1_154 (by omega) (by omega) ⟨(by omega : (0 : Int) ≤ (x1 : Int32).toInt), (by omega : (x1 : Int32).toInt ≤ 7)⟩ (fun r => ⟨hm_Ra (by decide) r.1, ra 3 (by decide) _ _ r.2⟩) (fun σ5_156 eσ5_156 Iσ5_156 => ?_)
                have : (σ5_156.2 0).toInt = (σ1_154.2 0).toInt := by rw [eσ5_156]; rfl
                have : (σ5_156.2 1).toInt = (σ1_154.2 1).toInt := by rw [eσ5_156]; rfl
                have : (σ5_156.2 2).toInt = (σ1_154.2 2).toInt := by rw [eσ5_156]; rfl
                have : (-2147483648 : Int) ≤ (σ5_156.2 0).toInt ∧ (σ5_156.2 0).toInt ≤ 2147483647 := Iσ5_156.2.1 0
                have : (0 : Int) ≤ (σ5_156.2 1).toInt ∧ (σ5_156.2 1).toInt ≤ 8 := Iσ5_156.2.1 1
                have : (0 : Int) ≤ (σ5_156.2 2).toInt ∧ (σ5_156.2 2).toInt ≤ 60 := Iσ5_156.2.1 2
                refine hs_pa (idx := (σ5_156.2 2)) (v := _) Iσ5_156 (by omega) (by omega) (hs_any _) (fun r => ⟨hm_Ra (by decide) r.1, ra 4 (by decide) _ _ r.2⟩) (fun σ8_157 eσ8_157 Iσ8_157 => ?_)
                have : (σ8_157.2 0).toInt = (σ5_156.2 0).toInt := by rw [eσ8_157]; rfl
                have : (σ8_157.2 1).toInt = (σ5_156.2 1).toInt := by rw [eσ8_157]; rfl
                have : (σ8_157.2 2).toInt = (σ5_156.2 2).toInt := by rw [eσ8_157]; rfl
                have : (-2147483648 : Int) ≤ (σ8_157.2 0).toInt ∧ (σ8_157.2 0).toInt ≤ 2147483647 := Iσ8_157.2.1 0
                have : (0 : Int) ≤ (σ8_157.2 1).toInt ∧ (σ8_157.2 1).toInt ≤ 8 := Iσ8_157.2.1 1
                have : (0 : Int) ≤ (σ8_157.2 2).toInt ∧ (σ8_157.2 2).toInt ≤ 60 := Iσ8_157.2.1 2
                refine hs_pa (idx := (σ8_157.2 2)) (v := _) Iσ8_157 (by omega) (by omega) (hs_any _) (fun r => ⟨hm_Ra (by decide) r.1, ra 5 (by decide) _ _ r.2⟩) (fun σ11_158 eσ11_158 Iσ11_158 => ?_)
                have : (σ11_158.2 0).toInt = (σ8_157.2 0).toInt := by rw [eσ11_158]; rfl
                have : (σ11_158.2 1).toInt = (σ8_157.2 1).toInt := by rw [eσ11_158]; rfl
                have : (σ11_158.2 2).toInt = (σ8_157.2 2).toInt := by rw [eσ11_158]; rfl
                have : (-2147483648 : Int) ≤ (σ11_158.2 0).toInt ∧ (σ11_158.2 0).toInt ≤ 2147483647 := Iσ11_158.2.1 0
                have : (0 : Int) ≤ (σ11_158.2 1).toInt ∧ (σ11_158.2 1).toInt ≤ 8 := Iσ11_158.2.1 1
                have : (0 : Int) ≤ (σ11_158.2 2).toInt ∧ (σ11_158.2 2).toInt ≤ 60 := Iσ11_158.2.1 2
                refine hs_pa (idx := (σ11_158.2 2)) (v := (-1)) Iσ11_158 (by omega) (by omega) ⟨by decide, by decide⟩ (fun r => ⟨hm_R8 r.1, ra 8 (by decide) _ _ r.2⟩) (fun σ14_159 eσ14_159 Iσ14_159 => ?_)
                have : (σ14_159.2 0).toInt = (σ11_158.2 0).toInt := by rw [eσ14_159]; rfl
                have : (σ14_159.2 1).toInt = (σ11_158.2 1).toInt := by rw [eσ14_159]; rfl
                have : (σ14_159.2 2).toInt = (σ11_158.2 2).toInt := by rw [eσ14_159]; rfl
                have : (-2147483648 : Int) ≤ (σ14_159.2 0).toInt ∧ (σ14_159.2 0).toInt ≤ 2147483647 := Iσ14_159.2.1 0
                have : (0 : Int) ≤ (σ14_159.2 1).toInt ∧ (σ14_159.2 1).toInt ≤ 8 := Iσ14_159.2.1 1
                have : (0 : Int) ≤ (σ14_159.2 2).toInt ∧ (σ14_159.2 2).toInt ≤ 60 := Iσ14_159.2.1 2
                have : (σ14_159.1 8 ((σ11_158.2 2) : Int32).toNatClampNeg).toInt = (-1) := by rw [eσ14_159]; exact hs_same _ _ _ _
                have : (-1 : Int) ≤ (σ14_159.1 8 ((σ11_158.2 2) : Int32).toNatClampNeg).toInt ∧ (σ14_159.1 8 ((σ11_158.2 2) : Int32).toNatClampNeg).toInt ≤ 23 := Iσ14_159.1 8 _
                obtain ⟨e_160, he_160⟩ : ∃ e9 : Int32, e9 = ((σ14_159.2 2) + 1) := ⟨_, rfl⟩
                try have : e_160.toInt = ((σ14_159.2 2) : Int32).toInt + (1) := by rw [he_160]; exact hs_addk (1) rfl (by omega) (by omega)
                try rw [← he_160]
                refine hs_pf (v := e_160) Iσ14_159 ⟨(by omega : (0 : Int) ≤ (e_160 : Int32).toInt), (by omega : (e_160 : Int32).toInt ≤ 60)⟩ (fun r => ⟨hm_R2 (by rw [eσ14_159]; exact hs_sameN _ _) (by omega) (by omega) r.1, ri 2 (by decide) _ _ r.2⟩) (fun σ17_161 eσ17_161 Iσ17_161 => ?_)
                have : (σ17_161.2 0).toInt = (σ14_159.2 0).toInt := by rw [eσ17_161]; rfl
                have : (σ17_161.2 1).toInt = (σ14_159.2 1).toInt := by rw [eσ17_161]; rfl
                have : (σ17_161.2 2).toInt = (e_160 : Int32).toInt := by rw [eσ17_161]; rfl
                have : (-2147483648 : Int) ≤ (σ17_161.2 0).toInt ∧ (σ17_161.2 0).toInt ≤ 2147483647 := Iσ17_161.2.1 0
                have : (0 : Int) ≤ (σ17_161.2 1).toInt ∧ (σ17_161.2 1).toInt ≤ 8 := Iσ17_161.2.1 1
                have : (0 : Int) ≤ (σ17_161.2 2).toInt ∧ (σ17_161.2 2).toInt ≤ 60 := Iσ17_161.2.1 2
                have : (σ17_161.1 8 ((σ11_158.2 2) : Int32).toNatClampNeg).toInt = (σ14_159.1 8 ((σ11_158.2 2) : Int32).toNatClampNeg).toInt := by rw [eσ17_161]; rfl
                have : (-1 : Int) ≤ (σ17_161.1 8 ((σ11_158.2 2) : Int32).toNatClampNeg).toInt ∧ (σ17_161.1 8 ((σ11_158.2 2) : Int32).toNatClampNeg).toInt ≤ 23 := Iσ17_161.1 8 _
                obtain ⟨e_162, he_162⟩ : ∃ e9 : Int32, e9 = ((σ17_161.2 2) - 1) := ⟨_, rfl⟩
                try have : e_162.toInt = ((σ17_161.2 2) : Int32).toInt - (1) := by rw [he_162]; exact hs_subk (1) rfl (by omega) (by omega)
                try rw [← he_162]
                exact hs_some (hQ σ17_161 (e_162 : Int32) Iσ17_161 (show ((σ17_161.2 0).toInt = 0 ∧ 0 ≤ x1.toInt ∧ x1.toInt < (σ.2 1).toInt ∧ ¬ (x2.toInt < 0 ∨ 15 < x2.toInt ∨ x3.toInt < 1 ∨ 300 < x3.toInt) ∧ (σ.2 2).toInt < 60 ∧ (σ17_161.2 2).toInt = (σ.2 2).toInt + 1 ∧ (e_162 : Int32).toInt = (σ.2 2).toInt) ∨ ((σ17_161.2 0).toInt = 1 ∧ (x1.toInt < 0 ∨ (σ.2 1).toInt ≤ x1.toInt) ∧ (σ17_161.2 2).toInt = (σ.2 2).toInt) ∨ ((σ17_161.2 0).toInt = 2 ∧ 0 ≤ x1.toInt ∧ x1.toInt < (σ.2 1).toInt ∧ (x2.toInt < 0 ∨ 15 < x2.toInt ∨ x3.toInt < 1 ∨ 300 < x3.toInt) ∧ (σ17_161.2 2).toInt = (σ.2 2).toInt) ∨ ((σ17_161.2 0).toInt = 3 ∧ 0 ≤ x1.toInt ∧ x1.toInt < (σ.2 1).toInt ∧ ¬ (x2.toInt < 0 ∨ 15 < x2.toInt ∨ x3.toInt < 1 ∨ 300 < x3.toInt) ∧ 60 ≤ (σ.2 2).toInt ∧ (σ17_161.2 2).toInt = (σ.2 2).toInt) by omega))
              · have : ¬ (v2_153 : Int32).toInt = (0) := fun z => h_155 (Int32.toInt_inj.mp z)
                exact hs_some (hQ σ1_154 (0 : Int32) Iσ1_154 (show ((σ1_154.2 0).toInt = 0 ∧ 0 ≤ x1.toInt ∧ x1.toInt < (σ.2 1).toInt ∧ ¬ (x2.toInt < 0 ∨ 15 < x2.toInt ∨ x3.toInt < 1 ∨ 300 < x3.toInt) ∧ (σ.2 2).toInt < 60 ∧ (σ1_154.2 2).toInt = (σ.2 2).toInt + 1 ∧ (0) = (σ.2 2).toInt) ∨ ((σ1_154.2 0).toInt = 1 ∧ (x1.toInt < 0 ∨ (σ.2 1).toInt ≤ x1.toInt) ∧ (σ1_154.2 2).toInt = (σ.2 2).toInt) ∨ ((σ1_154.2 0).toInt = 2 ∧ 0 ≤ x1.toInt ∧ x1.toInt < (σ.2 1).toInt ∧ (x2.toInt < 0 ∨ 15 < x2.toInt ∨ x3.toInt < 1 ∨ 300 < x3.toInt) ∧ (σ1_154.2 2).toInt = (σ.2 2).toInt) ∨ ((σ1_154.2 0).toInt = 3 ∧ 0 ≤ x1.toInt ∧ x1.toInt < (σ.2 1).toInt ∧ ¬ (x2.toInt < 0 ∨ 15 < x2.toInt ∨ x3.toInt < 1 ∨ 300 < x3.toInt) ∧ 60 ≤ (σ.2 2).toInt ∧ (σ1_154.2 2).toInt = (σ.2 2).toInt) by omega))
          · have : ¬ (v2_139 : Int32).toInt = (0) := fun z => h_141 (Int32.toInt_inj.mp z)
            exact hs_some (hQ σ1_140 (0 : Int32) Iσ1_140 (show ((σ1_140.2 0).toInt = 0 ∧ 0 ≤ x1.toInt ∧ x1.toInt < (σ.2 1).toInt ∧ ¬ (x2.toInt < 0 ∨ 15 < x2.toInt ∨ x3.toInt < 1 ∨ 300 < x3.toInt) ∧ (σ.2 2).toInt < 60 ∧ (σ1_140.2 2).toInt = (σ.2 2).toInt + 1 ∧ (0) = (σ.2 2).toInt) ∨ ((σ1_140.2 0).toInt = 1 ∧ (x1.toInt < 0 ∨ (σ.2 1).toInt ≤ x1.toInt) ∧ (σ1_140.2 2).toInt = (σ.2 2).toInt) ∨ ((σ1_140.2 0).toInt = 2 ∧ 0 ≤ x1.toInt ∧ x1.toInt < (σ.2 1).toInt ∧ (x2.toInt < 0 ∨ 15 < x2.toInt ∨ x3.toInt < 1 ∨ 300 < x3.toInt) ∧ (σ1_140.2 2).toInt = (σ.2 2).toInt) ∨ ((σ1_140.2 0).toInt = 3 ∧ 0 ≤ x1.toInt ∧ x1.toInt < (σ.2 1).toInt ∧ ¬ (x2.toInt < 0 ∨ 15 < x2.toInt ∨ x3.toInt < 1 ∨ 300 < x3.toInt) ∧ 60 ≤ (σ.2 2).toInt ∧ (σ1_140.2 2).toInt = (σ.2 2).toInt) by omega))
    · have : ¬ (v2_84 : Int32).toInt = (0) := fun z => h_86 (Int32.toInt_inj.mp z)
      exact hs_some (hQ σ1_85 (0 : Int32) Iσ1_85 (show ((σ1_85.2 0).toInt = 0 ∧ 0 ≤ x1.toInt ∧ x1.toInt < (σ.2 1).toInt ∧ ¬ (x2.toInt < 0 ∨ 15 < x2.toInt ∨ x3.toInt < 1 ∨ 300 < x3.toInt) ∧ (σ.2 2).toInt < 60 ∧ (σ1_85.2 2).toInt = (σ.2 2).toInt + 1 ∧ (0) = (σ.2 2).toInt) ∨ ((σ1_85.2 0).toInt = 1 ∧ (x1.toInt < 0 ∨ (σ.2 1).toInt ≤ x1.toInt) ∧ (σ1_85.2 2).toInt = (σ.2 2).toInt) ∨ ((σ1_85.2 0).toInt = 2 ∧ 0 ≤ x1.toInt ∧ x1.toInt < (σ.2 1).toInt ∧ (x2.toInt < 0 ∨ 15 < x2.toInt ∨ x3.toInt < 1 ∨ 300 < x3.toInt) ∧ (σ1_85.2 2).toInt = (σ.2 2).toInt) ∨ ((σ1_85.2 0).toInt = 3 ∧ 0 ≤ x1.toInt ∧ x1.toInt < (σ.2 1).toInt ∧ ¬ (x2.toInt < 0 ∨ 15 < x2.toInt ∨ x3.toInt < 1 ∨ 300 < x3.toInt) ∧ 60 ≤ (σ.2 2).toInt ∧ (σ1_85.2 2).toInt = (σ.2 2).toInt) by omega))
theorem s_fX10_fill {R : hy_S → Prop} (ra : ∀ j, j ∈ ([6] : List Nat) → ∀ (τ : hy_S) (g : Nat → Int32), R τ → R (hy_sc τ j g)) (ri : ∀ j, j ∈ ([0] : List Nat) → ∀ (τ : hy_S) (v : Int32), R τ → R (hy_si τ j v)) (σ : hy_S) (x1 : Int32) (x2 : Int32) {P : hy_S → Int32 → Prop} (I : hm_I R σ) (hQ : ∀ (σ9 : hy_S) (v9 : Int32), hm_I R σ9 → P σ9 v9) : hs_ok2 (fX10_fill σ x1 x2) P := by
  unfold fX10_fill
  show hs_ok _ _
  have : (-2147483648 : Int) ≤ (σ.2 0).toInt ∧ (σ.2 0).toInt ≤ 2147483647 := I.2.1 0
  have : (0 : Int) ≤ (σ.2 2).toInt ∧ (σ.2 2).toInt ≤ 60 := I.2.1 2
  refine hs_pf (v := 0) I (hs_any _) (fun r => ⟨hm_Ri (by decide) r.1, ri 0 (by decide) _ _ r.2⟩) (fun σ1_1 eσ1_1 Iσ1_1 => ?_)
  have : (σ1_1.2 0).toInt = (0) := by rw [eσ1_1]; rfl
  have : (σ1_1.2 2).toInt = (σ.2 2).toInt := by rw [eσ1_1]; rfl
  have : (-2147483648 : Int) ≤ (σ1_1.2 0).toInt ∧ (σ1_1.2 0).toInt ≤ 2147483647 := Iσ1_1.2.1 0
  have : (0 : Int) ≤ (σ1_1.2 2).toInt ∧ (σ1_1.2 2).toInt ≤ 60 := Iσ1_1.2.1 2
  refine hs_bd (s_fX10_noJar σ1_1 x1 Iσ1_1  (fun v4_2 (gv4_2_0 : 0 ≤ v4_2.toInt) (gv4_2_1 : v4_2.toInt ≤ 1) (gv4_2_2 : v4_2.toInt = 1 ∨ (0 ≤ (x1 : Int32).toInt ∧ (x1 : Int32).toInt < (σ1_1.2 2).toInt)) => ?_))
  refine hs_bd (s_fX10_throwsIf (fun j h => ra j (hs_inc (by decide) h)) (fun j h => ri j (hs_inc (by decide) h)) σ1_1 v4_2 (1 : Int32) Iσ1_1 (show 0 ≤ (v4_2 : Int32).toInt by omega) (show (v4_2 : Int32).toInt ≤ 1 by omega) (fun σ6_4 v7_3 Iσ6_4 (gv7_3_0 : v7_3.toInt = (v4_2 : Int32).toInt) (gv7_3_1 : (σ6_4.2 1).toInt = (σ1_1.2 1).toInt) (gv7_3_2 : (σ6_4.2 2).toInt = (σ1_1.2 2).toInt) (gv7_3_3 : (σ6_4.2 3).toInt = (σ1_1.2 3).toInt) (gv7_3_4 : (σ6_4.2 4).toInt = (σ1_1.2 4).toInt) (gv7_3_5 : (σ6_4.2 5).toInt = (σ1_1.2 5).toInt) (gv7_3_6 : (σ6_4.2 6).toInt = (σ1_1.2 6).toInt) (gv7_3_7 : (σ6_4.2 7).toInt = (σ1_1.2 7).toInt) (gv7_3_8 : (σ6_4.2 8).toInt = (σ1_1.2 8).toInt) (gv7_3_9 : (σ6_4.2 9).toInt = (σ1_1.2 9).toInt) (gv7_3_10 : (σ6_4.2 10).toInt = (σ1_1.2 10).toInt) (gv7_3_11 : (σ6_4.2 11).toInt = (σ1_1.2 11).toInt) (gv7_3_12 : ((v4_2 : Int32).toInt = 0 ∧ (σ6_4.2 0).toInt = (σ1_1.2 0).toInt) ∨ ((v4_2 : Int32).toInt = 1 ∧ (σ6_4.2 0).toInt = (1))) => ?_))
  have : (-2147483648 : Int) ≤ (σ6_4.2 0).toInt ∧ (σ6_4.2 0).toInt ≤ 2147483647 := Iσ6_4.2.1 0
  have : (0 : Int) ≤ (σ6_4.2 2).toInt ∧ (σ6_4.2 2).toInt ≤ 60 := Iσ6_4.2.1 2
  refine hs_ite (fun h_5 => ?_) (fun h_5 => ?_)
  · have : (v7_3 : Int32).toInt = (0) := congrArg Int32.toInt h_5
    refine hs_bd (s_fX10_in σ6_4 x2 (1 : Int32) (200 : Int32) Iσ6_4  (fun v11_6 (gv11_6_0 : (v11_6.toInt = 1 ∧ (1) ≤ (x2 : Int32).toInt ∧ (x2 : Int32).toInt ≤ (200)) ∨ (v11_6.toInt = 0 ∧ ((x2 : Int32).toInt < (1) ∨ (200) < (x2 : Int32).toInt))) => ?_))
    refine hs_ite (fun h_7 => ?_) (fun h_7 => ?_)
    · have : (v11_6 : Int32).toInt = (0) := congrArg Int32.toInt h_7
      unfold fX10_fill_35
      refine hs_bd (s_fX10_throwsIf (fun j h => ra j (hs_inc (by decide) h)) (fun j h => ri j (hs_inc (by decide) h)) σ6_4 (1 : Int32) (2 : Int32) Iσ6_4 (show 0 ≤ (1) by omega) (show (1) ≤ 1 by omega) (fun σ1_9 v2_8 Iσ1_9 (gv2_8_0 : v2_8.toInt = (1)) (gv2_8_1 : (σ1_9.2 1).toInt = (σ6_4.2 1).toInt) (gv2_8_2 : (σ1_9.2 2).toInt = (σ6_4.2 2).toInt) (gv2_8_3 : (σ1_9.2 3).toInt = (σ6_4.2 3).toInt) (gv2_8_4 : (σ1_9.2 4).toInt = (σ6_4.2 4).toInt) (gv2_8_5 : (σ1_9.2 5).toInt = (σ6_4.2 5).toInt) (gv2_8_6 : (σ1_9.2 6).toInt = (σ6_4.2 6).toInt) (gv2_8_7 : (σ1_9.2 7).toInt = (σ6_4.2 7).toInt) (gv2_8_8 : (σ1_9.2 8).toInt = (σ6_4.2 8).toInt) (gv2_8_9 : (σ1_9.2 9).toInt = (σ6_4.2 9).toInt) (gv2_8_10 : (σ1_9.2 10).toInt = (σ6_4.2 10).toInt) (gv2_8_11 : (σ1_9.2 11).toInt = (σ6_4.2 11).toInt) (gv2_8_12 : ((1) = 0 ∧ (σ1_9.2 0).toInt = (σ6_4.2 0).toInt) ∨ ((1) = 1 ∧ (σ1_9.2 0).toInt = (2))) => ?_))
      have : (-2147483648 : Int) ≤ (σ1_9.2 0).toInt ∧ (σ1_9.2 0).toInt ≤ 2147483647 := Iσ1_9.2.1 0
      have : (0 : Int) ≤ (σ1_9.2 2).toInt ∧ (σ1_9.2 2).toInt ≤ 60 := Iσ1_9.2.1 2
      refine hs_ite (fun h_10 => ?_) (fun h_10 => ?_)
      · have : (v2_8 : Int32).toInt = (0) := congrArg Int32.toInt h_10
        refine hs_ga (j := 7) Iσ1_9 (by omega) (by omega) (fun v5_11 ev5_11 (bv5_11 : (-2147483648 : Int) ≤ v5_11.toInt ∧ v5_11.toInt ≤ 2147483647) => ?_)
        refine hs_ite (fun h_12 => ?_) (fun h_12 => ?_)
        · have : (v5_11 : Int32).toInt = (0) := congrArg Int32.toInt h_12
          refine hs_ga (j := 6) Iσ1_9 (by omega) (by omega) (fun v9_13 ev9_13 (bv9_13 : (-2147483648 : Int) ≤ v9_13.toInt ∧ v9_13.toInt ≤ 2147483647) => ?_)
          refine hs_ga (j := 3) Iσ1_9 (by omega) (by omega) (fun v12_14 ev12_14 (bv12_14 : (0 : Int) ≤ v12_14.toInt ∧ v12_14.toInt ≤ 7) => ?_)
          refine hs_ga (j := 1) Iσ1_9 (by omega) (by omega) (fun v15_15 ev15_15 (bv15_15 : (-2147483648 : Int) ≤ v15_15.toInt ∧ v15_15.toInt ≤ 2147483647) => ?_)
          obtain ⟨e_16, he_16⟩ : ∃ e9 : Int32, e9 = (v9_13 + x2) := ⟨_, rfl⟩
          try have : e_16.toInt = (v9_13 : Int32).toInt + (x2 : Int32).toInt := by rw [he_16]; exact hs_add (by omega) (by omega)
          try rw [← he_16]
          refine hs_ite (fun h_17 => ?_) (fun h_17 => ?_)
          · have : (e_16 : Int32).toInt ≤ (v15_15 : Int32).toInt := Int32.le_iff_toInt_le.mp h_17
            refine hs_ga (j := 6) Iσ1_9 (by omega) (by omega) (fun v19_18 ev19_18 (bv19_18 : (-2147483648 : Int) ≤ v19_18.toInt ∧ v19_18.toInt ≤ 2147483647) => ?_)
            refine hs_pa (idx := x1) (v := _) Iσ1_9 (by omega) (by omega) (hs_any _) (fun r => ⟨hm_Ra (by decide) r.1, ra 6 (by decide) _ _ r.2⟩) (fun σ22_19 eσ22_19 Iσ22_19 => ?_)
            have : (σ22_19.2 0).toInt = (σ1_9.2 0).toInt := by rw [eσ22_19]; rfl
            have : (σ22_19.2 2).toInt = (σ1_9.2 2).toInt := by rw [eσ22_19]; rfl
            have : (-2147483648 : Int) ≤ (σ22_19.2 0).toInt ∧ (σ22_19.2 0).toInt ≤ 2147483647 := Iσ22_19.2.1 0
            have : (0 : Int) ≤ (σ22_19.2 2).toInt ∧ (σ22_19.2 2).toInt ≤ 60 := Iσ22_19.2.1 2
            refine hs_ga (j := 6) Iσ22_19 (by omega) (by omega) (fun v25_20 ev25_20 (bv25_20 : (-2147483648 : Int) ≤ v25_20.toInt ∧ v25_20.toInt ≤ 2147483647) => ?_)
            exact hs_some (hQ σ22_19 (v25_20 : Int32) Iσ22_19 )
          · have : ¬ (e_16 : Int32).toInt ≤ (v15_15 : Int32).toInt := fun z => h_17 (Int32.le_iff_toInt_le.mpr z)
            exact hs_some (hQ σ1_9 ((-1) : Int32) Iσ1_9 )
        · have : ¬ (v5_11 : Int32).toInt = (0) := fun z => h_12 (Int32.toInt_inj.mp z)
          exact hs_some (hQ σ1_9 ((-1) : Int32) Iσ1_9 )
      · have : ¬ (v2_8 : Int32).toInt = (0) := fun z => h_10 (Int32.toInt_inj.mp z)
        exact hs_some (hQ σ1_9 (0 : Int32) Iσ1_9 )
    · have : ¬ (v11_6 : Int32).toInt = (0) := fun z => h_7 (Int32.toInt_inj.mp z)
      unfold fX10_fill_35
      refine hs_bd (s_fX10_throwsIf (fun j h => ra j (hs_inc (by decide) h)) (fun j h => ri j (hs_inc (by decide) h)) σ6_4 (0 : Int32) (2 : Int32) Iσ6_4 (show 0 ≤ (0) by omega) (show (0) ≤ 1 by omega) (fun σ1_22 v2_21 Iσ1_22 (gv2_21_0 : v2_21.toInt = (0)) (gv2_21_1 : (σ1_22.2 1).toInt = (σ6_4.2 1).toInt) (gv2_21_2 : (σ1_22.2 2).toInt = (σ6_4.2 2).toInt) (gv2_21_3 : (σ1_22.2 3).toInt = (σ6_4.2 3).toInt) (gv2_21_4 : (σ1_22.2 4).toInt = (σ6_4.2 4).toInt) (gv2_21_5 : (σ1_22.2 5).toInt = (σ6_4.2 5).toInt) (gv2_21_6 : (σ1_22.2 6).toInt = (σ6_4.2 6).toInt) (gv2_21_7 : (σ1_22.2 7).toInt = (σ6_4.2 7).toInt) (gv2_21_8 : (σ1_22.2 8).toInt = (σ6_4.2 8).toInt) (gv2_21_9 : (σ1_22.2 9).toInt = (σ6_4.2 9).toInt) (gv2_21_10 : (σ1_22.2 10).toInt = (σ6_4.2 10).toInt) (gv2_21_11 : (σ1_22.2 11).toInt = (σ6_4.2 11).toInt) (gv2_21_12 : ((0) = 0 ∧ (σ1_22.2 0).toInt = (σ6_4.2 0).toInt) ∨ ((0) = 1 ∧ (σ1_22.2 0).toInt = (2))) => ?_))
      have : (-2147483648 : Int) ≤ (σ1_22.2 0).toInt ∧ (σ1_22.2 0).toInt ≤ 2147483647 := Iσ1_22.2.1 0
      have : (0 : Int) ≤ (σ1_22.2 2).toInt ∧ (σ1_22.2 2).toInt ≤ 60 := Iσ1_22.2.1 2
      refine hs_ite (fun h_23 => ?_) (fun h_23 => ?_)
      · have : (v2_21 : Int32).toInt = (0) := congrArg Int32.toInt h_23
        refine hs_ga (j := 7) Iσ1_22 (by omega) (by omega) (fun v5_24 ev5_24 (bv5_24 : (-2147483648 : Int) ≤ v5_24.toInt ∧ v5_24.toInt ≤ 2147483647) => ?_)
        refine hs_ite (fun h_25 => ?_) (fun h_25 => ?_)
        · have : (v5_24 : Int32).toInt = (0) := congrArg Int32.toInt h_25
          refine hs_ga (j := 6) Iσ1_22 (by omega) (by omega) (fun v9_26 ev9_26 (bv9_26 : (-2147483648 : Int) ≤ v9_26.toInt ∧ v9_26.toInt ≤ 2147483647) => ?_)
          refine hs_ga (j := 3) Iσ1_22 (by omega) (by omega) (fun v12_27 ev12_27 (bv12_27 : (0 : Int) ≤ v12_27.toInt ∧ v12_27.toInt ≤ 7) => ?_)
          refine hs_ga (j := 1) Iσ1_22 (by omega) (by omega) (fun v15_28 ev15_28 (bv15_28 : (-2147483648 : Int) ≤ v15_28.toInt ∧ v15_28.toInt ≤ 2147483647) => ?_)
          obtain ⟨e_29, he_29⟩ : ∃ e9 : Int32, e9 = (v9_26 + x2) := ⟨_, rfl⟩
          try have : e_29.toInt = (v9_26 : Int32).toInt + (x2 : Int32).toInt := by rw [he_29]; exact hs_add (by omega) (by omega)
          try rw [← he_29]
          refine hs_ite (fun h_30 => ?_) (fun h_30 => ?_)
          · have : (e_29 : Int32).toInt ≤ (v15_28 : Int32).toInt := Int32.le_iff_toInt_le.mp h_30
            refine hs_ga (j := 6) Iσ1_22 (by omega) (by omega) (fun v19_31 ev19_31 (bv19_31 : (-2147483648 : Int) ≤ v19_31.toInt ∧ v19_31.toInt ≤ 2147483647) => ?_)
            refine hs_pa (idx := x1) (v := _) Iσ1_22 (by omega) (by omega) (hs_any _) (fun r => ⟨hm_Ra (by decide) r.1, ra 6 (by decide) _ _ r.2⟩) (fun σ22_32 eσ22_32 Iσ22_32 => ?_)
            have : (σ22_32.2 0).toInt = (σ1_22.2 0).toInt := by rw [eσ22_32]; rfl
            have : (σ22_32.2 2).toInt = (σ1_22.2 2).toInt := by rw [eσ22_32]; rfl
            have : (-2147483648 : Int) ≤ (σ22_32.2 0).toInt ∧ (σ22_32.2 0).toInt ≤ 2147483647 := Iσ22_32.2.1 0
            have : (0 : Int) ≤ (σ22_32.2 2).toInt ∧ (σ22_32.2 2).toInt ≤ 60 := Iσ22_32.2.1 2
            refine hs_ga (j := 6) Iσ22_32 (by omega) (by omega) (fun v25_33 ev25_33 (bv25_33 : (-2147483648 : Int) ≤ v25_33.toInt ∧ v25_33.toInt ≤ 2147483647) => ?_)
            exact hs_some (hQ σ22_32 (v25_33 : Int32) Iσ22_32 )
          · have : ¬ (e_29 : Int32).toInt ≤ (v15_28 : Int32).toInt := fun z => h_30 (Int32.le_iff_toInt_le.mpr z)
            exact hs_some (hQ σ1_22 ((-1) : Int32) Iσ1_22 )
        · have : ¬ (v5_24 : Int32).toInt = (0) := fun z => h_25 (Int32.toInt_inj.mp z)
          exact hs_some (hQ σ1_22 ((-1) : Int32) Iσ1_22 )
      · have : ¬ (v2_21 : Int32).toInt = (0) := fun z => h_23 (Int32.toInt_inj.mp z)
        exact hs_some (hQ σ1_22 (0 : Int32) Iσ1_22 )
  · have : ¬ (v7_3 : Int32).toInt = (0) := fun z => h_5 (Int32.toInt_inj.mp z)
    exact hs_some (hQ σ6_4 (0 : Int32) Iσ6_4 )
theorem s_fX10_ship {R : hy_S → Prop} (ra : ∀ j, j ∈ ([] : List Nat) → ∀ (τ : hy_S) (g : Nat → Int32), R τ → R (hy_sc τ j g)) (ri : ∀ j, j ∈ ([0, 3] : List Nat) → ∀ (τ : hy_S) (v : Int32), R τ → R (hy_si τ j v)) (σ : hy_S) {P : hy_S → Int32 → Prop} (I : hm_I R σ) (hQ : ∀ (σ9 : hy_S) (v9 : Int32), hm_I R σ9 → ((σ9.2 0).toInt = 0 ∧ (σ.2 3).toInt < 4 ∧ (σ9.2 3).toInt = (σ.2 3).toInt + 1 ∧ v9.toInt = (σ.2 3).toInt) ∨ ((σ9.2 0).toInt = 1 ∧ 4 ≤ (σ.2 3).toInt ∧ (σ9.2 3).toInt = (σ.2 3).toInt) → P σ9 v9) : hs_ok2 (fX10_ship σ ) P := by
  unfold fX10_ship
  show hs_ok _ _
  have : (-2147483648 : Int) ≤ (σ.2 0).toInt ∧ (σ.2 0).toInt ≤ 2147483647 := I.2.1 0
  have : (0 : Int) ≤ (σ.2 3).toInt ∧ (σ.2 3).toInt ≤ 4 := I.2.1 3
  refine hs_pf (v := 0) I (hs_any _) (fun r => ⟨hm_Ri (by decide) r.1, ri 0 (by decide) _ _ r.2⟩) (fun σ1_1 eσ1_1 Iσ1_1 => ?_)
  have : (σ1_1.2 0).toInt = (0) := by rw [eσ1_1]; rfl
  have : (σ1_1.2 3).toInt = (σ.2 3).toInt := by rw [eσ1_1]; rfl
  have : (-2147483648 : Int) ≤ (σ1_1.2 0).toInt ∧ (σ1_1.2 0).toInt ≤ 2147483647 := Iσ1_1.2.1 0
  have : (0 : Int) ≤ (σ1_1.2 3).toInt ∧ (σ1_1.2 3).toInt ≤ 4 := Iσ1_1.2.1 3
  refine hs_ite (fun h_2 => ?_) (fun h_2 => ?_)
  · have : ((σ1_1.2 3) : Int32).toInt = (4) := congrArg Int32.toInt h_2
    unfold fX10_ship_19
    refine hs_bd (s_fX10_throwsIf (fun j h => ra j (hs_inc (by decide) h)) (fun j h => ri j (hs_inc (by decide) h)) σ1_1 (1 : Int32) (1 : Int32) Iσ1_1 (show 0 ≤ (1) by omega) (show (1) ≤ 1 by omega) (fun σ1_4 v2_3 Iσ1_4 (gv2_3_0 : v2_3.toInt = (1)) (gv2_3_1 : (σ1_4.2 1).toInt = (σ1_1.2 1).toInt) (gv2_3_2 : (σ1_4.2 2).toInt = (σ1_1.2 2).toInt) (gv2_3_3 : (σ1_4.2 3).toInt = (σ1_1.2 3).toInt) (gv2_3_4 : (σ1_4.2 4).toInt = (σ1_1.2 4).toInt) (gv2_3_5 : (σ1_4.2 5).toInt = (σ1_1.2 5).toInt) (gv2_3_6 : (σ1_4.2 6).toInt = (σ1_1.2 6).toInt) (gv2_3_7 : (σ1_4.2 7).toInt = (σ1_1.2 7).toInt) (gv2_3_8 : (σ1_4.2 8).toInt = (σ1_1.2 8).toInt) (gv2_3_9 : (σ1_4.2 9).toInt = (σ1_1.2 9).toInt) (gv2_3_10 : (σ1_4.2 10).toInt = (σ1_1.2 10).toInt) (gv2_3_11 : (σ1_4.2 11).toInt = (σ1_1.2 11).toInt) (gv2_3_12 : ((1) = 0 ∧ (σ1_4.2 0).toInt = (σ1_1.2 0).toInt) ∨ ((1) = 1 ∧ (σ1_4.2 0).toInt = (1))) => ?_))
    have : (-2147483648 : Int) ≤ (σ1_4.2 0).toInt ∧ (σ1_4.2 0).toInt ≤ 2147483647 := Iσ1_4.2.1 0
    have : (0 : Int) ≤ (σ1_4.2 3).toInt ∧ (σ1_4.2 3).toInt ≤ 4 := Iσ1_4.2.1 3
    refine hs_ite (fun h_5 => ?_) (fun h_5 => ?_)
    · have : (v2_3 : Int32).toInt = (0) := congrArg Int32.toInt h_5
      obtain ⟨e_6, he_6⟩ : ∃ e9 : Int32, e9 = ((σ1_4.2 3) + 1) := ⟨_, rfl⟩
      try have : e_6.toInt = ((σ1_4.2 3) : Int32).toInt + (1) := by rw [he_6]; exact hs_addk (1) rfl (by omega) (by omega)
      try rw [← he_6]
      refine hs_pf (v := e_6) Iσ1_4 ⟨(by omega : (0 : Int) ≤ (e_6 : Int32).toInt), (by omega : (e_6 : Int32).toInt ≤ 4)⟩ (fun r => ⟨hm_Ri (by decide) r.1, ri 3 (by decide) _ _ r.2⟩) (fun σ5_7 eσ5_7 Iσ5_7 => ?_)
      have : (σ5_7.2 0).toInt = (σ1_4.2 0).toInt := by rw [eσ5_7]; rfl
      have : (σ5_7.2 3).toInt = (e_6 : Int32).toInt := by rw [eσ5_7]; rfl
      have : (-2147483648 : Int) ≤ (σ5_7.2 0).toInt ∧ (σ5_7.2 0).toInt ≤ 2147483647 := Iσ5_7.2.1 0
      have : (0 : Int) ≤ (σ5_7.2 3).toInt ∧ (σ5_7.2 3).toInt ≤ 4 := Iσ5_7.2.1 3
      obtain ⟨e_8, he_8⟩ : ∃ e9 : Int32, e9 = ((σ5_7.2 3) - 1) := ⟨_, rfl⟩
      try have : e_8.toInt = ((σ5_7.2 3) : Int32).toInt - (1) := by rw [he_8]; exact hs_subk (1) rfl (by omega) (by omega)
      try rw [← he_8]
      exact hs_some (hQ σ5_7 (e_8 : Int32) Iσ5_7 (show ((σ5_7.2 0).toInt = 0 ∧ (σ.2 3).toInt < 4 ∧ (σ5_7.2 3).toInt = (σ.2 3).toInt + 1 ∧ (e_8 : Int32).toInt = (σ.2 3).toInt) ∨ ((σ5_7.2 0).toInt = 1 ∧ 4 ≤ (σ.2 3).toInt ∧ (σ5_7.2 3).toInt = (σ.2 3).toInt) by omega))
    · have : ¬ (v2_3 : Int32).toInt = (0) := fun z => h_5 (Int32.toInt_inj.mp z)
      exact hs_some (hQ σ1_4 (0 : Int32) Iσ1_4 (show ((σ1_4.2 0).toInt = 0 ∧ (σ.2 3).toInt < 4 ∧ (σ1_4.2 3).toInt = (σ.2 3).toInt + 1 ∧ (0) = (σ.2 3).toInt) ∨ ((σ1_4.2 0).toInt = 1 ∧ 4 ≤ (σ.2 3).toInt ∧ (σ1_4.2 3).toInt = (σ.2 3).toInt) by omega))
  · have : ¬ ((σ1_1.2 3) : Int32).toInt = (4) := fun z => h_2 (Int32.toInt_inj.mp z)
    unfold fX10_ship_19
    refine hs_bd (s_fX10_throwsIf (fun j h => ra j (hs_inc (by decide) h)) (fun j h => ri j (hs_inc (by decide) h)) σ1_1 (0 : Int32) (1 : Int32) Iσ1_1 (show 0 ≤ (0) by omega) (show (0) ≤ 1 by omega) (fun σ1_10 v2_9 Iσ1_10 (gv2_9_0 : v2_9.toInt = (0)) (gv2_9_1 : (σ1_10.2 1).toInt = (σ1_1.2 1).toInt) (gv2_9_2 : (σ1_10.2 2).toInt = (σ1_1.2 2).toInt) (gv2_9_3 : (σ1_10.2 3).toInt = (σ1_1.2 3).toInt) (gv2_9_4 : (σ1_10.2 4).toInt = (σ1_1.2 4).toInt) (gv2_9_5 : (σ1_10.2 5).toInt = (σ1_1.2 5).toInt) (gv2_9_6 : (σ1_10.2 6).toInt = (σ1_1.2 6).toInt) (gv2_9_7 : (σ1_10.2 7).toInt = (σ1_1.2 7).toInt) (gv2_9_8 : (σ1_10.2 8).toInt = (σ1_1.2 8).toInt) (gv2_9_9 : (σ1_10.2 9).toInt = (σ1_1.2 9).toInt) (gv2_9_10 : (σ1_10.2 10).toInt = (σ1_1.2 10).toInt) (gv2_9_11 : (σ1_10.2 11).toInt = (σ1_1.2 11).toInt) (gv2_9_12 : ((0) = 0 ∧ (σ1_10.2 0).toInt = (σ1_1.2 0).toInt) ∨ ((0) = 1 ∧ (σ1_10.2 0).toInt = (1))) => ?_))
    have : (-2147483648 : Int) ≤ (σ1_10.2 0).toInt ∧ (σ1_10.2 0).toInt ≤ 2147483647 := Iσ1_10.2.1 0
    have : (0 : Int) ≤ (σ1_10.2 3).toInt ∧ (σ1_10.2 3).toInt ≤ 4 := Iσ1_10.2.1 3
    refine hs_ite (fun h_11 => ?_) (fun h_11 => ?_)
    · have : (v2_9 : Int32).toInt = (0) := congrArg Int32.toInt h_11
      obtain ⟨e_12, he_12⟩ : ∃ e9 : Int32, e9 = ((σ1_10.2 3) + 1) := ⟨_, rfl⟩
      try have : e_12.toInt = ((σ1_10.2 3) : Int32).toInt + (1) := by rw [he_12]; exact hs_addk (1) rfl (by omega) (by omega)
      try rw [← he_12]
      refine hs_pf (v := e_12) Iσ1_10 ⟨(by omega : (0 : Int) ≤ (e_12 : Int32).toInt), (by omega : (e_12 : Int32).toInt ≤ 4)⟩ (fun r => ⟨hm_Ri (by decide) r.1, ri 3 (by decide) _ _ r.2⟩) (fun σ5_13 eσ5_13 Iσ5_13 => ?_)
      have : (σ5_13.2 0).toInt = (σ1_10.2 0).toInt := by rw [eσ5_13]; rfl
      have : (σ5_13.2 3).toInt = (e_12 : Int32).toInt := by rw [eσ5_13]; rfl
      have : (-2147483648 : Int) ≤ (σ5_13.2 0).toInt ∧ (σ5_13.2 0).toInt ≤ 2147483647 := Iσ5_13.2.1 0
      have : (0 : Int) ≤ (σ5_13.2 3).toInt ∧ (σ5_13.2 3).toInt ≤ 4 := Iσ5_13.2.1 3
      obtain ⟨e_14, he_14⟩ : ∃ e9 : Int32, e9 = ((σ5_13.2 3) - 1) := ⟨_, rfl⟩
      try have : e_14.toInt = ((σ5_13.2 3) : Int32).toInt - (1) := by rw [he_14]; exact hs_subk (1) rfl (by omega) (by omega)
      try rw [← he_14]
      exact hs_some (hQ σ5_13 (e_14 : Int32) Iσ5_13 (show ((σ5_13.2 0).toInt = 0 ∧ (σ.2 3).toInt < 4 ∧ (σ5_13.2 3).toInt = (σ.2 3).toInt + 1 ∧ (e_14 : Int32).toInt = (σ.2 3).toInt) ∨ ((σ5_13.2 0).toInt = 1 ∧ 4 ≤ (σ.2 3).toInt ∧ (σ5_13.2 3).toInt = (σ.2 3).toInt) by omega))
    · have : ¬ (v2_9 : Int32).toInt = (0) := fun z => h_11 (Int32.toInt_inj.mp z)
      exact hs_some (hQ σ1_10 (0 : Int32) Iσ1_10 (show ((σ1_10.2 0).toInt = 0 ∧ (σ.2 3).toInt < 4 ∧ (σ1_10.2 3).toInt = (σ.2 3).toInt + 1 ∧ (0) = (σ.2 3).toInt) ∨ ((σ1_10.2 0).toInt = 1 ∧ 4 ≤ (σ.2 3).toInt ∧ (σ1_10.2 3).toInt = (σ.2 3).toInt) by omega))
theorem s_fX10_above_7 {R : hy_S → Prop} {Q : hy_S × Int32 → Prop} : ∀ (n : Nat) (σ : hy_S) (x1 : Int32) (x3 : Int32) (x4 : Int32), hm_I R σ → 0 ≤ x1.toInt → x1.toInt < 24 → 0 ≤ x4.toInt → x4.toInt ≤ 10 → 10 - x4.toInt < (n : Int) → (∀ v9 : Int32, Q (σ, v9)) → hs_ok (fX10_above_7 n σ x1 x3 x4) Q := by
  intro n
  induction n with
  | zero =>
    intro σ x1 x3 x4 I p0 p1 p2 p3  hm hQ
    exact absurd hm (by omega)
  | succ n ih =>
    intro σ x1 x3 x4 I p0 p1 p2 p3  hm hQ
    unfold fX10_above_7
    refine hs_ga (j := 10) I (by omega) (by omega) (fun v1_1 ev1_1 (bv1_1 : (0 : Int) ≤ v1_1.toInt ∧ v1_1.toInt ≤ 10) => ?_)
    have : (σ.1 10 (x1 : Int32).toNatClampNeg).toInt = v1_1.toInt := by rw [ev1_1]
    refine hs_ite (fun h_2 => ?_) (fun h_2 => ?_)
    · have : (v1_1 : Int32).toInt ≤ (x4 : Int32).toInt := Int32.le_iff_toInt_le.mp h_2
      exact hs_some (hQ (x3 : Int32) )
    · have : ¬ (v1_1 : Int32).toInt ≤ (x4 : Int32).toInt := fun z => h_2 (Int32.le_iff_toInt_le.mpr z)
      obtain ⟨e_3, he_3⟩ : ∃ e9 : Int32, e9 = (10 * x1) := ⟨_, rfl⟩
      try have : e_3.toInt = (10) * (x1 : Int32).toInt := by rw [he_3]; exact hs_mull (10) rfl (by omega) (by omega)
      try rw [← he_3]
      obtain ⟨e_4, he_4⟩ : ∃ e9 : Int32, e9 = (e_3 + x4) := ⟨_, rfl⟩
      try have : e_4.toInt = (e_3 : Int32).toInt + (x4 : Int32).toInt := by rw [he_4]; exact hs_add (by omega) (by omega)
      try rw [← he_4]
      refine hs_ga (j := 9) I (by omega) (by omega) (fun v5_5 ev5_5 (bv5_5 : (0 : Int) ≤ v5_5.toInt ∧ v5_5.toInt ≤ 59) => ?_)
      refine hs_bd (s_fX10_weight σ v5_5 I (show 0 ≤ (v5_5 : Int32).toInt by omega) (show (v5_5 : Int32).toInt < 60 by omega) (fun v9_6  => ?_))
      obtain ⟨e_7, he_7⟩ : ∃ e9 : Int32, e9 = (x3 + v9_6) := ⟨_, rfl⟩
      try have : e_7.toInt = (x3 : Int32).toInt + (v9_6 : Int32).toInt := by rw [he_7]; exact hs_add (by omega) (by omega)
      try rw [← he_7]
      obtain ⟨e_8, he_8⟩ : ∃ e9 : Int32, e9 = (x4 + 1) := ⟨_, rfl⟩
      try have : e_8.toInt = (x4 : Int32).toInt + (1) := by rw [he_8]; exact hs_addk (1) rfl (by omega) (by omega)
      try rw [← he_8]
      exact ih σ (x1 : Int32) (e_7 : Int32) (e_8 : Int32) I (show 0 ≤ (x1 : Int32).toInt by omega) (show (x1 : Int32).toInt < 24 by omega) (show 0 ≤ (e_8 : Int32).toInt by omega) (show (e_8 : Int32).toInt ≤ 10 by omega)  (by omega) hQ
theorem s_fX10_above {R : hy_S → Prop} (σ : hy_S) (x1 : Int32) (x2 : Int32) {P : hy_S → Int32 → Prop} (I : hm_I R σ) (p0 : 0 ≤ x1.toInt) (p1 : x1.toInt < 24) (p2 : 0 ≤ x2.toInt) (p3 : x2.toInt ≤ 9) (hQ : ∀ v9 : Int32, P σ v9) : hs_ok2 (fX10_above σ x1 x2) P := by
  unfold fX10_above
  show hs_ok _ _
  obtain ⟨e_1, he_1⟩ : ∃ e9 : Int32, e9 = (x2 + 1) := ⟨_, rfl⟩
  try have : e_1.toInt = (x2 : Int32).toInt + (1) := by rw [he_1]; exact hs_addk (1) rfl (by omega) (by omega)
  try rw [← he_1]
  have hfu : ((hy_fu : Nat) : Int) = 5000 := rfl
  refine s_fX10_above_7   hy_fu σ (x1 : Int32) (0 : Int32) (e_1 : Int32) I (show 0 ≤ (x1 : Int32).toInt by omega) (show (x1 : Int32).toInt < 24 by omega) (show 0 ≤ (e_1 : Int32).toInt by omega) (show (e_1 : Int32).toInt ≤ 10 by omega)  (show 10 - (e_1 : Int32).toInt < ((hy_fu : Nat) : Int) by rw [hfu]; omega) (fun v_2  => ?_)
  exact (hQ (v_2 : Int32) )
theorem s_fX10_load_71 {R : hy_S → Prop} (ra : ∀ j, j ∈ ([7, 8, 9, 10] : List Nat) → ∀ (τ : hy_S) (g : Nat → Int32), R τ → R (hy_sc τ j g)) (ri : ∀ j, j ∈ ([] : List Nat) → ∀ (τ : hy_S) (v : Int32), R τ → R (hy_si τ j v)) {Q : hy_S × Int32 → Prop} (hQ : ∀ (σ9 : hy_S) (v9 : Int32), hm_I R σ9 → Q (σ9, v9)) : ∀ (n : Nat) (σ : hy_S) (x1 : Int32) (x4 : Int32) (x5 : Int32), hm_I R σ → 0 ≤ x1.toInt → x1.toInt < 60 → 0 ≤ x4.toInt → x4.toInt < 24 → 0 ≤ x5.toInt → x5.toInt ≤ 10 → (σ.1 10 (x4 : Int32).toNatClampNeg).toInt < 10 → 10 - x5.toInt < (n : Int) → hs_ok (fX10_load_71 n σ x1 x4 x5) Q := by
  intro n
  induction n with
  | zero =>
    intro σ x1 x4 x5 I p0 p1 p2 p3 p4 p5 p6  hm
    exact absurd hm (by omega)
  | succ n ih =>
    intro σ x1 x4 x5 I p0 p1 p2 p3 p4 p5 p6  hm
    unfold fX10_load_71
    have : (0 : Int) ≤ (σ.1 10 (x4 : Int32).toNatClampNeg).toInt ∧ (σ.1 10 (x4 : Int32).toNatClampNeg).toInt ≤ 10 := I.1 10 _
    refine hs_ga (j := 10) I (by omega) (by omega) (fun v1_1 ev1_1 (bv1_1 : (0 : Int) ≤ v1_1.toInt ∧ v1_1.toInt ≤ 10) => ?_)
    have : (σ.1 10 (x4 : Int32).toNatClampNeg).toInt = v1_1.toInt := by rw [ev1_1]
    refine hs_ite (fun h_2 => ?_) (fun h_2 => ?_)
    · have : (v1_1 : Int32).toInt ≤ (x5 : Int32).toInt := Int32.le_iff_toInt_le.mp h_2
      exact s_load_tail (fun j h => ra j (hs_inc (by decide) h)) σ x1 x4 I (by omega) (by omega) (by omega) (by omega) (by omega) hQ
    · have : ¬ (v1_1 : Int32).toInt ≤ (x5 : Int32).toInt := fun z => h_2 (Int32.le_iff_toInt_le.mpr z)
      refine hs_bd (s_fX10_above σ x4 x5 I (show 0 ≤ (x4 : Int32).toInt by omega) (show (x4 : Int32).toInt < 24 by omega) (show 0 ≤ (x5 : Int32).toInt by omega) (show (x5 : Int32).toInt ≤ 9 by omega) (fun v24_3  => ?_))
      refine hs_bd (s_fX10_weight σ x1 I (show 0 ≤ (x1 : Int32).toInt by omega) (show (x1 : Int32).toInt < 60 by omega) (fun v27_4  => ?_))
      obtain ⟨e_5, he_5⟩ : ∃ e9 : Int32, e9 = (10 * x4) := ⟨_, rfl⟩
      try have : e_5.toInt = (10) * (x4 : Int32).toInt := by rw [he_5]; exact hs_mull (10) rfl (by omega) (by omega)
      try rw [← he_5]
      obtain ⟨e_6, he_6⟩ : ∃ e9 : Int32, e9 = (e_5 + x5) := ⟨_, rfl⟩
      try have : e_6.toInt = (e_5 : Int32).toInt + (x5 : Int32).toInt := by rw [he_6]; exact hs_add (by omega) (by omega)
      try rw [← he_6]
      refine hs_ga (j := 9) I (by omega) (by omega) (fun v29_7 ev29_7 (bv29_7 : (0 : Int) ≤ v29_7.toInt ∧ v29_7.toInt ≤ 59) => ?_)
      refine hs_ga (j := 3) I (by omega) (by omega) (fun v32_8 ev32_8 (bv32_8 : (0 : Int) ≤ v32_8.toInt ∧ v32_8.toInt ≤ 7) => ?_)
      refine hs_ga (j := 2) I (by omega) (by omega) (fun v35_9 ev35_9 (bv35_9 : (-2147483648 : Int) ≤ v35_9.toInt ∧ v35_9.toInt ≤ 2147483647) => ?_)
      obtain ⟨e_10, he_10⟩ : ∃ e9 : Int32, e9 = (v24_3 + v27_4) := ⟨_, rfl⟩
      try have : e_10.toInt = (v24_3 : Int32).toInt + (v27_4 : Int32).toInt := by rw [he_10]; exact hs_add (by omega) (by omega)
      try rw [← he_10]
      refine hs_ite (fun h_11 => ?_) (fun h_11 => ?_)
      · have : (e_10 : Int32).toInt ≤ (v35_9 : Int32).toInt := Int32.le_iff_toInt_le.mp h_11
        obtain ⟨e_12, he_12⟩ : ∃ e9 : Int32, e9 = (x5 + 1) := ⟨_, rfl⟩
        try have : e_12.toInt = (x5 : Int32).toInt + (1) := by rw [he_12]; exact hs_addk (1) rfl (by omega) (by omega)
        try rw [← he_12]
        exact ih σ (x1 : Int32) (x4 : Int32) (e_12 : Int32) I (show 0 ≤ (x1 : Int32).toInt by omega) (show (x1 : Int32).toInt < 60 by omega) (show 0 ≤ (x4 : Int32).toInt by omega) (show (x4 : Int32).toInt < 24 by omega) (show 0 ≤ (e_12 : Int32).toInt by omega) (show (e_12 : Int32).toInt ≤ 10 by omega) (show (σ.1 10 (x4 : Int32).toNatClampNeg).toInt < 10 by omega)  (by omega)
      · have : ¬ (e_10 : Int32).toInt ≤ (v35_9 : Int32).toInt := fun z => h_11 (Int32.le_iff_toInt_le.mpr z)
        exact hs_some (hQ σ (0 : Int32) I )
theorem s_fX10_load {R : hy_S → Prop} (ra : ∀ j, j ∈ ([7, 8, 9, 10] : List Nat) → ∀ (τ : hy_S) (g : Nat → Int32), R τ → R (hy_sc τ j g)) (ri : ∀ j, j ∈ ([0] : List Nat) → ∀ (τ : hy_S) (v : Int32), R τ → R (hy_si τ j v)) (σ : hy_S) (x1 : Int32) (x2 : Int32) (x3 : Int32) {P : hy_S → Int32 → Prop} (I : hm_I R σ) (hQ : ∀ (σ9 : hy_S) (v9 : Int32), hm_I R σ9 → P σ9 v9) : hs_ok2 (fX10_load σ x1 x2 x3) P := by
  unfold fX10_load
  show hs_ok _ _
  have : (-2147483648 : Int) ≤ (σ.2 0).toInt ∧ (σ.2 0).toInt ≤ 2147483647 := I.2.1 0
  have : (0 : Int) ≤ (σ.2 2).toInt ∧ (σ.2 2).toInt ≤ 60 := I.2.1 2
  have : (0 : Int) ≤ (σ.2 3).toInt ∧ (σ.2 3).toInt ≤ 4 := I.2.1 3
  refine hs_pf (v := 0) I (hs_any _) (fun r => ⟨hm_Ri (by decide) r.1, ri 0 (by decide) _ _ r.2⟩) (fun σ1_1 eσ1_1 Iσ1_1 => ?_)
  have : (σ1_1.2 0).toInt = (0) := by rw [eσ1_1]; rfl
  have : (σ1_1.2 2).toInt = (σ.2 2).toInt := by rw [eσ1_1]; rfl
  have : (σ1_1.2 3).toInt = (σ.2 3).toInt := by rw [eσ1_1]; rfl
  have : (-2147483648 : Int) ≤ (σ1_1.2 0).toInt ∧ (σ1_1.2 0).toInt ≤ 2147483647 := Iσ1_1.2.1 0
  have : (0 : Int) ≤ (σ1_1.2 2).toInt ∧ (σ1_1.2 2).toInt ≤ 60 := Iσ1_1.2.1 2
  have : (0 : Int) ≤ (σ1_1.2 3).toInt ∧ (σ1_1.2 3).toInt ≤ 4 := Iσ1_1.2.1 3
  refine hs_bd (s_fX10_noJar σ1_1 x1 Iσ1_1  (fun v4_2 (gv4_2_0 : 0 ≤ v4_2.toInt) (gv4_2_1 : v4_2.toInt ≤ 1) (gv4_2_2 : v4_2.toInt = 1 ∨ (0 ≤ (x1 : Int32).toInt ∧ (x1 : Int32).toInt < (σ1_1.2 2).toInt)) => ?_))
  refine hs_ite (fun h_3 => ?_) (fun h_3 => ?_)
  · have : (v4_2 : Int32).toInt = (0) := congrArg Int32.toInt h_3
    refine hs_bd (s_fX10_noHold σ1_1 x2 x3 Iσ1_1  (fun v8_4 (gv8_4_0 : 0 ≤ v8_4.toInt) (gv8_4_1 : v8_4.toInt ≤ 1) (gv8_4_2 : v8_4.toInt = 1 ∨ (0 ≤ (x2 : Int32).toInt ∧ (x2 : Int32).toInt < (σ1_1.2 3).toInt ∧ 0 ≤ (x3 : Int32).toInt ∧ (x3 : Int32).toInt ≤ 5)) => ?_))
    refine hs_ite (fun h_5 => ?_) (fun h_5 => ?_)
    · have : (v8_4 : Int32).toInt = (0) := congrArg Int32.toInt h_5
      unfold fX10_load_28
      refine hs_bd (s_fX10_throwsIf (fun j h => ra j (hs_inc (by decide) h)) (fun j h => ri j (hs_inc (by decide) h)) σ1_1 (0 : Int32) (1 : Int32) Iσ1_1 (show 0 ≤ (0) by omega) (show (0) ≤ 1 by omega) (fun σ1_7 v2_6 Iσ1_7 (gv2_6_0 : v2_6.toInt = (0)) (gv2_6_1 : (σ1_7.2 1).toInt = (σ1_1.2 1).toInt) (gv2_6_2 : (σ1_7.2 2).toInt = (σ1_1.2 2).toInt) (gv2_6_3 : (σ1_7.2 3).toInt = (σ1_1.2 3).toInt) (gv2_6_4 : (σ1_7.2 4).toInt = (σ1_1.2 4).toInt) (gv2_6_5 : (σ1_7.2 5).toInt = (σ1_1.2 5).toInt) (gv2_6_6 : (σ1_7.2 6).toInt = (σ1_1.2 6).toInt) (gv2_6_7 : (σ1_7.2 7).toInt = (σ1_1.2 7).toInt) (gv2_6_8 : (σ1_7.2 8).toInt = (σ1_1.2 8).toInt) (gv2_6_9 : (σ1_7.2 9).toInt = (σ1_1.2 9).toInt) (gv2_6_10 : (σ1_7.2 10).toInt = (σ1_1.2 10).toInt) (gv2_6_11 : (σ1_7.2 11).toInt = (σ1_1.2 11).toInt) (gv2_6_12 : ((0) = 0 ∧ (σ1_7.2 0).toInt = (σ1_1.2 0).toInt) ∨ ((0) = 1 ∧ (σ1_7.2 0).toInt = (1))) => ?_))
      have : (-2147483648 : Int) ≤ (σ1_7.2 0).toInt ∧ (σ1_7.2 0).toInt ≤ 2147483647 := Iσ1_7.2.1 0
      have : (0 : Int) ≤ (σ1_7.2 2).toInt ∧ (σ1_7.2 2).toInt ≤ 60 := Iσ1_7.2.1 2
      have : (0 : Int) ≤ (σ1_7.2 3).toInt ∧ (σ1_7.2 3).toInt ≤ 4 := Iσ1_7.2.1 3
      refine hs_ite (fun h_8 => ?_) (fun h_8 => ?_)
      · have : (v2_6 : Int32).toInt = (0) := congrArg Int32.toInt h_8
        refine hs_ga (j := 7) Iσ1_7 (by omega) (by omega) (fun v5_9 ev5_9 (bv5_9 : (-2147483648 : Int) ≤ v5_9.toInt ∧ v5_9.toInt ≤ 2147483647) => ?_)
        refine hs_ite (fun h_10 => ?_) (fun h_10 => ?_)
        · have : (v5_9 : Int32).toInt = (0) := congrArg Int32.toInt h_10
          obtain ⟨e_11, he_11⟩ : ∃ e9 : Int32, e9 = (6 * x2) := ⟨_, rfl⟩
          try have : e_11.toInt = (6) * (x2 : Int32).toInt := by rw [he_11]; exact hs_mull (6) rfl (by omega) (by omega)
          try rw [← he_11]
          obtain ⟨e_12, he_12⟩ : ∃ e9 : Int32, e9 = (e_11 + x3) := ⟨_, rfl⟩
          try have : e_12.toInt = (e_11 : Int32).toInt + (x3 : Int32).toInt := by rw [he_12]; exact hs_add (by omega) (by omega)
          try rw [← he_12]
          refine hs_ga (j := 10) Iσ1_7 (by omega) (by omega) (fun v9_13 ev9_13 (bv9_13 : (0 : Int) ≤ v9_13.toInt ∧ v9_13.toInt ≤ 10) => ?_)
          have : (σ1_7.1 10 (e_12 : Int32).toNatClampNeg).toInt = v9_13.toInt := by rw [ev9_13]
          refine hs_ite (fun h_14 => ?_) (fun h_14 => ?_)
          · have : (v9_13 : Int32).toInt = (10) := congrArg Int32.toInt h_14
            exact hs_some (hQ σ1_7 (0 : Int32) Iσ1_7 )
          · have : ¬ (v9_13 : Int32).toInt = (10) := fun z => h_14 (Int32.toInt_inj.mp z)
            try rw [← he_11]
            try rw [← he_12]
            have hfu : ((hy_fu : Nat) : Int) = 5000 := rfl
            refine s_fX10_load_71 (fun j h => ra j (hs_inc (by decide) h)) (fun j h => ri j (hs_inc (by decide) h))  (fun τ_15 v_16 Iτ_15  => ?_)  hy_fu σ1_7 (x1 : Int32) (e_12 : Int32) (0 : Int32) Iσ1_7 (show 0 ≤ (x1 : Int32).toInt by omega) (show (x1 : Int32).toInt < 60 by omega) (show 0 ≤ (e_12 : Int32).toInt by omega) (show (e_12 : Int32).toInt < 24 by omega) (show 0 ≤ (0) by omega) (show (0) ≤ 10 by omega) (show (σ1_7.1 10 (e_12 : Int32).toNatClampNeg).toInt < 10 by omega)  (show 10 - (0) < ((hy_fu : Nat) : Int) by rw [hfu]; omega)
            have : (-2147483648 : Int) ≤ (τ_15.2 0).toInt ∧ (τ_15.2 0).toInt ≤ 2147483647 := Iτ_15.2.1 0
            have : (0 : Int) ≤ (τ_15.2 2).toInt ∧ (τ_15.2 2).toInt ≤ 60 := Iτ_15.2.1 2
            have : (0 : Int) ≤ (τ_15.2 3).toInt ∧ (τ_15.2 3).toInt ≤ 4 := Iτ_15.2.1 3
            exact (hQ τ_15 (v_16 : Int32) Iτ_15 )
        · have : ¬ (v5_9 : Int32).toInt = (0) := fun z => h_10 (Int32.toInt_inj.mp z)
          exact hs_some (hQ σ1_7 (0 : Int32) Iσ1_7 )
      · have : ¬ (v2_6 : Int32).toInt = (0) := fun z => h_8 (Int32.toInt_inj.mp z)
        exact hs_some (hQ σ1_7 (0 : Int32) Iσ1_7 )
    · have : ¬ (v8_4 : Int32).toInt = (0) := fun z => h_5 (Int32.toInt_inj.mp z)
      unfold fX10_load_23
      unfold fX10_load_28
      refine hs_bd (s_fX10_throwsIf (fun j h => ra j (hs_inc (by decide) h)) (fun j h => ri j (hs_inc (by decide) h)) σ1_1 (1 : Int32) (1 : Int32) Iσ1_1 (show 0 ≤ (1) by omega) (show (1) ≤ 1 by omega) (fun σ1_18 v2_17 Iσ1_18 (gv2_17_0 : v2_17.toInt = (1)) (gv2_17_1 : (σ1_18.2 1).toInt = (σ1_1.2 1).toInt) (gv2_17_2 : (σ1_18.2 2).toInt = (σ1_1.2 2).toInt) (gv2_17_3 : (σ1_18.2 3).toInt = (σ1_1.2 3).toInt) (gv2_17_4 : (σ1_18.2 4).toInt = (σ1_1.2 4).toInt) (gv2_17_5 : (σ1_18.2 5).toInt = (σ1_1.2 5).toInt) (gv2_17_6 : (σ1_18.2 6).toInt = (σ1_1.2 6).toInt) (gv2_17_7 : (σ1_18.2 7).toInt = (σ1_1.2 7).toInt) (gv2_17_8 : (σ1_18.2 8).toInt = (σ1_1.2 8).toInt) (gv2_17_9 : (σ1_18.2 9).toInt = (σ1_1.2 9).toInt) (gv2_17_10 : (σ1_18.2 10).toInt = (σ1_1.2 10).toInt) (gv2_17_11 : (σ1_18.2 11).toInt = (σ1_1.2 11).toInt) (gv2_17_12 : ((1) = 0 ∧ (σ1_18.2 0).toInt = (σ1_1.2 0).toInt) ∨ ((1) = 1 ∧ (σ1_18.2 0).toInt = (1))) => ?_))
      have : (-2147483648 : Int) ≤ (σ1_18.2 0).toInt ∧ (σ1_18.2 0).toInt ≤ 2147483647 := Iσ1_18.2.1 0
      have : (0 : Int) ≤ (σ1_18.2 2).toInt ∧ (σ1_18.2 2).toInt ≤ 60 := Iσ1_18.2.1 2
      have : (0 : Int) ≤ (σ1_18.2 3).toInt ∧ (σ1_18.2 3).toInt ≤ 4 := Iσ1_18.2.1 3
      refine hs_ite (fun h_19 => ?_) (fun h_19 => ?_)
      · have : (v2_17 : Int32).toInt = (0) := congrArg Int32.toInt h_19
        refine hs_ga (j := 7) Iσ1_18 (by omega) (by omega) (fun v5_20 ev5_20 (bv5_20 : (-2147483648 : Int) ≤ v5_20.toInt ∧ v5_20.toInt ≤ 2147483647) => ?_)
        refine hs_ite (fun h_21 => ?_) (fun h_21 => ?_)
        · have : (v5_20 : Int32).toInt = (0) := congrArg Int32.toInt h_21
          obtain ⟨e_22, he_22⟩ : ∃ e9 : Int32, e9 = (6 * x2) := ⟨_, rfl⟩
          try have : e_22.toInt = (6) * (x2 : Int32).toInt := by rw [he_22]; exact hs_mull (6) rfl (by omega) (by omega)
          try rw [← he_22]
          obtain ⟨e_23, he_23⟩ : ∃ e9 : Int32, e9 = (e_22 + x3) := ⟨_, rfl⟩
          try have : e_23.toInt = (e_22 : Int32).toInt + (x3 : Int32).toInt := by rw [he_23]; exact hs_add (by omega) (by omega)
          try rw [← he_23]
          refine hs_ga (j := 10) Iσ1_18 (by omega) (by omega) (fun v9_24 ev9_24 (bv9_24 : (0 : Int) ≤ v9_24.toInt ∧ v9_24.toInt ≤ 10) => ?_)
          have : (σ1_18.1 10 (e_23 : Int32).toNatClampNeg).toInt = v9_24.toInt := by rw [ev9_24]
          refine hs_ite (fun h_25 => ?_) (fun h_25 => ?_)
          · have : (v9_24 : Int32).toInt = (10) := congrArg Int32.toInt h_25
            exact hs_some (hQ σ1_18 (0 : Int32) Iσ1_18 )
          · have : ¬ (v9_24 : Int32).toInt = (10) := fun z => h_25 (Int32.toInt_inj.mp z)
            try rw [← he_22]
            try rw [← he_23]
            have hfu : ((hy_fu : Nat) : Int) = 5000 := rfl
            refine s_fX10_load_71 (fun j h => ra j (hs_inc (by decide) h)) (fun j h => ri j (hs_inc (by decide) h))  (fun τ_26 v_27 Iτ_26  => ?_)  hy_fu σ1_18 (x1 : Int32) (e_23 : Int32) (0 : Int32) Iσ1_18 (show 0 ≤ (x1 : Int32).toInt by omega) (show (x1 : Int32).toInt < 60 by omega) (show 0 ≤ (e_23 : Int32).toInt by omega) (show (e_23 : Int32).toInt < 24 by omega) (show 0 ≤ (0) by omega) (show (0) ≤ 10 by omega) (show (σ1_18.1 10 (e_23 : Int32).toNatClampNeg).toInt < 10 by omega)  (show 10 - (0) < ((hy_fu : Nat) : Int) by rw [hfu]; omega)
            have : (-2147483648 : Int) ≤ (τ_26.2 0).toInt ∧ (τ_26.2 0).toInt ≤ 2147483647 := Iτ_26.2.1 0
            have : (0 : Int) ≤ (τ_26.2 2).toInt ∧ (τ_26.2 2).toInt ≤ 60 := Iτ_26.2.1 2
            have : (0 : Int) ≤ (τ_26.2 3).toInt ∧ (τ_26.2 3).toInt ≤ 4 := Iτ_26.2.1 3
            exact (hQ τ_26 (v_27 : Int32) Iτ_26 )
        · have : ¬ (v5_20 : Int32).toInt = (0) := fun z => h_21 (Int32.toInt_inj.mp z)
          exact hs_some (hQ σ1_18 (0 : Int32) Iσ1_18 )
      · have : ¬ (v2_17 : Int32).toInt = (0) := fun z => h_19 (Int32.toInt_inj.mp z)
        exact hs_some (hQ σ1_18 (0 : Int32) Iσ1_18 )
  · have : ¬ (v4_2 : Int32).toInt = (0) := fun z => h_3 (Int32.toInt_inj.mp z)
    unfold fX10_load_23
    unfold fX10_load_28
    refine hs_bd (s_fX10_throwsIf (fun j h => ra j (hs_inc (by decide) h)) (fun j h => ri j (hs_inc (by decide) h)) σ1_1 (1 : Int32) (1 : Int32) Iσ1_1 (show 0 ≤ (1) by omega) (show (1) ≤ 1 by omega) (fun σ1_29 v2_28 Iσ1_29 (gv2_28_0 : v2_28.toInt = (1)) (gv2_28_1 : (σ1_29.2 1).toInt = (σ1_1.2 1).toInt) (gv2_28_2 : (σ1_29.2 2).toInt = (σ1_1.2 2).toInt) (gv2_28_3 : (σ1_29.2 3).toInt = (σ1_1.2 3).toInt) (gv2_28_4 : (σ1_29.2 4).toInt = (σ1_1.2 4).toInt) (gv2_28_5 : (σ1_29.2 5).toInt = (σ1_1.2 5).toInt) (gv2_28_6 : (σ1_29.2 6).toInt = (σ1_1.2 6).toInt) (gv2_28_7 : (σ1_29.2 7).toInt = (σ1_1.2 7).toInt) (gv2_28_8 : (σ1_29.2 8).toInt = (σ1_1.2 8).toInt) (gv2_28_9 : (σ1_29.2 9).toInt = (σ1_1.2 9).toInt) (gv2_28_10 : (σ1_29.2 10).toInt = (σ1_1.2 10).toInt) (gv2_28_11 : (σ1_29.2 11).toInt = (σ1_1.2 11).toInt) (gv2_28_12 : ((1) = 0 ∧ (σ1_29.2 0).toInt = (σ1_1.2 0).toInt) ∨ ((1) = 1 ∧ (σ1_29.2 0).toInt = (1))) => ?_))
    have : (-2147483648 : Int) ≤ (σ1_29.2 0).toInt ∧ (σ1_29.2 0).toInt ≤ 2147483647 := Iσ1_29.2.1 0
    have : (0 : Int) ≤ (σ1_29.2 2).toInt ∧ (σ1_29.2 2).toInt ≤ 60 := Iσ1_29.2.1 2
    have : (0 : Int) ≤ (σ1_29.2 3).toInt ∧ (σ1_29.2 3).toInt ≤ 4 := Iσ1_29.2.1 3
    refine hs_ite (fun h_30 => ?_) (fun h_30 => ?_)
    · have : (v2_28 : Int32).toInt = (0) := congrArg Int32.toInt h_30
      refine hs_ga (j := 7) Iσ1_29 (by omega) (by omega) (fun v5_31 ev5_31 (bv5_31 : (-2147483648 : Int) ≤ v5_31.toInt ∧ v5_31.toInt ≤ 2147483647) => ?_)
      refine hs_ite (fun h_32 => ?_) (fun h_32 => ?_)
      · have : (v5_31 : Int32).toInt = (0) := congrArg Int32.toInt h_32
        obtain ⟨e_33, he_33⟩ : ∃ e9 : Int32, e9 = (6 * x2) := ⟨_, rfl⟩
        try have : e_33.toInt = (6) * (x2 : Int32).toInt := by rw [he_33]; exact hs_mull (6) rfl (by omega) (by omega)
        try rw [← he_33]
        obtain ⟨e_34, he_34⟩ : ∃ e9 : Int32, e9 = (e_33 + x3) := ⟨_, rfl⟩
        try have : e_34.toInt = (e_33 : Int32).toInt + (x3 : Int32).toInt := by rw [he_34]; exact hs_add (by omega) (by omega)
        try rw [← he_34]
        refine hs_ga (j := 10) Iσ1_29 (by omega) (by omega) (fun v9_35 ev9_35 (bv9_35 : (0 : Int) ≤ v9_35.toInt ∧ v9_35.toInt ≤ 10) => ?_)
        have : (σ1_29.1 10 (e_34 : Int32).toNatClampNeg).toInt = v9_35.toInt := by rw [ev9_35]
        refine hs_ite (fun h_36 => ?_) (fun h_36 => ?_)
        · have : (v9_35 : Int32).toInt = (10) := congrArg Int32.toInt h_36
          exact hs_some (hQ σ1_29 (0 : Int32) Iσ1_29 )
        · have : ¬ (v9_35 : Int32).toInt = (10) := fun z => h_36 (Int32.toInt_inj.mp z)
          try rw [← he_33]
          try rw [← he_34]
          have hfu : ((hy_fu : Nat) : Int) = 5000 := rfl
          refine s_fX10_load_71 (fun j h => ra j (hs_inc (by decide) h)) (fun j h => ri j (hs_inc (by decide) h))  (fun τ_37 v_38 Iτ_37  => ?_)  hy_fu σ1_29 (x1 : Int32) (e_34 : Int32) (0 : Int32) Iσ1_29 (show 0 ≤ (x1 : Int32).toInt by omega) (show (x1 : Int32).toInt < 60 by omega) (show 0 ≤ (e_34 : Int32).toInt by omega) (show (e_34 : Int32).toInt < 24 by omega) (show 0 ≤ (0) by omega) (show (0) ≤ 10 by omega) (show (σ1_29.1 10 (e_34 : Int32).toNatClampNeg).toInt < 10 by omega)  (show 10 - (0) < ((hy_fu : Nat) : Int) by rw [hfu]; omega)
          have : (-2147483648 : Int) ≤ (τ_37.2 0).toInt ∧ (τ_37.2 0).toInt ≤ 2147483647 := Iτ_37.2.1 0
          have : (0 : Int) ≤ (τ_37.2 2).toInt ∧ (τ_37.2 2).toInt ≤ 60 := Iτ_37.2.1 2
          have : (0 : Int) ≤ (τ_37.2 3).toInt ∧ (τ_37.2 3).toInt ≤ 4 := Iτ_37.2.1 3
          exact (hQ τ_37 (v_38 : Int32) Iτ_37 )
      · have : ¬ (v5_31 : Int32).toInt = (0) := fun z => h_32 (Int32.toInt_inj.mp z)
        exact hs_some (hQ σ1_29 (0 : Int32) Iσ1_29 )
    · have : ¬ (v2_28 : Int32).toInt = (0) := fun z => h_30 (Int32.toInt_inj.mp z)
      exact hs_some (hQ σ1_29 (0 : Int32) Iσ1_29 )
theorem s_fX10_land {R : hy_S → Prop} (ra : ∀ j, j ∈ ([7, 8, 10] : List Nat) → ∀ (τ : hy_S) (g : Nat → Int32), R τ → R (hy_sc τ j g)) (ri : ∀ j, j ∈ ([0] : List Nat) → ∀ (τ : hy_S) (v : Int32), R τ → R (hy_si τ j v)) (σ : hy_S) (x1 : Int32) (x2 : Int32) {P : hy_S → Int32 → Prop} (I : hm_I R σ) (hQ : ∀ (σ9 : hy_S) (v9 : Int32), hm_I R σ9 → P σ9 v9) : hs_ok2 (fX10_land σ x1 x2) P := by
  unfold fX10_land
  show hs_ok _ _
  have : (-2147483648 : Int) ≤ (σ.2 0).toInt ∧ (σ.2 0).toInt ≤ 2147483647 := I.2.1 0
  have : (0 : Int) ≤ (σ.2 2).toInt ∧ (σ.2 2).toInt ≤ 60 := I.2.1 2
  have : (0 : Int) ≤ (σ.2 3).toInt ∧ (σ.2 3).toInt ≤ 4 := I.2.1 3
  refine hs_pf (v := 0) I (hs_any _) (fun r => ⟨hm_Ri (by decide) r.1, ri 0 (by decide) _ _ r.2⟩) (fun σ1_1 eσ1_1 Iσ1_1 => ?_)
  have : (σ1_1.2 0).toInt = (0) := by rw [eσ1_1]; rfl
  have : (σ1_1.2 2).toInt = (σ.2 2).toInt := by rw [eσ1_1]; rfl
  have : (σ1_1.2 3).toInt = (σ.2 3).toInt := by rw [eσ1_1]; rfl
  have : (-2147483648 : Int) ≤ (σ1_1.2 0).toInt ∧ (σ1_1.2 0).toInt ≤ 2147483647 := Iσ1_1.2.1 0
  have : (0 : Int) ≤ (σ1_1.2 2).toInt ∧ (σ1_1.2 2).toInt ≤ 60 := Iσ1_1.2.1 2
  have : (0 : Int) ≤ (σ1_1.2 3).toInt ∧ (σ1_1.2 3).toInt ≤ 4 := Iσ1_1.2.1 3
  refine hs_bd (s_fX10_noHold σ1_1 x1 x2 Iσ1_1  (fun v4_2 (gv4_2_0 : 0 ≤ v4_2.toInt) (gv4_2_1 : v4_2.toInt ≤ 1) (gv4_2_2 : v4_2.toInt = 1 ∨ (0 ≤ (x1 : Int32).toInt ∧ (x1 : Int32).toInt < (σ1_1.2 3).toInt ∧ 0 ≤ (x2 : Int32).toInt ∧ (x2 : Int32).toInt ≤ 5)) => ?_))
  refine hs_bd (s_fX10_throwsIf (fun j h => ra j (hs_inc (by decide) h)) (fun j h => ri j (hs_inc (by decide) h)) σ1_1 v4_2 (1 : Int32) Iσ1_1 (show 0 ≤ (v4_2 : Int32).toInt by omega) (show (v4_2 : Int32).toInt ≤ 1 by omega) (fun σ6_4 v7_3 Iσ6_4 (gv7_3_0 : v7_3.toInt = (v4_2 : Int32).toInt) (gv7_3_1 : (σ6_4.2 1).toInt = (σ1_1.2 1).toInt) (gv7_3_2 : (σ6_4.2 2).toInt = (σ1_1.2 2).toInt) (gv7_3_3 : (σ6_4.2 3).toInt = (σ1_1.2 3).toInt) (gv7_3_4 : (σ6_4.2 4).toInt = (σ1_1.2 4).toInt) (gv7_3_5 : (σ6_4.2 5).toInt = (σ1_1.2 5).toInt) (gv7_3_6 : (σ6_4.2 6).toInt = (σ1_1.2 6).toInt) (gv7_3_7 : (σ6_4.2 7).toInt = (σ1_1.2 7).toInt) (gv7_3_8 : (σ6_4.2 8).toInt = (σ1_1.2 8).toInt) (gv7_3_9 : (σ6_4.2 9).toInt = (σ1_1.2 9).toInt) (gv7_3_10 : (σ6_4.2 10).toInt = (σ1_1.2 10).toInt) (gv7_3_11 : (σ6_4.2 11).toInt = (σ1_1.2 11).toInt) (gv7_3_12 : ((v4_2 : Int32).toInt = 0 ∧ (σ6_4.2 0).toInt = (σ1_1.2 0).toInt) ∨ ((v4_2 : Int32).toInt = 1 ∧ (σ6_4.2 0).toInt = (1))) => ?_))
  have : (-2147483648 : Int) ≤ (σ6_4.2 0).toInt ∧ (σ6_4.2 0).toInt ≤ 2147483647 := Iσ6_4.2.1 0
  have : (0 : Int) ≤ (σ6_4.2 2).toInt ∧ (σ6_4.2 2).toInt ≤ 60 := Iσ6_4.2.1 2
  have : (0 : Int) ≤ (σ6_4.2 3).toInt ∧ (σ6_4.2 3).toInt ≤ 4 := Iσ6_4.2.1 3
  refine hs_ite (fun h_5 => ?_) (fun h_5 => ?_)
  · have : (v7_3 : Int32).toInt = (0) := congrArg Int32.toInt h_5
    obtain ⟨e_6, he_6⟩ : ∃ e9 : Int32, e9 = (6 * x1) := ⟨_, rfl⟩
    try have : e_6.toInt = (6) * (x1 : Int32).toInt := by rw [he_6]; exact hs_mull (6) rfl (by omega) (by omega)
    try rw [← he_6]
    obtain ⟨e_7, he_7⟩ : ∃ e9 : Int32, e9 = (e_6 + x2) := ⟨_, rfl⟩
    try have : e_7.toInt = (e_6 : Int32).toInt + (x2 : Int32).toInt := by rw [he_7]; exact hs_add (by omega) (by omega)
    try rw [← he_7]
    refine hs_ga (j := 10) Iσ6_4 (by omega) (by omega) (fun v10_8 ev10_8 (bv10_8 : (0 : Int) ≤ v10_8.toInt ∧ v10_8.toInt ≤ 10) => ?_)
    have : (σ6_4.1 10 (e_7 : Int32).toNatClampNeg).toInt = v10_8.toInt := by rw [ev10_8]
    refine hs_ite (fun h_9 => ?_) (fun h_9 => ?_)
    · have : (v10_8 : Int32).toInt = (0) := congrArg Int32.toInt h_9
      exact hs_some (hQ σ6_4 ((-1) : Int32) Iσ6_4 )
    · have : ¬ (v10_8 : Int32).toInt = (0) := fun z => h_9 (Int32.toInt_inj.mp z)
      try rw [← he_6]
      try rw [← he_7]
      exact s_land_tail (fun j h => ra j (hs_inc (by decide) h)) σ6_4 e_7 Iσ6_4 (by omega) (by omega) (by omega) hQ
  · have : ¬ (v7_3 : Int32).toInt = (0) := fun z => h_5 (Int32.toInt_inj.mp z)
    exact hs_some (hQ σ6_4 (0 : Int32) Iσ6_4 )
theorem s_fX10_meets_2 {R : hy_S → Prop} (ra : ∀ j, j ∈ ([7, 8, 9, 10, 11] : List Nat) → ∀ (τ : hy_S) (g : Nat → Int32), R τ → R (hy_sc τ j g)) (ri : ∀ j, j ∈ ([] : List Nat) → ∀ (τ : hy_S) (v : Int32), R τ → R (hy_si τ j v)) {Q : hy_S × Int32 → Prop} (hQ : ∀ (σ9 : hy_S) (v9 : Int32), hm_I R σ9 → Q (σ9, v9)) : ∀ (n : Nat) (σ : hy_S) (x1 : Int32) (x2 : Int32) (x3 : Int32), hm_I R σ → 0 ≤ x1.toInt → x1.toInt < 24 → 0 ≤ x3.toInt → x3.toInt ≤ 10 → 10 - x3.toInt < (n : Int) → hs_ok (fX10_meets_2 n σ x1 x2 x3) Q := by
  intro n
  induction n with
  | zero =>
    intro σ x1 x2 x3 I p0 p1 p2 p3  hm
    exact absurd hm (by omega)
  | succ n ih =>
    intro σ x1 x2 x3 I p0 p1 p2 p3  hm
    unfold fX10_meets_2
    refine hs_ga (j := 10) I (by omega) (by omega) (fun v1_1 ev1_1 (bv1_1 : (0 : Int) ≤ v1_1.toInt ∧ v1_1.toInt ≤ 10) => ?_)
    have : (σ.1 10 (x1 : Int32).toNatClampNeg).toInt = v1_1.toInt := by rw [ev1_1]
    refine hs_ite (fun h_2 => ?_) (fun h_2 => ?_)
    · have : (v1_1 : Int32).toInt ≤ (x3 : Int32).toInt := Int32.le_iff_toInt_le.mp h_2
      refine hs_ga (j := 10) I (by omega) (by omega) (fun v5_3 ev5_3 (bv5_3 : (0 : Int) ≤ v5_3.toInt ∧ v5_3.toInt ≤ 10) => ?_)
      have : (σ.1 10 (x1 : Int32).toNatClampNeg).toInt = v5_3.toInt := by rw [ev5_3]
      have hfu : ((hy_fu : Nat) : Int) = 5000 := rfl
      exact s_fX10_meets_87 (fun j h => ra j (hs_inc (by decide) h)) hQ hy_fu σ x1 0 v5_3 0 (hm_box I) (by omega) (by omega) (by decide) (by decide) (show (0 : Int) ≤ v5_3.toInt by omega) (by omega) (s_meets_in I ev5_3) (show v5_3.toInt - 0 < ((hy_fu : Nat) : Int) by rw [hfu]; omega)
    · have : ¬ (v1_1 : Int32).toInt ≤ (x3 : Int32).toInt := fun z => h_2 (Int32.le_iff_toInt_le.mpr z)
      obtain ⟨e_4, he_4⟩ : ∃ e9 : Int32, e9 = (10 * x1) := ⟨_, rfl⟩
      try have : e_4.toInt = (10) * (x1 : Int32).toInt := by rw [he_4]; exact hs_mull (10) rfl (by omega) (by omega)
      try rw [← he_4]
      obtain ⟨e_5, he_5⟩ : ∃ e9 : Int32, e9 = (e_4 + x3) := ⟨_, rfl⟩
      try have : e_5.toInt = (e_4 : Int32).toInt + (x3 : Int32).toInt := by rw [he_5]; exact hs_add (by omega) (by omega)
      try rw [← he_5]
      refine hs_ga (j := 9) I (by omega) (by omega) (fun v8_6 ev8_6 (bv8_6 : (0 : Int) ≤ v8_6.toInt ∧ v8_6.toInt ≤ 59) => ?_)
      refine hs_ga (j := 3) I (by omega) (by omega) (fun v11_7 ev11_7 (bv11_7 : (0 : Int) ≤ v11_7.toInt ∧ v11_7.toInt ≤ 7) => ?_)
      refine hs_ga (j := 2) I (by omega) (by omega) (fun v14_8 ev14_8 (bv14_8 : (-2147483648 : Int) ≤ v14_8.toInt ∧ v14_8.toInt ≤ 2147483647) => ?_)
      refine hs_bd (s_fX10_above σ x1 x3 I (show 0 ≤ (x1 : Int32).toInt by omega) (show (x1 : Int32).toInt < 24 by omega) (show 0 ≤ (x3 : Int32).toInt by omega) (show (x3 : Int32).toInt ≤ 9 by omega) (fun v18_9  => ?_))
      obtain ⟨e_10, he_10⟩ : ∃ e9 : Int32, e9 = (v14_8 * x2) := ⟨_, rfl⟩
      try rw [← he_10]
      obtain ⟨e_11, he_11⟩ : ∃ e9 : Int32, e9 = (e_10 + 99) := ⟨_, rfl⟩
      try have : e_11.toInt = (e_10 : Int32).toInt + (99) := by rw [he_11]; exact hs_addk (99) rfl (by omega) (by omega)
      try rw [← he_11]
      obtain ⟨e_12, he_12⟩ : ∃ e9 : Int32, e9 = (e_11 / 100) := ⟨_, rfl⟩
      try have : e_12.toInt = (e_11 : Int32).toInt / (100) := by rw [he_12]; exact hs_div (100) rfl (by omega) (by omega)
      try rw [← he_12]
      obtain ⟨e_13, he_13⟩ : ∃ e9 : Int32, e9 = (v14_8 - e_12) := ⟨_, rfl⟩
      try have : e_13.toInt = (v14_8 : Int32).toInt - (e_12 : Int32).toInt := by rw [he_13]; exact hs_sub (by omega) (by omega)
      try rw [← he_13]
      refine hs_ite (fun h_14 => ?_) (fun h_14 => ?_)
      · have : (v18_9 : Int32).toInt ≤ (e_13 : Int32).toInt := Int32.le_iff_toInt_le.mp h_14
        unfold fX10_meets_67
        refine hs_pa (idx := x3) (v := _) I (by omega) (by omega) (hs_any _) (fun r => ⟨hm_Ra (by decide) r.1, ra 11 (by decide) _ _ r.2⟩) (fun σ1_15 eσ1_15 Iσ1_15 => ?_)
        have : (σ1_15.1 10 (x1 : Int32).toNatClampNeg).toInt = (σ.1 10 (x1 : Int32).toNatClampNeg).toInt := by rw [eσ1_15]; rfl
        have : (0 : Int) ≤ (σ1_15.1 10 (x1 : Int32).toNatClampNeg).toInt ∧ (σ1_15.1 10 (x1 : Int32).toNatClampNeg).toInt ≤ 10 := Iσ1_15.1 10 _
        obtain ⟨e_16, he_16⟩ : ∃ e9 : Int32, e9 = (x3 + 1) := ⟨_, rfl⟩
        try have : e_16.toInt = (x3 : Int32).toInt + (1) := by rw [he_16]; exact hs_addk (1) rfl (by omega) (by omega)
        try rw [← he_16]
        exact ih σ1_15 (x1 : Int32) (x2 : Int32) (e_16 : Int32) Iσ1_15 (show 0 ≤ (x1 : Int32).toInt by omega) (show (x1 : Int32).toInt < 24 by omega) (show 0 ≤ (e_16 : Int32).toInt by omega) (show (e_16 : Int32).toInt ≤ 10 by omega)  (by omega)
      · have : ¬ (v18_9 : Int32).toInt ≤ (e_13 : Int32).toInt := fun z => h_14 (Int32.le_iff_toInt_le.mpr z)
        unfold fX10_meets_67
        refine hs_pa (idx := x3) (v := _) I (by omega) (by omega) (hs_any _) (fun r => ⟨hm_Ra (by decide) r.1, ra 11 (by decide) _ _ r.2⟩) (fun σ1_17 eσ1_17 Iσ1_17 => ?_)
        have : (σ1_17.1 10 (x1 : Int32).toNatClampNeg).toInt = (σ.1 10 (x1 : Int32).toNatClampNeg).toInt := by rw [eσ1_17]; rfl
        have : (0 : Int) ≤ (σ1_17.1 10 (x1 : Int32).toNatClampNeg).toInt ∧ (σ1_17.1 10 (x1 : Int32).toNatClampNeg).toInt ≤ 10 := Iσ1_17.1 10 _
        obtain ⟨e_18, he_18⟩ : ∃ e9 : Int32, e9 = (x3 + 1) := ⟨_, rfl⟩
        try have : e_18.toInt = (x3 : Int32).toInt + (1) := by rw [he_18]; exact hs_addk (1) rfl (by omega) (by omega)
        try rw [← he_18]
        exact ih σ1_17 (x1 : Int32) (x2 : Int32) (e_18 : Int32) Iσ1_17 (show 0 ≤ (x1 : Int32).toInt by omega) (show (x1 : Int32).toInt < 24 by omega) (show 0 ≤ (e_18 : Int32).toInt by omega) (show (e_18 : Int32).toInt ≤ 10 by omega)  (by omega)
theorem s_fX10_meets {R : hy_S → Prop} (ra : ∀ j, j ∈ ([7, 8, 9, 10, 11] : List Nat) → ∀ (τ : hy_S) (g : Nat → Int32), R τ → R (hy_sc τ j g)) (ri : ∀ j, j ∈ ([] : List Nat) → ∀ (τ : hy_S) (v : Int32), R τ → R (hy_si τ j v)) (σ : hy_S) (x1 : Int32) (x2 : Int32) {P : hy_S → Int32 → Prop} (I : hm_I R σ) (p0 : 0 ≤ x1.toInt) (p1 : x1.toInt < 24) (hQ : ∀ (σ9 : hy_S) (v9 : Int32), hm_I R σ9 → P σ9 v9) : hs_ok2 (fX10_meets σ x1 x2) P := by
  unfold fX10_meets
  show hs_ok _ _
  have hfu : ((hy_fu : Nat) : Int) = 5000 := rfl
  refine s_fX10_meets_2 (fun j h => ra j (hs_inc (by decide) h)) (fun j h => ri j (hs_inc (by decide) h))  (fun τ_1 v_2 Iτ_1  => ?_)  hy_fu σ (x1 : Int32) (x2 : Int32) (0 : Int32) I (show 0 ≤ (x1 : Int32).toInt by omega) (show (x1 : Int32).toInt < 24 by omega) (show 0 ≤ (0) by omega) (show (0) ≤ 10 by omega)  (show 10 - (0) < ((hy_fu : Nat) : Int) by rw [hfu]; omega)
  exact (hQ τ_1 (v_2 : Int32) Iτ_1 )
theorem s_fX10_storm_62 {R : hy_S → Prop} (ra : ∀ j, j ∈ ([7, 8, 9, 10, 11] : List Nat) → ∀ (τ : hy_S) (g : Nat → Int32), R τ → R (hy_sc τ j g)) (ri : ∀ j, j ∈ ([] : List Nat) → ∀ (τ : hy_S) (v : Int32), R τ → R (hy_si τ j v)) {Q : hy_S × Int32 → Prop} (hQ : ∀ (σ9 : hy_S) (v9 : Int32), hm_I R σ9 → Q (σ9, v9)) : ∀ (n : Nat) (σ : hy_S) (x1 : Int32) (x2 : Int32) (x3 : Int32) (x4 : Int32), hm_I R σ → 0 ≤ x1.toInt → x1.toInt ≤ 3 → 0 ≤ x4.toInt → x4.toInt ≤ 6 → 6 - x4.toInt < (n : Int) → hs_ok (fX10_storm_62 n σ x1 x2 x3 x4) Q := by
  intro n
  induction n with
  | zero =>
    intro σ x1 x2 x3 x4 I p0 p1 p2 p3  hm
    exact absurd hm (by omega)
  | succ n ih =>
    intro σ x1 x2 x3 x4 I p0 p1 p2 p3  hm
    unfold fX10_storm_62
    refine hs_ite (fun h_1 => ?_) (fun h_1 => ?_)
    · have : (6) ≤ (x4 : Int32).toInt := Int32.le_iff_toInt_le.mp h_1
      exact hs_some (hQ σ (x3 : Int32) I )
    · have : ¬ (6) ≤ (x4 : Int32).toInt := fun z => h_1 (Int32.le_iff_toInt_le.mpr z)
      obtain ⟨e_2, he_2⟩ : ∃ e9 : Int32, e9 = (6 * x1) := ⟨_, rfl⟩
      try have : e_2.toInt = (6) * (x1 : Int32).toInt := by rw [he_2]; exact hs_mull (6) rfl (by omega) (by omega)
      try rw [← he_2]
      obtain ⟨e_3, he_3⟩ : ∃ e9 : Int32, e9 = (e_2 + x4) := ⟨_, rfl⟩
      try have : e_3.toInt = (e_2 : Int32).toInt + (x4 : Int32).toInt := by rw [he_3]; exact hs_add (by omega) (by omega)
      try rw [← he_3]
      refine hs_bd (s_fX10_meets (fun j h => ra j (hs_inc (by decide) h)) (fun j h => ri j (hs_inc (by decide) h)) σ e_3 x2 I (show 0 ≤ (e_3 : Int32).toInt by omega) (show (e_3 : Int32).toInt < 24 by omega) (fun σ2_5 v3_4 Iσ2_5  => ?_))
      obtain ⟨e_6, he_6⟩ : ∃ e9 : Int32, e9 = (x3 + v3_4) := ⟨_, rfl⟩
      try have : e_6.toInt = (x3 : Int32).toInt + (v3_4 : Int32).toInt := by rw [he_6]; exact hs_add (by omega) (by omega)
      try rw [← he_6]
      obtain ⟨e_7, he_7⟩ : ∃ e9 : Int32, e9 = (x4 + 1) := ⟨_, rfl⟩
      try have : e_7.toInt = (x4 : Int32).toInt + (1) := by rw [he_7]; exact hs_addk (1) rfl (by omega) (by omega)
      try rw [← he_7]
      exact ih σ2_5 (x1 : Int32) (x2 : Int32) (e_6 : Int32) (e_7 : Int32) Iσ2_5 (show 0 ≤ (x1 : Int32).toInt by omega) (show (x1 : Int32).toInt ≤ 3 by omega) (show 0 ≤ (e_7 : Int32).toInt by omega) (show (e_7 : Int32).toInt ≤ 6 by omega)  (by omega)
theorem s_fX10_storm {R : hy_S → Prop} (ra : ∀ j, j ∈ ([7, 8, 9, 10, 11] : List Nat) → ∀ (τ : hy_S) (g : Nat → Int32), R τ → R (hy_sc τ j g)) (ri : ∀ j, j ∈ ([0] : List Nat) → ∀ (τ : hy_S) (v : Int32), R τ → R (hy_si τ j v)) (σ : hy_S) (x1 : Int32) (x2 : Int32) {P : hy_S → Int32 → Prop} (I : hm_I R σ) (hQ : ∀ (σ9 : hy_S) (v9 : Int32), hm_I R σ9 → P σ9 v9) : hs_ok2 (fX10_storm σ x1 x2) P := by
  unfold fX10_storm
  show hs_ok _ _
  have : (-2147483648 : Int) ≤ (σ.2 0).toInt ∧ (σ.2 0).toInt ≤ 2147483647 := I.2.1 0
  have : (0 : Int) ≤ (σ.2 3).toInt ∧ (σ.2 3).toInt ≤ 4 := I.2.1 3
  refine hs_pf (v := 0) I (hs_any _) (fun r => ⟨hm_Ri (by decide) r.1, ri 0 (by decide) _ _ r.2⟩) (fun σ1_1 eσ1_1 Iσ1_1 => ?_)
  have : (σ1_1.2 0).toInt = (0) := by rw [eσ1_1]; rfl
  have : (σ1_1.2 3).toInt = (σ.2 3).toInt := by rw [eσ1_1]; rfl
  have : (-2147483648 : Int) ≤ (σ1_1.2 0).toInt ∧ (σ1_1.2 0).toInt ≤ 2147483647 := Iσ1_1.2.1 0
  have : (0 : Int) ≤ (σ1_1.2 3).toInt ∧ (σ1_1.2 3).toInt ≤ 4 := Iσ1_1.2.1 3
  obtain ⟨e_2, he_2⟩ : ∃ e9 : Int32, e9 = ((σ1_1.2 3) - 1) := ⟨_, rfl⟩
  try have : e_2.toInt = ((σ1_1.2 3) : Int32).toInt - (1) := by rw [he_2]; exact hs_subk (1) rfl (by omega) (by omega)
  try rw [← he_2]
  refine hs_bd (s_fX10_in σ1_1 x1 (0 : Int32) e_2 Iσ1_1  (fun v4_3 (gv4_3_0 : (v4_3.toInt = 1 ∧ (0) ≤ (x1 : Int32).toInt ∧ (x1 : Int32).toInt ≤ (e_2 : Int32).toInt) ∨ (v4_3.toInt = 0 ∧ ((x1 : Int32).toInt < (0) ∨ (e_2 : Int32).toInt < (x1 : Int32).toInt))) => ?_))
  refine hs_ite (fun h_4 => ?_) (fun h_4 => ?_)
  · have : (v4_3 : Int32).toInt = (0) := congrArg Int32.toInt h_4
    unfold fX10_storm_25
    refine hs_bd (s_fX10_throwsIf (fun j h => ra j (hs_inc (by decide) h)) (fun j h => ri j (hs_inc (by decide) h)) σ1_1 (1 : Int32) (1 : Int32) Iσ1_1 (show 0 ≤ (1) by omega) (show (1) ≤ 1 by omega) (fun σ1_6 v2_5 Iσ1_6 (gv2_5_0 : v2_5.toInt = (1)) (gv2_5_1 : (σ1_6.2 1).toInt = (σ1_1.2 1).toInt) (gv2_5_2 : (σ1_6.2 2).toInt = (σ1_1.2 2).toInt) (gv2_5_3 : (σ1_6.2 3).toInt = (σ1_1.2 3).toInt) (gv2_5_4 : (σ1_6.2 4).toInt = (σ1_1.2 4).toInt) (gv2_5_5 : (σ1_6.2 5).toInt = (σ1_1.2 5).toInt) (gv2_5_6 : (σ1_6.2 6).toInt = (σ1_1.2 6).toInt) (gv2_5_7 : (σ1_6.2 7).toInt = (σ1_1.2 7).toInt) (gv2_5_8 : (σ1_6.2 8).toInt = (σ1_1.2 8).toInt) (gv2_5_9 : (σ1_6.2 9).toInt = (σ1_1.2 9).toInt) (gv2_5_10 : (σ1_6.2 10).toInt = (σ1_1.2 10).toInt) (gv2_5_11 : (σ1_6.2 11).toInt = (σ1_1.2 11).toInt) (gv2_5_12 : ((1) = 0 ∧ (σ1_6.2 0).toInt = (σ1_1.2 0).toInt) ∨ ((1) = 1 ∧ (σ1_6.2 0).toInt = (1))) => ?_))
    have : (-2147483648 : Int) ≤ (σ1_6.2 0).toInt ∧ (σ1_6.2 0).toInt ≤ 2147483647 := Iσ1_6.2.1 0
    have : (0 : Int) ≤ (σ1_6.2 3).toInt ∧ (σ1_6.2 3).toInt ≤ 4 := Iσ1_6.2.1 3
    refine hs_ite (fun h_7 => ?_) (fun h_7 => ?_)
    · have : (v2_5 : Int32).toInt = (0) := congrArg Int32.toInt h_7
      refine hs_bd (s_fX10_in σ1_6 x2 (0 : Int32) (100 : Int32) Iσ1_6  (fun v6_8 (gv6_8_0 : (v6_8.toInt = 1 ∧ (0) ≤ (x2 : Int32).toInt ∧ (x2 : Int32).toInt ≤ (100)) ∨ (v6_8.toInt = 0 ∧ ((x2 : Int32).toInt < (0) ∨ (100) < (x2 : Int32).toInt))) => ?_))
      refine hs_ite (fun h_9 => ?_) (fun h_9 => ?_)
      · have : (v6_8 : Int32).toInt = (0) := congrArg Int32.toInt h_9
        unfold fX10_storm_48
        refine hs_bd (s_fX10_throwsIf (fun j h => ra j (hs_inc (by decide) h)) (fun j h => ri j (hs_inc (by decide) h)) σ1_6 (1 : Int32) (2 : Int32) Iσ1_6 (show 0 ≤ (1) by omega) (show (1) ≤ 1 by omega) (fun σ1_11 v2_10 Iσ1_11 (gv2_10_0 : v2_10.toInt = (1)) (gv2_10_1 : (σ1_11.2 1).toInt = (σ1_6.2 1).toInt) (gv2_10_2 : (σ1_11.2 2).toInt = (σ1_6.2 2).toInt) (gv2_10_3 : (σ1_11.2 3).toInt = (σ1_6.2 3).toInt) (gv2_10_4 : (σ1_11.2 4).toInt = (σ1_6.2 4).toInt) (gv2_10_5 : (σ1_11.2 5).toInt = (σ1_6.2 5).toInt) (gv2_10_6 : (σ1_11.2 6).toInt = (σ1_6.2 6).toInt) (gv2_10_7 : (σ1_11.2 7).toInt = (σ1_6.2 7).toInt) (gv2_10_8 : (σ1_11.2 8).toInt = (σ1_6.2 8).toInt) (gv2_10_9 : (σ1_11.2 9).toInt = (σ1_6.2 9).toInt) (gv2_10_10 : (σ1_11.2 10).toInt = (σ1_6.2 10).toInt) (gv2_10_11 : (σ1_11.2 11).toInt = (σ1_6.2 11).toInt) (gv2_10_12 : ((1) = 0 ∧ (σ1_11.2 0).toInt = (σ1_6.2 0).toInt) ∨ ((1) = 1 ∧ (σ1_11.2 0).toInt = (2))) => ?_))
        have : (-2147483648 : Int) ≤ (σ1_11.2 0).toInt ∧ (σ1_11.2 0).toInt ≤ 2147483647 := Iσ1_11.2.1 0
        have : (0 : Int) ≤ (σ1_11.2 3).toInt ∧ (σ1_11.2 3).toInt ≤ 4 := Iσ1_11.2.1 3
        refine hs_ite (fun h_12 => ?_) (fun h_12 => ?_)
        · have : (v2_10 : Int32).toInt = (0) := congrArg Int32.toInt h_12
          have hfu : ((hy_fu : Nat) : Int) = 5000 := rfl
          refine s_fX10_storm_62 (fun j h => ra j (hs_inc (by decide) h)) (fun j h => ri j (hs_inc (by decide) h))  (fun τ_13 v_14 Iτ_13  => ?_)  hy_fu σ1_11 (x1 : Int32) (x2 : Int32) (0 : Int32) (0 : Int32) Iσ1_11 (show 0 ≤ (x1 : Int32).toInt by omega) (show (x1 : Int32).toInt ≤ 3 by omega) (show 0 ≤ (0) by omega) (show (0) ≤ 6 by omega)  (show 6 - (0) < ((hy_fu : Nat) : Int) by rw [hfu]; omega)
          have : (-2147483648 : Int) ≤ (τ_13.2 0).toInt ∧ (τ_13.2 0).toInt ≤ 2147483647 := Iτ_13.2.1 0
          have : (0 : Int) ≤ (τ_13.2 3).toInt ∧ (τ_13.2 3).toInt ≤ 4 := Iτ_13.2.1 3
          exact (hQ τ_13 (v_14 : Int32) Iτ_13 )
        · have : ¬ (v2_10 : Int32).toInt = (0) := fun z => h_12 (Int32.toInt_inj.mp z)
          exact hs_some (hQ σ1_11 (0 : Int32) Iσ1_11 )
      · have : ¬ (v6_8 : Int32).toInt = (0) := fun z => h_9 (Int32.toInt_inj.mp z)
        unfold fX10_storm_48
        refine hs_bd (s_fX10_throwsIf (fun j h => ra j (hs_inc (by decide) h)) (fun j h => ri j (hs_inc (by decide) h)) σ1_6 (0 : Int32) (2 : Int32) Iσ1_6 (show 0 ≤ (0) by omega) (show (0) ≤ 1 by omega) (fun σ1_16 v2_15 Iσ1_16 (gv2_15_0 : v2_15.toInt = (0)) (gv2_15_1 : (σ1_16.2 1).toInt = (σ1_6.2 1).toInt) (gv2_15_2 : (σ1_16.2 2).toInt = (σ1_6.2 2).toInt) (gv2_15_3 : (σ1_16.2 3).toInt = (σ1_6.2 3).toInt) (gv2_15_4 : (σ1_16.2 4).toInt = (σ1_6.2 4).toInt) (gv2_15_5 : (σ1_16.2 5).toInt = (σ1_6.2 5).toInt) (gv2_15_6 : (σ1_16.2 6).toInt = (σ1_6.2 6).toInt) (gv2_15_7 : (σ1_16.2 7).toInt = (σ1_6.2 7).toInt) (gv2_15_8 : (σ1_16.2 8).toInt = (σ1_6.2 8).toInt) (gv2_15_9 : (σ1_16.2 9).toInt = (σ1_6.2 9).toInt) (gv2_15_10 : (σ1_16.2 10).toInt = (σ1_6.2 10).toInt) (gv2_15_11 : (σ1_16.2 11).toInt = (σ1_6.2 11).toInt) (gv2_15_12 : ((0) = 0 ∧ (σ1_16.2 0).toInt = (σ1_6.2 0).toInt) ∨ ((0) = 1 ∧ (σ1_16.2 0).toInt = (2))) => ?_))
        have : (-2147483648 : Int) ≤ (σ1_16.2 0).toInt ∧ (σ1_16.2 0).toInt ≤ 2147483647 := Iσ1_16.2.1 0
        have : (0 : Int) ≤ (σ1_16.2 3).toInt ∧ (σ1_16.2 3).toInt ≤ 4 := Iσ1_16.2.1 3
        refine hs_ite (fun h_17 => ?_) (fun h_17 => ?_)
        · have : (v2_15 : Int32).toInt = (0) := congrArg Int32.toInt h_17
          have hfu : ((hy_fu : Nat) : Int) = 5000 := rfl
          refine s_fX10_storm_62 (fun j h => ra j (hs_inc (by decide) h)) (fun j h => ri j (hs_inc (by decide) h))  (fun τ_18 v_19 Iτ_18  => ?_)  hy_fu σ1_16 (x1 : Int32) (x2 : Int32) (0 : Int32) (0 : Int32) Iσ1_16 (show 0 ≤ (x1 : Int32).toInt by omega) (show (x1 : Int32).toInt ≤ 3 by omega) (show 0 ≤ (0) by omega) (show (0) ≤ 6 by omega)  (show 6 - (0) < ((hy_fu : Nat) : Int) by rw [hfu]; omega)
          have : (-2147483648 : Int) ≤ (τ_18.2 0).toInt ∧ (τ_18.2 0).toInt ≤ 2147483647 := Iτ_18.2.1 0
          have : (0 : Int) ≤ (τ_18.2 3).toInt ∧ (τ_18.2 3).toInt ≤ 4 := Iτ_18.2.1 3
          exact (hQ τ_18 (v_19 : Int32) Iτ_18 )
        · have : ¬ (v2_15 : Int32).toInt = (0) := fun z => h_17 (Int32.toInt_inj.mp z)
          exact hs_some (hQ σ1_16 (0 : Int32) Iσ1_16 )
    · have : ¬ (v2_5 : Int32).toInt = (0) := fun z => h_7 (Int32.toInt_inj.mp z)
      exact hs_some (hQ σ1_6 (0 : Int32) Iσ1_6 )
  · have : ¬ (v4_3 : Int32).toInt = (0) := fun z => h_4 (Int32.toInt_inj.mp z)
    unfold fX10_storm_25
    refine hs_bd (s_fX10_throwsIf (fun j h => ra j (hs_inc (by decide) h)) (fun j h => ri j (hs_inc (by decide) h)) σ1_1 (0 : Int32) (1 : Int32) Iσ1_1 (show 0 ≤ (0) by omega) (show (0) ≤ 1 by omega) (fun σ1_21 v2_20 Iσ1_21 (gv2_20_0 : v2_20.toInt = (0)) (gv2_20_1 : (σ1_21.2 1).toInt = (σ1_1.2 1).toInt) (gv2_20_2 : (σ1_21.2 2).toInt = (σ1_1.2 2).toInt) (gv2_20_3 : (σ1_21.2 3).toInt = (σ1_1.2 3).toInt) (gv2_20_4 : (σ1_21.2 4).toInt = (σ1_1.2 4).toInt) (gv2_20_5 : (σ1_21.2 5).toInt = (σ1_1.2 5).toInt) (gv2_20_6 : (σ1_21.2 6).toInt = (σ1_1.2 6).toInt) (gv2_20_7 : (σ1_21.2 7).toInt = (σ1_1.2 7).toInt) (gv2_20_8 : (σ1_21.2 8).toInt = (σ1_1.2 8).toInt) (gv2_20_9 : (σ1_21.2 9).toInt = (σ1_1.2 9).toInt) (gv2_20_10 : (σ1_21.2 10).toInt = (σ1_1.2 10).toInt) (gv2_20_11 : (σ1_21.2 11).toInt = (σ1_1.2 11).toInt) (gv2_20_12 : ((0) = 0 ∧ (σ1_21.2 0).toInt = (σ1_1.2 0).toInt) ∨ ((0) = 1 ∧ (σ1_21.2 0).toInt = (1))) => ?_))
    have : (-2147483648 : Int) ≤ (σ1_21.2 0).toInt ∧ (σ1_21.2 0).toInt ≤ 2147483647 := Iσ1_21.2.1 0
    have : (0 : Int) ≤ (σ1_21.2 3).toInt ∧ (σ1_21.2 3).toInt ≤ 4 := Iσ1_21.2.1 3
    refine hs_ite (fun h_22 => ?_) (fun h_22 => ?_)
    · have : (v2_20 : Int32).toInt = (0) := congrArg Int32.toInt h_22
      refine hs_bd (s_fX10_in σ1_21 x2 (0 : Int32) (100 : Int32) Iσ1_21  (fun v6_23 (gv6_23_0 : (v6_23.toInt = 1 ∧ (0) ≤ (x2 : Int32).toInt ∧ (x2 : Int32).toInt ≤ (100)) ∨ (v6_23.toInt = 0 ∧ ((x2 : Int32).toInt < (0) ∨ (100) < (x2 : Int32).toInt))) => ?_))
      refine hs_ite (fun h_24 => ?_) (fun h_24 => ?_)
      · have : (v6_23 : Int32).toInt = (0) := congrArg Int32.toInt h_24
        unfold fX10_storm_48
        refine hs_bd (s_fX10_throwsIf (fun j h => ra j (hs_inc (by decide) h)) (fun j h => ri j (hs_inc (by decide) h)) σ1_21 (1 : Int32) (2 : Int32) Iσ1_21 (show 0 ≤ (1) by omega) (show (1) ≤ 1 by omega) (fun σ1_26 v2_25 Iσ1_26 (gv2_25_0 : v2_25.toInt = (1)) (gv2_25_1 : (σ1_26.2 1).toInt = (σ1_21.2 1).toInt) (gv2_25_2 : (σ1_26.2 2).toInt = (σ1_21.2 2).toInt) (gv2_25_3 : (σ1_26.2 3).toInt = (σ1_21.2 3).toInt) (gv2_25_4 : (σ1_26.2 4).toInt = (σ1_21.2 4).toInt) (gv2_25_5 : (σ1_26.2 5).toInt = (σ1_21.2 5).toInt) (gv2_25_6 : (σ1_26.2 6).toInt = (σ1_21.2 6).toInt) (gv2_25_7 : (σ1_26.2 7).toInt = (σ1_21.2 7).toInt) (gv2_25_8 : (σ1_26.2 8).toInt = (σ1_21.2 8).toInt) (gv2_25_9 : (σ1_26.2 9).toInt = (σ1_21.2 9).toInt) (gv2_25_10 : (σ1_26.2 10).toInt = (σ1_21.2 10).toInt) (gv2_25_11 : (σ1_26.2 11).toInt = (σ1_21.2 11).toInt) (gv2_25_12 : ((1) = 0 ∧ (σ1_26.2 0).toInt = (σ1_21.2 0).toInt) ∨ ((1) = 1 ∧ (σ1_26.2 0).toInt = (2))) => ?_))
        have : (-2147483648 : Int) ≤ (σ1_26.2 0).toInt ∧ (σ1_26.2 0).toInt ≤ 2147483647 := Iσ1_26.2.1 0
        have : (0 : Int) ≤ (σ1_26.2 3).toInt ∧ (σ1_26.2 3).toInt ≤ 4 := Iσ1_26.2.1 3
        refine hs_ite (fun h_27 => ?_) (fun h_27 => ?_)
        · have : (v2_25 : Int32).toInt = (0) := congrArg Int32.toInt h_27
          have hfu : ((hy_fu : Nat) : Int) = 5000 := rfl
          refine s_fX10_storm_62 (fun j h => ra j (hs_inc (by decide) h)) (fun j h => ri j (hs_inc (by decide) h))  (fun τ_28 v_29 Iτ_28  => ?_)  hy_fu σ1_26 (x1 : Int32) (x2 : Int32) (0 : Int32) (0 : Int32) Iσ1_26 (show 0 ≤ (x1 : Int32).toInt by omega) (show (x1 : Int32).toInt ≤ 3 by omega) (show 0 ≤ (0) by omega) (show (0) ≤ 6 by omega)  (show 6 - (0) < ((hy_fu : Nat) : Int) by rw [hfu]; omega)
          have : (-2147483648 : Int) ≤ (τ_28.2 0).toInt ∧ (τ_28.2 0).toInt ≤ 2147483647 := Iτ_28.2.1 0
          have : (0 : Int) ≤ (τ_28.2 3).toInt ∧ (τ_28.2 3).toInt ≤ 4 := Iτ_28.2.1 3
          exact (hQ τ_28 (v_29 : Int32) Iτ_28 )
        · have : ¬ (v2_25 : Int32).toInt = (0) := fun z => h_27 (Int32.toInt_inj.mp z)
          exact hs_some (hQ σ1_26 (0 : Int32) Iσ1_26 )
      · have : ¬ (v6_23 : Int32).toInt = (0) := fun z => h_24 (Int32.toInt_inj.mp z)
        unfold fX10_storm_48
        refine hs_bd (s_fX10_throwsIf (fun j h => ra j (hs_inc (by decide) h)) (fun j h => ri j (hs_inc (by decide) h)) σ1_21 (0 : Int32) (2 : Int32) Iσ1_21 (show 0 ≤ (0) by omega) (show (0) ≤ 1 by omega) (fun σ1_31 v2_30 Iσ1_31 (gv2_30_0 : v2_30.toInt = (0)) (gv2_30_1 : (σ1_31.2 1).toInt = (σ1_21.2 1).toInt) (gv2_30_2 : (σ1_31.2 2).toInt = (σ1_21.2 2).toInt) (gv2_30_3 : (σ1_31.2 3).toInt = (σ1_21.2 3).toInt) (gv2_30_4 : (σ1_31.2 4).toInt = (σ1_21.2 4).toInt) (gv2_30_5 : (σ1_31.2 5).toInt = (σ1_21.2 5).toInt) (gv2_30_6 : (σ1_31.2 6).toInt = (σ1_21.2 6).toInt) (gv2_30_7 : (σ1_31.2 7).toInt = (σ1_21.2 7).toInt) (gv2_30_8 : (σ1_31.2 8).toInt = (σ1_21.2 8).toInt) (gv2_30_9 : (σ1_31.2 9).toInt = (σ1_21.2 9).toInt) (gv2_30_10 : (σ1_31.2 10).toInt = (σ1_21.2 10).toInt) (gv2_30_11 : (σ1_31.2 11).toInt = (σ1_21.2 11).toInt) (gv2_30_12 : ((0) = 0 ∧ (σ1_31.2 0).toInt = (σ1_21.2 0).toInt) ∨ ((0) = 1 ∧ (σ1_31.2 0).toInt = (2))) => ?_))
        have : (-2147483648 : Int) ≤ (σ1_31.2 0).toInt ∧ (σ1_31.2 0).toInt ≤ 2147483647 := Iσ1_31.2.1 0
        have : (0 : Int) ≤ (σ1_31.2 3).toInt ∧ (σ1_31.2 3).toInt ≤ 4 := Iσ1_31.2.1 3
        refine hs_ite (fun h_32 => ?_) (fun h_32 => ?_)
        · have : (v2_30 : Int32).toInt = (0) := congrArg Int32.toInt h_32
          have hfu : ((hy_fu : Nat) : Int) = 5000 := rfl
          refine s_fX10_storm_62 (fun j h => ra j (hs_inc (by decide) h)) (fun j h => ri j (hs_inc (by decide) h))  (fun τ_33 v_34 Iτ_33  => ?_)  hy_fu σ1_31 (x1 : Int32) (x2 : Int32) (0 : Int32) (0 : Int32) Iσ1_31 (show 0 ≤ (x1 : Int32).toInt by omega) (show (x1 : Int32).toInt ≤ 3 by omega) (show 0 ≤ (0) by omega) (show (0) ≤ 6 by omega)  (show 6 - (0) < ((hy_fu : Nat) : Int) by rw [hfu]; omega)
          have : (-2147483648 : Int) ≤ (τ_33.2 0).toInt ∧ (τ_33.2 0).toInt ≤ 2147483647 := Iτ_33.2.1 0
          have : (0 : Int) ≤ (τ_33.2 3).toInt ∧ (τ_33.2 3).toInt ≤ 4 := Iτ_33.2.1 3
          exact (hQ τ_33 (v_34 : Int32) Iτ_33 )
        · have : ¬ (v2_30 : Int32).toInt = (0) := fun z => h_32 (Int32.toInt_inj.mp z)
          exact hs_some (hQ σ1_31 (0 : Int32) Iσ1_31 )
    · have : ¬ (v2_20 : Int32).toInt = (0) := fun z => h_22 (Int32.toInt_inj.mp z)
      exact hs_some (hQ σ1_21 (0 : Int32) Iσ1_21 )
