noncomputable def hm_a : Nat → Int × Int := fun j => match j with
  | 3 => (0, 7)
  | 8 => (-1, 23)
  | 9 => (0, 59)
  | 10 => (0, 10)
  | 13 => (0, 59)
  | 22 => (0, 59)
  | 23 => (0, 12)
  | 24 => (0, 12)
  | _ => (-2147483648, 2147483647)
noncomputable def hm_i : Nat → Int × Int := fun j => match j with
  | 1 => (0, 8)
  | 2 => (0, 60)
  | 3 => (0, 4)
  | 4 => (0, 400)
  | 5 => (0, 400)
  | 6 => (0, 400)
  | 7 => (0, 400)
  | 9 => (0, 60)
  | 10 => (0, 60)
  | _ => (-2147483648, 2147483647)
section HTH
variable {α : Type} {a i : Nat → Int × Int} {R : hy_S → Prop} {σ : hy_S} {c : Int32} {Q : α → Prop} {k : hy_S → Int32 → Option α}
theorem hs_th0 (h : hs_ok (k σ 0) Q) : hs_ok (hy_bd (fX10_throwsIf σ 0 c) k) Q := by
  have e : fX10_throwsIf σ 0 c = some (σ, 0) := by
    unfold fX10_throwsIf fX10_throwsIf_9 hy_ck
    rw [if_pos rfl, if_pos (Or.inl rfl)]
  rw [e]
  exact h
theorem hs_th1 (I : hs_I a i R σ) (hv : (i 0).1 ≤ c.toInt ∧ c.toInt ≤ (i 0).2) (hR : R σ → R (hy_si σ 0 c)) (h : ∀ τ : hy_S, τ = hy_si σ 0 c → hs_I a i R τ → hs_ok (k τ 1) Q) : hs_ok (hy_bd (fX10_throwsIf σ 1 c) k) Q := by
  have e : fX10_throwsIf σ 1 c = some (hy_si σ 0 c, 1) := by
    unfold fX10_throwsIf fX10_throwsIf_9 hy_ck
    rw [if_neg (by decide)]
    show (if (1 : Int32) = 0 ∨ (1 : Int32) = 1 then some (hy_si σ 0 c, (1 : Int32)) else none) = _
    rw [if_pos (Or.inr rfl)]
  rw [e]
  exact hs_pf (k := fun τ => k τ 1) I hv hR h
variable {x y z : Int32}
theorem hs_bIn (h1 : y.toInt ≤ x.toInt → x.toInt ≤ z.toInt → hs_ok (k σ 1) Q) (h0 : (x.toInt < y.toInt ∨ z.toInt < x.toInt) → hs_ok (k σ 0) Q) : hs_ok (hy_bd (fX10_in σ x y z) k) Q := by
  unfold fX10_in
  by_cases c1 : x < y
  · rw [if_pos c1]
    exact h0 (Or.inl (Int32.lt_iff_toInt_lt.mp c1))
  · rw [if_neg c1]
    have a1 : ¬ x.toInt < y.toInt := fun q => c1 (Int32.lt_iff_toInt_lt.mpr q)
    by_cases c2 : z < x
    · rw [if_pos c2]
      exact h0 (Or.inr (Int32.lt_iff_toInt_lt.mp c2))
    · rw [if_neg c2]
      have a2 : ¬ z.toInt < x.toInt := fun q => c2 (Int32.lt_iff_toInt_lt.mpr q)
      exact h1 (by omega) (by omega)
theorem hs_no0 {f : Option (hy_S × Int32)} {n : Int} (hz : z.toInt = n - 1) (hf : f = hy_bd (fX10_in σ x 0 z) (fun σ1 v2 => if v2 = 0 then some (σ1, 1) else some (σ1, 0))) (h0 : 0 ≤ x.toInt → x.toInt < n → hs_ok (k σ 0) Q) (h1 : (x.toInt < 0 ∨ n ≤ x.toInt) → hs_ok (k σ 1) Q) : hs_ok (hy_bd f k) Q := by
  rw [hf]
  unfold fX10_in
  by_cases c1 : x < 0
  · rw [if_pos c1]
    exact h1 (Or.inl (Int32.lt_iff_toInt_lt.mp c1))
  · rw [if_neg c1]
    have a1 : ¬ x.toInt < 0 := fun q => c1 (Int32.lt_iff_toInt_lt.mpr q)
    by_cases c2 : z < x
    · rw [if_pos c2]
      have a2 := Int32.lt_iff_toInt_lt.mp c2
      exact h1 (Or.inr (by omega))
    · rw [if_neg c2]
      have a2 : ¬ z.toInt < x.toInt := fun q => c2 (Int32.lt_iff_toInt_lt.mpr q)
      exact h0 (by omega) (by omega)
theorem hs_noJ (hb : 0 ≤ (σ.2 2).toInt) (h0 : 0 ≤ x.toInt → x.toInt < (σ.2 2).toInt → hs_ok (k σ 0) Q) (h1 : (x.toInt < 0 ∨ (σ.2 2).toInt ≤ x.toInt) → hs_ok (k σ 1) Q) : hs_ok (hy_bd (fX10_noJar σ x) k) Q :=
  hs_no0 (hs_subk 1 rfl (by omega) (by have := hs_any (σ.2 2); omega)) rfl h0 h1
theorem hs_noS (hb : 0 ≤ (σ.2 9).toInt) (h0 : 0 ≤ x.toInt → x.toInt < (σ.2 9).toInt → hs_ok (k σ 0) Q) (h1 : (x.toInt < 0 ∨ (σ.2 9).toInt ≤ x.toInt) → hs_ok (k σ 1) Q) : hs_ok (hy_bd (fX10_noSherd σ x) k) Q :=
  hs_no0 (hs_subk 1 rfl (by omega) (by have := hs_any (σ.2 9); omega)) rfl h0 h1
theorem hs_noT (h0 : 0 ≤ x.toInt → x.toInt < 12 → hs_ok (k σ 0) Q) (h1 : (x.toInt < 0 ∨ 12 ≤ x.toInt) → hs_ok (k σ 1) Q) : hs_ok (hy_bd (fX10_noStamp σ x) k) Q :=
  hs_no0 (z := 11) (n := 12) rfl rfl h0 h1
end HTH
/-- every jar that is in a hold stands somewhere in that hold's stack -/
noncomputable def hm_R (σ : hy_S) : Prop := ∀ j : Nat, (j : Int) < (σ.2 2).toInt → 0 ≤ (σ.1 8 j).toInt → ∃ k : Nat, (k : Int) < (σ.1 10 (σ.1 8 j).toNatClampNeg).toInt ∧ (σ.1 9 (10 * (σ.1 8 j).toNatClampNeg + k)).toInt = (j : Int)
noncomputable abbrev hm_I (R : hy_S → Prop) (σ : hy_S) : Prop := hs_I hm_a hm_i (fun τ => hm_R τ ∧ R τ) σ
theorem hm_sc {σ : hy_S} {j q : Nat} {f : Nat → Int32} (h : q ≠ j) : (hy_sc σ j f).1 q = σ.1 q := by
  show (if q = j then f else σ.1 q) = σ.1 q
  rw [if_neg h]
theorem hm_scs {σ : hy_S} {j : Nat} {f : Nat → Int32} : (hy_sc σ j f).1 j = f := by
  show (if j = j then f else σ.1 j) = f
  rw [if_pos rfl]
theorem hm_Ra {σ : hy_S} {j : Nat} {f : Nat → Int32} (hj : 8 ≠ j ∧ 9 ≠ j ∧ 10 ≠ j) : hm_R σ → hm_R (hy_sc σ j f) := by
  intro h
  unfold hm_R
  rw [hm_sc hj.1, hm_sc hj.2.1, hm_sc hj.2.2]
  exact h
theorem hm_Ri {σ : hy_S} {j : Nat} {v : Int32} (hj : 2 ≠ j) : hm_R σ → hm_R (hy_si σ j v) := by
  intro h
  have e : (hy_si σ j v).2 2 = σ.2 2 := by
    show (if 2 = j then v else σ.2 2) = σ.2 2
    rw [if_neg hj]
  unfold hm_R
  rw [e]
  exact h
theorem hm_R8 {σ : hy_S} {v : Int32} : hm_R σ → hm_R (hy_sc σ 8 (upd (σ.1 8) (σ.2 2).toNatClampNeg v)) := by
  intro h
  unfold hm_R
  rw [hm_sc (q := 9) (by decide), hm_sc (q := 10) (by decide), hm_scs]
  intro j hj hp
  have hj' : (j : Int) < (σ.2 2).toInt := hj
  have hne : j ≠ (σ.2 2).toNatClampNeg := by
    intro e
    rw [Int32.toNatClampNeg] at e
    omega
  have e : upd (σ.1 8) (σ.2 2).toNatClampNeg v j = σ.1 8 j := by
    unfold upd
    rw [if_neg hne]
  rw [e] at hp ⊢
  exact h j hj' hp
theorem hm_R2 {σ : hy_S} {v : Int32} (h0 : (σ.1 8 (σ.2 2).toNatClampNeg).toInt < 0) (h1 : v.toInt = (σ.2 2).toInt + 1) (h2 : 0 ≤ (σ.2 2).toInt) : hm_R σ → hm_R (hy_si σ 2 v) := by
  intro h j hj hp
  have hj' : (j : Int) < v.toInt := hj
  by_cases e : (j : Int) < (σ.2 2).toInt
  · exact h j e hp
  · have ej : j = (σ.2 2).toNatClampNeg := by
      rw [Int32.toNatClampNeg]
      omega
    subst ej
    exact absurd hp (by
      show ¬ 0 ≤ (σ.1 8 (σ.2 2).toNatClampNeg).toInt
      omega)
theorem hs_sameN (σ : hy_S) (k : Nat) : ((hy_sc σ 8 (upd (σ.1 8) k (-1))).1 8 k).toInt < 0 := by
  rw [hs_same]
  decide
theorem hs_of {x : Int32} {n : Nat} (h0 : 0 ≤ x.toInt) (h1 : x.toInt < (n : Int)) (hn : n ≤ 4096) : ∃ k : Nat, k < n ∧ x = Int32.ofNat k := by
  refine ⟨x.toInt.toNat, by omega, ?_⟩
  apply Int32.toInt_inj.mp
  rw [Int32.toInt_ofNat_of_lt (by omega)]
  omega
theorem hs_shlk : ∀ k : Nat, k < 13 → (1 : Int) ≤ ((1 : Int32) <<< ((Int32.ofNat k) &&& 31)).toInt ∧ ((1 : Int32) <<< ((Int32.ofNat k) &&& 31)).toInt ≤ 4096 := by decide +kernel
theorem hs_shl {x : Int32} (h0 : 0 ≤ x.toInt) (h1 : x.toInt ≤ 12) : (1 : Int) ≤ ((1 : Int32) <<< (x &&& 31)).toInt ∧ ((1 : Int32) <<< (x &&& 31)).toInt ≤ 4096 := by
  obtain ⟨k, hk, rfl⟩ := hs_of (n := 13) h0 (by omega) (by omega)
  exact hs_shlk k hk
theorem hs_and {x y : Int32} (h0 : 0 ≤ x.toInt) : 0 ≤ (x &&& y).toInt ∧ (x &&& y).toInt ≤ x.toInt := by
  have hx := hs_any x
  have e0 : x.toInt = (x.toBitVec.toNat : Int) := by
    have := BitVec.toInt_eq_toNat_cond x.toBitVec
    have e : x.toInt = x.toBitVec.toInt := rfl
    rw [e] at h0 ⊢
    rw [this] at h0 ⊢
    split at h0
    · rw [if_pos (by assumption)]
    · have := x.toBitVec.isLt
      omega
  have hle : (x &&& y).toBitVec.toNat ≤ x.toBitVec.toNat := by
    rw [Int32.toBitVec_and, BitVec.toNat_and]
    exact Nat.and_le_left
  have e1 : (x &&& y).toInt = ((x &&& y).toBitVec.toNat : Int) := by
    have := BitVec.toInt_eq_toNat_cond (x &&& y).toBitVec
    have e : (x &&& y).toInt = (x &&& y).toBitVec.toInt := rfl
    rw [e, this, if_pos (by omega)]
  omega
theorem hs_tn {x : Int32} (h : 0 ≤ x.toInt) : (x.toNatClampNeg : Int) = x.toInt := by rw [Int32.toNatClampNeg, Int.toNat_of_nonneg h]
theorem hs_upd {f : Nat → Int32} {k q : Nat} {v : Int32} (h : q ≠ k) : upd f k v q = f q := by
  unfold upd
  rw [if_neg h]
theorem hs_upds {f : Nat → Int32} {k : Nat} {v : Int32} : upd f k v k = v := by
  unfold upd
  rw [if_pos rfl]
/-- box alone out of the whole -/
theorem hm_box {R : hy_S → Prop} {σ : hy_S} (I : hm_I R σ) : hs_I hm_a hm_i R σ := ⟨I.1, I.2.1, I.2.2.2⟩
theorem hm_b10 {R : hy_S → Prop} {σ : hy_S} (I : hs_I hm_a hm_i R σ) (k : Nat) : (0 : Int) ≤ (σ.1 10 k).toInt ∧ (σ.1 10 k).toInt ≤ 10 := I.1 10 k
theorem hm_b8 {R : hy_S → Prop} {σ : hy_S} (I : hs_I hm_a hm_i R σ) (k : Nat) : (-1 : Int) ≤ (σ.1 8 k).toInt ∧ (σ.1 8 k).toInt ≤ 23 := I.1 8 k
theorem hm_b9 {R : hy_S → Prop} {σ : hy_S} (I : hs_I hm_a hm_i R σ) (k : Nat) : (0 : Int) ≤ (σ.1 9 k).toInt ∧ (σ.1 9 k).toInt ≤ 59 := I.1 9 k
theorem s_land_tail {R : hy_S → Prop} (ra : ∀ j, j ∈ ([10, 7, 8] : List Nat) → ∀ (τ : hy_S) (g : Nat → Int32), R τ → R (hy_sc τ j g)) (σ : hy_S) (h : Int32) {Q : hy_S × Int32 → Prop} (I : hm_I R σ) (p0 : 0 ≤ h.toInt) (p1 : h.toInt < 24) (p2 : 1 ≤ (σ.1 10 h.toNatClampNeg).toInt) (hQ : ∀ (σ9 : hy_S) (v9 : Int32), hm_I R σ9 → Q (σ9, v9)) : hs_ok (hy_ga σ 10 24 h (fun v14 => hy_pa σ 10 24 h (v14 - 1) (fun σ17 => hy_ga σ17 10 24 h (fun v20 => hy_ga σ17 9 240 ((10 * h) + v20) (fun v23 => hy_pa σ17 7 60 v23 2 (fun σ26 => hy_pa σ26 8 60 v23 (-1) (fun σ29 => some (σ29, v23)))))))) Q := by
  have B := hm_box I
  refine hs_ga (j := 10) B (by omega) (by omega) (fun v14 e14 (b14 : (0 : Int) ≤ v14.toInt ∧ v14.toInt ≤ 10) => ?_)
  rw [← e14] at p2
  have f1 : (v14 - 1).toInt = v14.toInt - 1 := hs_subk 1 rfl (by omega) (by omega)
  refine hs_pa B (by omega) (by omega) ⟨(by rw [f1]; omega : (0 : Int) ≤ (v14 - 1).toInt), (by rw [f1]; omega : (v14 - 1).toInt ≤ 10)⟩ (ra 10 (by decide) _ _) (fun σ17 e17 B17 => ?_)
  refine hs_ga (j := 10) B17 (by omega) (by omega) (fun v20 e20 (b20 : (0 : Int) ≤ v20.toInt ∧ v20.toInt ≤ 10) => ?_)
  have e20' : v20.toInt = v14.toInt - 1 := by rw [e20, e17, hs_same, f1]
  have f2 : (10 * h).toInt = 10 * h.toInt := hs_mull 10 rfl (by omega) (by omega)
  have f3 : (10 * h + v20).toInt = 10 * h.toInt + (v14.toInt - 1) := by rw [hs_add (by rw [f2]; omega) (by rw [f2]; omega), f2, e20']
  refine hs_ga (j := 9) B17 (by rw [f3]; omega) (by rw [f3]; omega) (fun v23 e23 (b23 : (0 : Int) ≤ v23.toInt ∧ v23.toInt ≤ 59) => ?_)
  refine hs_pa B17 (by omega) (by omega) (hs_any _) (ra 7 (by decide) _ _) (fun σ26 e26 B26 => ?_)
  refine hs_pa B26 (by omega) (by omega) ⟨by decide, by decide⟩ (ra 8 (by decide) _ _) (fun σ29 e29 B29 => ?_)
  refine hs_some (hQ σ29 v23 ⟨B29.1, B29.2.1, ?_, B29.2.2⟩)
  have hn := hs_tn p0
  have hn3 : ((10 * h + v20).toNatClampNeg : Int) = 10 * h.toInt + (v14.toInt - 1) := by rw [hs_tn (by rw [f3]; omega), f3]
  have hv := hs_tn b23.1
  have g9 : σ29.1 9 = σ.1 9 := by rw [e29, e26, e17]; rfl
  have g10 : σ29.1 10 = upd (σ.1 10) h.toNatClampNeg (v14 - 1) := by rw [e29, e26, e17]; rfl
  have g8 : σ29.1 8 = upd (σ.1 8) v23.toNatClampNeg (-1) := by rw [e29, e26, e17]; rfl
  have g2 : σ29.2 2 = σ.2 2 := by rw [e29, e26, e17]; rfl
  have h9 : v23 = σ.1 9 (10 * h + v20).toNatClampNeg := by rw [e23, e17]; rfl
  unfold hm_R
  rw [g9, g10, g8, g2]
  intro j hj hp
  by_cases ej : j = v23.toNatClampNeg
  · subst ej
    rw [hs_upds] at hp
    exact absurd hp (by decide)
  · rw [hs_upd ej] at hp ⊢
    obtain ⟨k, hk1, hk2⟩ := I.2.2.1 j hj hp
    refine ⟨k, ?_, hk2⟩
    by_cases eh : (σ.1 8 j).toNatClampNeg = h.toNatClampNeg
    · rw [eh] at hk1 hk2 ⊢
      rw [hs_upds, f1]
      rw [← e14] at hk1
      by_cases ek : (k : Int) = v14.toInt - 1
      · exfalso
        have en : 10 * h.toNatClampNeg + k = (10 * h + v20).toNatClampNeg := by omega
        rw [en, ← h9] at hk2
        omega
      · omega
    · rw [hs_upd eh]
      exact hk1
theorem s_load_tail {R : hy_S → Prop} (ra : ∀ j, j ∈ ([9, 10, 7, 8] : List Nat) → ∀ (τ : hy_S) (g : Nat → Int32), R τ → R (hy_sc τ j g)) (σ : hy_S) (x1 x4 : Int32) {Q : hy_S × Int32 → Prop} (I : hm_I R σ) (p0 : 0 ≤ x1.toInt) (p1 : x1.toInt < 60) (p2 : 0 ≤ x4.toInt) (p3 : x4.toInt < 24) (p4 : (σ.1 10 x4.toNatClampNeg).toInt < 10) (hQ : ∀ (σ9 : hy_S) (v9 : Int32), hm_I R σ9 → Q (σ9, v9)) : hs_ok (hy_ga σ 10 24 x4 (fun v5 => hy_pa σ 9 240 ((10 * x4) + v5) x1 (fun σ8 => hy_ga σ8 10 24 x4 (fun v11 => hy_pa σ8 10 24 x4 (v11 + 1) (fun σ14 => hy_pa σ14 7 60 x1 1 (fun σ17 => hy_pa σ17 8 60 x1 x4 (fun σ20 => some (σ20, 1)))))))) Q := by
  have B := hm_box I
  refine hs_ga (j := 10) B (by omega) (by omega) (fun v5 e5 (b5 : (0 : Int) ≤ v5.toInt ∧ v5.toInt ≤ 10) => ?_)
  rw [← e5] at p4
  have f2 : (10 * x4).toInt = 10 * x4.toInt := hs_mull 10 rfl (by omega) (by omega)
  have f3 : (10 * x4 + v5).toInt = 10 * x4.toInt + v5.toInt := by rw [hs_add (by rw [f2]; omega) (by rw [f2]; omega), f2]
  refine hs_pa B (by rw [f3]; omega) (by rw [f3]; omega) ⟨(by omega : (0 : Int) ≤ x1.toInt), (by omega : x1.toInt ≤ 59)⟩ (ra 9 (by decide) _ _) (fun σ8 e8 B8 => ?_)
  refine hs_ga (j := 10) B8 (by omega) (by omega) (fun v11 e11 (b11 : (0 : Int) ≤ v11.toInt ∧ v11.toInt ≤ 10) => ?_)
  have e11' : v11 = v5 := by rw [e11, e8, e5]; rfl
  have f1 : (v11 + 1).toInt = v5.toInt + 1 := by rw [e11', hs_addk 1 rfl (by omega) (by omega)]
  refine hs_pa B8 (by omega) (by omega) ⟨(by rw [f1]; omega : (0 : Int) ≤ (v11 + 1).toInt), (by rw [f1]; omega : (v11 + 1).toInt ≤ 10)⟩ (ra 10 (by decide) _ _) (fun σ14 e14 B14 => ?_)
  refine hs_pa B14 (by omega) (by omega) (hs_any _) (ra 7 (by decide) _ _) (fun σ17 e17 B17 => ?_)
  refine hs_pa B17 (by omega) (by omega) ⟨(by omega : (-1 : Int) ≤ x4.toInt), (by omega : x4.toInt ≤ 23)⟩ (ra 8 (by decide) _ _) (fun σ20 e20 B20 => ?_)
  refine hs_some (hQ σ20 1 ⟨B20.1, B20.2.1, ?_, B20.2.2⟩)
  have hn := hs_tn p2
  have hn1 := hs_tn p0
  have hn3 : ((10 * x4 + v5).toNatClampNeg : Int) = 10 * x4.toInt + v5.toInt := by rw [hs_tn (by rw [f3]; omega), f3]
  have g9 : σ20.1 9 = upd (σ.1 9) (10 * x4 + v5).toNatClampNeg x1 := by rw [e20, e17, e14, e8]; rfl
  have g10 : σ20.1 10 = upd (σ.1 10) x4.toNatClampNeg (v11 + 1) := by rw [e20, e17, e14, e8]; rfl
  have g8 : σ20.1 8 = upd (σ.1 8) x1.toNatClampNeg x4 := by rw [e20, e17, e14, e8]; rfl
  have g2 : σ20.2 2 = σ.2 2 := by rw [e20, e17, e14, e8]; rfl
  unfold hm_R
  rw [g9, g10, g8, g2]
  intro j hj hp
  by_cases ej : j = x1.toNatClampNeg
  · subst ej
    rw [hs_upds]
    refine ⟨v5.toNatClampNeg, ?_, ?_⟩
    · rw [hs_upds, f1, hs_tn b5.1]
      omega
    · have en : 10 * x4.toNatClampNeg + v5.toNatClampNeg = (10 * x4 + v5).toNatClampNeg := by
        have := hs_tn b5.1
        omega
      rw [en, hs_upds]
      exact hn1.symm
  · rw [hs_upd ej] at hp ⊢
    obtain ⟨k, hk1, hk2⟩ := I.2.2.1 j hj hp
    have b10 := hm_b10 I (σ.1 8 j).toNatClampNeg
    refine ⟨k, ?_, ?_⟩
    · by_cases eh : (σ.1 8 j).toNatClampNeg = x4.toNatClampNeg
      · rw [eh] at hk1 ⊢
        rw [hs_upds, f1]
        rw [← e5] at hk1
        omega
      · rw [hs_upd eh]
        exact hk1
    · rw [hs_upd ?_]
      · exact hk2
      · intro en
        by_cases eh : (σ.1 8 j).toNatClampNeg = x4.toNatClampNeg
        · rw [eh, ← e5] at hk1
          rw [eh] at en
          omega
        · omega
/-- the loop that closes a stack's gaps: what stands where -/
noncomputable def hm_L (σ : hy_S) (h : Nat) (l n k : Int) : Prop := ∀ j : Nat, (j : Int) < (σ.2 2).toInt → 0 ≤ (σ.1 8 j).toInt → (¬ (σ.1 8 j).toNatClampNeg = h ∧ ∃ q : Nat, (q : Int) < (σ.1 10 (σ.1 8 j).toNatClampNeg).toInt ∧ (σ.1 9 (10 * (σ.1 8 j).toNatClampNeg + q)).toInt = (j : Int)) ∨ ((σ.1 8 j).toNatClampNeg = h ∧ ∃ q : Nat, ((q : Int) < l ∨ (k ≤ (q : Int) ∧ (q : Int) < n)) ∧ (σ.1 9 (10 * h + q)).toInt = (j : Int))
theorem s_fX10_meets_87 {R : hy_S → Prop} (ra : ∀ j, j ∈ ([9, 10, 7, 8] : List Nat) → ∀ (τ : hy_S) (g : Nat → Int32), R τ → R (hy_sc τ j g)) {Q : hy_S × Int32 → Prop} (hQ : ∀ (σ9 : hy_S) (v9 : Int32), hm_I R σ9 → Q (σ9, v9)) : ∀ (n : Nat) (σ : hy_S) (x1 x3 x4 x5 : Int32), hs_I hm_a hm_i R σ → 0 ≤ x1.toInt → x1.toInt < 24 → 0 ≤ x3.toInt → x3.toInt ≤ x5.toInt → x5.toInt ≤ x4.toInt → x4.toInt ≤ 10 → hm_L σ x1.toNatClampNeg x3.toInt x4.toInt x5.toInt → x4.toInt - x5.toInt < (n : Int) → hs_ok (fX10_meets_87 n σ x1 x3 x4 x5) Q := by
  intro n
  induction n with
  | zero =>
    intro σ x1 x3 x4 x5 B p0 p1 p2 p3 p4 p5 hL hm
    exact absurd hm (by omega)
  | succ n ih =>
    intro σ x1 x3 x4 x5 B p0 p1 p2 p3 p4 p5 hL hm
    have hn := hs_tn p0
    unfold fX10_meets_87
    refine hs_ite (fun h => ?_) (fun h => ?_)
    · have h1 : x4.toInt ≤ x5.toInt := Int32.le_iff_toInt_le.mp h
      refine hs_pa B (by omega) (by omega) ⟨(by omega : (0 : Int) ≤ x3.toInt), (by omega : x3.toInt ≤ 10)⟩ (ra 10 (by decide) _ _) (fun σ2 e2 B2 => ?_)
      refine hs_some (hQ σ2 _ ⟨B2.1, B2.2.1, ?_, B2.2.2⟩)
      have g9 : σ2.1 9 = σ.1 9 := by rw [e2]; rfl
      have g8 : σ2.1 8 = σ.1 8 := by rw [e2]; rfl
      have g10 : σ2.1 10 = upd (σ.1 10) x1.toNatClampNeg x3 := by rw [e2]; rfl
      have g2 : σ2.2 2 = σ.2 2 := by rw [e2]; rfl
      unfold hm_R
      rw [g9, g10, g8, g2]
      intro j hj hp
      rcases hL j hj hp with ⟨h0, q, hq1, hq2⟩ | ⟨h0, q, hq1, hq2⟩
      · exact ⟨q, by rw [hs_upd h0]; exact hq1, hq2⟩
      · refine ⟨q, ?_, by rw [h0]; exact hq2⟩
        rw [h0, hs_upds]
        omega
    · have h1 : ¬ x4.toInt ≤ x5.toInt := fun z => h (Int32.le_iff_toInt_le.mpr z)
      have f2 : (10 * x1).toInt = 10 * x1.toInt := hs_mull 10 rfl (by omega) (by omega)
      have f5 : (10 * x1 + x5).toInt = 10 * x1.toInt + x5.toInt := by rw [hs_add (by rw [f2]; omega) (by rw [f2]; omega), f2]
      have f3 : (10 * x1 + x3).toInt = 10 * x1.toInt + x3.toInt := by rw [hs_add (by rw [f2]; omega) (by rw [f2]; omega), f2]
      have n5 : ((10 * x1 + x5).toNatClampNeg : Int) = 10 * x1.toInt + x5.toInt := by rw [hs_tn (by rw [f5]; omega), f5]
      have n3 : ((10 * x1 + x3).toNatClampNeg : Int) = 10 * x1.toInt + x3.toInt := by rw [hs_tn (by rw [f3]; omega), f3]
      have g1 : (x5 + 1).toInt = x5.toInt + 1 := hs_addk 1 rfl (by omega) (by omega)
      have g3 : (x3 + 1).toInt = x3.toInt + 1 := hs_addk 1 rfl (by omega) (by omega)
      refine hs_ga (j := 9) B (by rw [f5]; omega) (by rw [f5]; omega) (fun v5 e5 (b5 : (0 : Int) ≤ v5.toInt ∧ v5.toInt ≤ 59) => ?_)
      have nv := hs_tn b5.1
      refine hs_ga (j := 11) B (by omega) (by omega) (fun v8 e8 b8 => ?_)
      refine hs_ite (fun hc => ?_) (fun hc => ?_)
      · refine hs_pa B (by rw [f3]; omega) (by rw [f3]; omega) ⟨(by omega : (0 : Int) ≤ v5.toInt), (by omega : v5.toInt ≤ 59)⟩ (ra 9 (by decide) _ _) (fun σ12 e12 B12 => ?_)
        unfold fX10_meets_153
        refine ih σ12 x1 (x3 + 1) x4 (x5 + 1) B12 p0 p1 (by rw [g3]; omega) (by rw [g3, g1]; omega) (by rw [g1]; omega) p5 ?_ (by rw [g1]; omega)
        have k9 : σ12.1 9 = upd (σ.1 9) (10 * x1 + x3).toNatClampNeg v5 := by rw [e12]; rfl
        have k8 : σ12.1 8 = σ.1 8 := by rw [e12]; rfl
        have k10 : σ12.1 10 = σ.1 10 := by rw [e12]; rfl
        have k2 : σ12.2 2 = σ.2 2 := by rw [e12]; rfl
        unfold hm_L
        rw [k9, k10, k8, k2, g3, g1]
        intro j hj hp
        rcases hL j hj hp with ⟨h0, q, hq1, hq2⟩ | ⟨h0, q, hq1, hq2⟩
        · refine Or.inl ⟨h0, q, hq1, ?_⟩
          have b10 := hm_b10 B (σ.1 8 j).toNatClampNeg
          rw [hs_upd ?_]
          · exact hq2
          · intro en
            omega
        · refine Or.inr ⟨h0, ?_⟩
          by_cases eq : (q : Int) = x5.toInt
          · refine ⟨x3.toNatClampNeg, Or.inl (by rw [hs_tn p2]; omega), ?_⟩
            have en : 10 * x1.toNatClampNeg + x3.toNatClampNeg = (10 * x1 + x3).toNatClampNeg := by
              have := hs_tn p2
              omega
            rw [en, hs_upds]
            have en2 : 10 * x1.toNatClampNeg + q = (10 * x1 + x5).toNatClampNeg := by omega
            rw [en2, ← e5] at hq2
            exact hq2
          · refine ⟨q, by omega, ?_⟩
            rw [hs_upd ?_]
            · exact hq2
            · intro en
              omega
      · refine hs_pa B (by omega) (by omega) (hs_any _) (ra 7 (by decide) _ _) (fun σ15 e15 B15 => ?_)
        refine hs_pa B15 (by omega) (by omega) ⟨by decide, by decide⟩ (ra 8 (by decide) _ _) (fun σ18 e18 B18 => ?_)
        unfold fX10_meets_153
        refine ih σ18 x1 x3 x4 (x5 + 1) B18 p0 p1 p2 (by rw [g1]; omega) (by rw [g1]; omega) p5 ?_ (by rw [g1]; omega)
        have k9 : σ18.1 9 = σ.1 9 := by rw [e18, e15]; rfl
        have k8 : σ18.1 8 = upd (σ.1 8) v5.toNatClampNeg (-1) := by rw [e18, e15]; rfl
        have k10 : σ18.1 10 = σ.1 10 := by rw [e18, e15]; rfl
        have k2 : σ18.2 2 = σ.2 2 := by rw [e18, e15]; rfl
        unfold hm_L
        rw [k9, k10, k8, k2, g1]
        intro j hj hp
        by_cases ej : j = v5.toNatClampNeg
        · subst ej
          rw [hs_upds] at hp
          exact absurd hp (by decide)
        · rw [hs_upd ej] at hp ⊢
          rcases hL j hj hp with ⟨h0, q, hq1, hq2⟩ | ⟨h0, q, hq1, hq2⟩
          · exact Or.inl ⟨h0, q, hq1, hq2⟩
          · refine Or.inr ⟨h0, q, ?_, hq2⟩
            by_cases eq : (q : Int) = x5.toInt
            · exfalso
              have en2 : 10 * x1.toNatClampNeg + q = (10 * x1 + x5).toNatClampNeg := by omega
              rw [en2, ← e5] at hq2
              omega
            · omega
theorem s_meets_in {R : hy_S → Prop} {σ : hy_S} {x1 v5 : Int32} (I : hm_I R σ) (e : v5 = σ.1 10 x1.toNatClampNeg) : hm_L σ x1.toNatClampNeg (0 : Int32).toInt v5.toInt (0 : Int32).toInt := by
  intro j hj hp
  obtain ⟨k, hk1, hk2⟩ := I.2.2.1 j hj hp
  by_cases eh : (σ.1 8 j).toNatClampNeg = x1.toNatClampNeg
  · refine Or.inr ⟨eh, k, Or.inr ⟨?_, ?_⟩, ?_⟩
    · have : (0 : Int32).toInt = 0 := rfl
      rw [this]
      omega
    · rw [e, ← eh]
      exact hk1
    · rw [← eh]
      exact hk2
  · exact Or.inl ⟨eh, k, hk1, hk2⟩
theorem s_fJ6_bitCount_0f7a4 {R : hy_S → Prop} (σ : hy_S) (x0 : Int32) {P : hy_S → Int32 → Prop} (I : hm_I R σ) (hQ : ∀ v9 : Int32, P σ v9) : hs_ok2 (fJ6_bitCount_0f7a4 σ x0) P := by
  unfold fJ6_bitCount_0f7a4
  exact hs_some (hQ _)
theorem s_fX10_isWord_24 {R : hy_S → Prop} {Q : hy_S × Int32 → Prop} : ∀ (n : Nat) (σ : hy_S) (x1 x2 x3 : Int32), hm_I R σ → x1.toNatClampNeg < 5 → 0 ≤ x2.toInt → x2.toInt ≤ 1 → 0 ≤ x3.toInt → x3.toInt ≤ ((hy_sl.getD x1.toNatClampNeg 0 : Nat) : Int) → (x2.toInt = 0 ∨ (σ.2 5).toInt - (σ.2 7).toInt = ((hy_sl.getD x1.toNatClampNeg 0 : Nat) : Int)) → ((hy_sl.getD x1.toNatClampNeg 0 : Nat) : Int) - x3.toInt < (n : Int) → (∀ v9 : Int32, 0 ≤ v9.toInt → v9.toInt ≤ 1 → Q (σ, v9)) → hs_ok (fX10_isWord_24 n σ x1 x2 x3) Q := by
  intro n
  induction n with
  | zero =>
    intro σ x1 x2 x3 I p0 p1 p2 p3 p4 p5 hm hQ
    exact absurd hm (by omega)
  | succ n ih =>
    intro σ x1 x2 x3 I p0 p1 p2 p3 p4 p5 hm hQ
    have h5 : (0 : Int) ≤ (σ.2 5).toInt ∧ (σ.2 5).toInt ≤ 400 := I.2.1 5
    have h7 : (0 : Int) ≤ (σ.2 7).toInt ∧ (σ.2 7).toInt ≤ 400 := I.2.1 7
    unfold fX10_isWord_24
    refine hs_ite (fun h => ?_) (fun h => ?_)
    · unfold fX10_isWord_67
      exact hs_ck (hs_01 p1 p2) (hs_some (hQ x2 p1 p2))
    · have hx : ¬ x2.toInt = 0 := fun z => h (Int32.toInt_inj.mp z)
      have hl : (σ.2 5).toInt - (σ.2 7).toInt = ((hy_sl.getD x1.toNatClampNeg 0 : Nat) : Int) := by
        rcases p5 with z | z
        · exact absurd z hx
        · exact z
      refine hs_ck p0 ?_
      refine hs_ite (fun h2 => ?_) (fun h2 => ?_)
      · unfold fX10_isWord_67
        exact hs_ck (hs_01 p1 p2) (hs_some (hQ x2 p1 p2))
      · have h3 : ¬ ((hy_sl.getD x1.toNatClampNeg 0 : Nat) : Int) ≤ x3.toInt := fun z => h2 (Int32.le_iff_toInt_le.mpr (by rw [hs_len _ p0]; exact z))
        have f1 : (σ.2 7 + x3).toInt = (σ.2 7).toInt + x3.toInt := hs_add (by omega) (by omega)
        refine hs_ga (j := 17) I (by rw [f1]; omega) (by rw [f1]; omega) (fun v4 e4 b4 => ?_)
        refine hs_ck ⟨p0, hs_nat p3 (by omega)⟩ ?_
        have g1 : (x3 + 1).toInt = x3.toInt + 1 := hs_addk 1 rfl (by omega) (by omega)
        refine hs_ite (fun h4 => ?_) (fun h4 => ?_)
        · unfold fX10_isWord_60
          exact ih σ x1 1 (x3 + 1) I p0 (by decide) (by decide) (by rw [g1]; omega) (by rw [g1]; omega) (Or.inr hl) (by rw [g1]; omega) hQ
        · unfold fX10_isWord_60
          exact ih σ x1 0 (x3 + 1) I p0 (by decide) (by decide) (by rw [g1]; omega) (by rw [g1]; omega) (Or.inr hl) (by rw [g1]; omega) hQ
theorem hs_sl5 : ∀ k : Nat, k < 5 → hy_sl.getD k 0 ≤ 5 := by decide
theorem s_fX10_isWord {R : hy_S → Prop} (σ : hy_S) (x1 : Int32) {P : hy_S → Int32 → Prop} (I : hm_I R σ) (p0 : 0 ≤ x1.toInt) (p1 : x1.toInt ≤ 4) (p2 : (σ.2 7).toInt ≤ (σ.2 5).toInt) (hQ : ∀ v9 : Int32, 0 ≤ v9.toInt → v9.toInt ≤ 1 → P σ v9) : hs_ok2 (fX10_isWord σ x1) P := by
  unfold fX10_isWord
  have h5 : (0 : Int) ≤ (σ.2 5).toInt ∧ (σ.2 5).toInt ≤ 400 := I.2.1 5
  have h7 : (0 : Int) ≤ (σ.2 7).toInt ∧ (σ.2 7).toInt ≤ 400 := I.2.1 7
  have hn := hs_nat5 p0 p1
  have hs := hs_sl5 _ hn
  have hfu : ((hy_fu : Nat) : Int) = 5000 := rfl
  have e3 : (σ.2 5 - σ.2 7).toInt = (σ.2 5).toInt - (σ.2 7).toInt := hs_sub (by omega) (by omega)
  refine hs_ck hn ?_
  refine hs_ite (fun h => ?_) (fun h => ?_)
  · have h6 := congrArg Int32.toInt h
    rw [hs_len _ hn, e3] at h6
    unfold fX10_isWord_21
    exact s_fX10_isWord_24 hy_fu σ x1 1 0 I hn (by decide) (by decide) (by decide) (show (0 : Int) ≤ _ by omega) (Or.inr h6) (show _ - (0 : Int) < ((hy_fu : Nat) : Int) by rw [hfu]; omega) hQ
  · unfold fX10_isWord_21
    exact s_fX10_isWord_24 hy_fu σ x1 0 0 I hn (by decide) (by decide) (by decide) (show (0 : Int) ≤ _ by omega) (Or.inl rfl) (show _ - (0 : Int) < ((hy_fu : Nat) : Int) by rw [hfu]; omega) hQ
theorem s_fX10_thrown {R : hy_S → Prop} (σ : hy_S) {P : hy_S → Int32 → Prop} (I : hm_I R σ) (hQ : ∀ v9 : Int32, P σ v9) : hs_ok2 (fX10_thrown σ ) P := by
  unfold fX10_thrown
  show hs_ok _ _
  have : (-2147483648 : Int) ≤ (σ.2 0).toInt ∧ (σ.2 0).toInt ≤ 2147483647 := I.2.1 0
  exact hs_some (hQ ((σ.2 0) : Int32) )
theorem s_fX10_throwsIf {R : hy_S → Prop} (ra : ∀ j, j ∈ ([] : List Nat) → ∀ (τ : hy_S) (g : Nat → Int32), R τ → R (hy_sc τ j g)) (ri : ∀ j, j ∈ ([0] : List Nat) → ∀ (τ : hy_S) (v : Int32), R τ → R (hy_si τ j v)) (σ : hy_S) (x1 : Int32) (x2 : Int32) {P : hy_S → Int32 → Prop} (I : hm_I R σ) (p0 : 0 ≤ x1.toInt) (p1 : x1.toInt ≤ 1) (hQ : ∀ (σ9 : hy_S) (v9 : Int32), hm_I R σ9 → v9.toInt = x1.toInt → (σ9.2 1).toInt = (σ.2 1).toInt → (σ9.2 2).toInt = (σ.2 2).toInt → (σ9.2 3).toInt = (σ.2 3).toInt → (σ9.2 4).toInt = (σ.2 4).toInt → (σ9.2 5).toInt = (σ.2 5).toInt → (σ9.2 6).toInt = (σ.2 6).toInt → (σ9.2 7).toInt = (σ.2 7).toInt → (σ9.2 8).toInt = (σ.2 8).toInt → (σ9.2 9).toInt = (σ.2 9).toInt → (σ9.2 10).toInt = (σ.2 10).toInt → (σ9.2 11).toInt = (σ.2 11).toInt → P σ9 v9) : hs_ok2 (fX10_throwsIf σ x1 x2) P := by
  unfold fX10_throwsIf
  show hs_ok _ _
  have : (-2147483648 : Int) ≤ (σ.2 0).toInt ∧ (σ.2 0).toInt ≤ 2147483647 := I.2.1 0
  have : (0 : Int) ≤ (σ.2 1).toInt ∧ (σ.2 1).toInt ≤ 8 := I.2.1 1
  have : (0 : Int) ≤ (σ.2 2).toInt ∧ (σ.2 2).toInt ≤ 60 := I.2.1 2
  have : (0 : Int) ≤ (σ.2 3).toInt ∧ (σ.2 3).toInt ≤ 4 := I.2.1 3
  have : (0 : Int) ≤ (σ.2 4).toInt ∧ (σ.2 4).toInt ≤ 400 := I.2.1 4
  have : (0 : Int) ≤ (σ.2 5).toInt ∧ (σ.2 5).toInt ≤ 400 := I.2.1 5
  have : (0 : Int) ≤ (σ.2 6).toInt ∧ (σ.2 6).toInt ≤ 400 := I.2.1 6
  have : (0 : Int) ≤ (σ.2 7).toInt ∧ (σ.2 7).toInt ≤ 400 := I.2.1 7
  have : (-2147483648 : Int) ≤ (σ.2 8).toInt ∧ (σ.2 8).toInt ≤ 2147483647 := I.2.1 8
  have : (0 : Int) ≤ (σ.2 9).toInt ∧ (σ.2 9).toInt ≤ 60 := I.2.1 9
  have : (0 : Int) ≤ (σ.2 10).toInt ∧ (σ.2 10).toInt ≤ 60 := I.2.1 10
  have : (-2147483648 : Int) ≤ (σ.2 11).toInt ∧ (σ.2 11).toInt ≤ 2147483647 := I.2.1 11
  refine hs_ite (fun h_1 => ?_) (fun h_1 => ?_)
  · have : (x1 : Int32).toInt = (0) := congrArg Int32.toInt h_1
    unfold fX10_throwsIf_9
    refine hs_ck (hs_01 (by omega) (by omega)) ?_
    exact hs_some (hQ σ (x1 : Int32) I (show (x1 : Int32).toInt = x1.toInt by omega) (show (σ.2 1).toInt = (σ.2 1).toInt by omega) (show (σ.2 2).toInt = (σ.2 2).toInt by omega) (show (σ.2 3).toInt = (σ.2 3).toInt by omega) (show (σ.2 4).toInt = (σ.2 4).toInt by omega) (show (σ.2 5).toInt = (σ.2 5).toInt by omega) (show (σ.2 6).toInt = (σ.2 6).toInt by omega) (show (σ.2 7).toInt = (σ.2 7).toInt by omega) (show (σ.2 8).toInt = (σ.2 8).toInt by omega) (show (σ.2 9).toInt = (σ.2 9).toInt by omega) (show (σ.2 10).toInt = (σ.2 10).toInt by omega) (show (σ.2 11).toInt = (σ.2 11).toInt by omega))
  · have : ¬ (x1 : Int32).toInt = (0) := fun z => h_1 (Int32.toInt_inj.mp z)
    refine hs_pf (v := x2) I (hs_any _) (fun r => ⟨hm_Ri (by decide) r.1, ri 0 (by decide) _ _ r.2⟩) (fun σ2_2 eσ2_2 Iσ2_2 => ?_)
    have : (σ2_2.2 0).toInt = (x2 : Int32).toInt := by rw [eσ2_2]; rfl
    have : (σ2_2.2 1).toInt = (σ.2 1).toInt := by rw [eσ2_2]; rfl
    have : (σ2_2.2 2).toInt = (σ.2 2).toInt := by rw [eσ2_2]; rfl
    have : (σ2_2.2 3).toInt = (σ.2 3).toInt := by rw [eσ2_2]; rfl
    have : (σ2_2.2 4).toInt = (σ.2 4).toInt := by rw [eσ2_2]; rfl
    have : (σ2_2.2 5).toInt = (σ.2 5).toInt := by rw [eσ2_2]; rfl
    have : (σ2_2.2 6).toInt = (σ.2 6).toInt := by rw [eσ2_2]; rfl
    have : (σ2_2.2 7).toInt = (σ.2 7).toInt := by rw [eσ2_2]; rfl
    have : (σ2_2.2 8).toInt = (σ.2 8).toInt := by rw [eσ2_2]; rfl
    have : (σ2_2.2 9).toInt = (σ.2 9).toInt := by rw [eσ2_2]; rfl
    have : (σ2_2.2 10).toInt = (σ.2 10).toInt := by rw [eσ2_2]; rfl
    have : (σ2_2.2 11).toInt = (σ.2 11).toInt := by rw [eσ2_2]; rfl
    have : (-2147483648 : Int) ≤ (σ2_2.2 0).toInt ∧ (σ2_2.2 0).toInt ≤ 2147483647 := Iσ2_2.2.1 0
    have : (0 : Int) ≤ (σ2_2.2 1).toInt ∧ (σ2_2.2 1).toInt ≤ 8 := Iσ2_2.2.1 1
    have : (0 : Int) ≤ (σ2_2.2 2).toInt ∧ (σ2_2.2 2).toInt ≤ 60 := Iσ2_2.2.1 2
    have : (0 : Int) ≤ (σ2_2.2 3).toInt ∧ (σ2_2.2 3).toInt ≤ 4 := Iσ2_2.2.1 3
    have : (0 : Int) ≤ (σ2_2.2 4).toInt ∧ (σ2_2.2 4).toInt ≤ 400 := Iσ2_2.2.1 4
    have : (0 : Int) ≤ (σ2_2.2 5).toInt ∧ (σ2_2.2 5).toInt ≤ 400 := Iσ2_2.2.1 5
    have : (0 : Int) ≤ (σ2_2.2 6).toInt ∧ (σ2_2.2 6).toInt ≤ 400 := Iσ2_2.2.1 6
    have : (0 : Int) ≤ (σ2_2.2 7).toInt ∧ (σ2_2.2 7).toInt ≤ 400 := Iσ2_2.2.1 7
    have : (-2147483648 : Int) ≤ (σ2_2.2 8).toInt ∧ (σ2_2.2 8).toInt ≤ 2147483647 := Iσ2_2.2.1 8
    have : (0 : Int) ≤ (σ2_2.2 9).toInt ∧ (σ2_2.2 9).toInt ≤ 60 := Iσ2_2.2.1 9
    have : (0 : Int) ≤ (σ2_2.2 10).toInt ∧ (σ2_2.2 10).toInt ≤ 60 := Iσ2_2.2.1 10
    have : (-2147483648 : Int) ≤ (σ2_2.2 11).toInt ∧ (σ2_2.2 11).toInt ≤ 2147483647 := Iσ2_2.2.1 11
    unfold fX10_throwsIf_9
    refine hs_ck (hs_01 (by omega) (by omega)) ?_
    exact hs_some (hQ σ2_2 (x1 : Int32) Iσ2_2 (show (x1 : Int32).toInt = x1.toInt by omega) (show (σ2_2.2 1).toInt = (σ.2 1).toInt by omega) (show (σ2_2.2 2).toInt = (σ.2 2).toInt by omega) (show (σ2_2.2 3).toInt = (σ.2 3).toInt by omega) (show (σ2_2.2 4).toInt = (σ.2 4).toInt by omega) (show (σ2_2.2 5).toInt = (σ.2 5).toInt by omega) (show (σ2_2.2 6).toInt = (σ.2 6).toInt by omega) (show (σ2_2.2 7).toInt = (σ.2 7).toInt by omega) (show (σ2_2.2 8).toInt = (σ.2 8).toInt by omega) (show (σ2_2.2 9).toInt = (σ.2 9).toInt by omega) (show (σ2_2.2 10).toInt = (σ.2 10).toInt by omega) (show (σ2_2.2 11).toInt = (σ.2 11).toInt by omega))
theorem s_fX10_in {R : hy_S → Prop} (σ : hy_S) (x0 : Int32) (x1 : Int32) (x2 : Int32) {P : hy_S → Int32 → Prop} (I : hm_I R σ) (hQ : ∀ v9 : Int32, (v9.toInt = 1 ∧ x1.toInt ≤ x0.toInt ∧ x0.toInt ≤ x2.toInt) ∨ (v9.toInt = 0 ∧ (x0.toInt < x1.toInt ∨ x2.toInt < x0.toInt)) → P σ v9) : hs_ok2 (fX10_in σ x0 x1 x2) P := by
  unfold fX10_in
  show hs_ok _ _
  refine hs_ite (fun h_1 => ?_) (fun h_1 => ?_)
  · have : (x0 : Int32).toInt < (x1 : Int32).toInt := Int32.lt_iff_toInt_lt.mp h_1
    exact hs_some (hQ (0 : Int32) (show ((0) = 1 ∧ x1.toInt ≤ x0.toInt ∧ x0.toInt ≤ x2.toInt) ∨ ((0) = 0 ∧ (x0.toInt < x1.toInt ∨ x2.toInt < x0.toInt)) by omega))
  · have : ¬ (x0 : Int32).toInt < (x1 : Int32).toInt := fun z => h_1 (Int32.lt_iff_toInt_lt.mpr z)
    refine hs_ite (fun h_2 => ?_) (fun h_2 => ?_)
    · have : (x2 : Int32).toInt < (x0 : Int32).toInt := Int32.lt_iff_toInt_lt.mp h_2
      exact hs_some (hQ (0 : Int32) (show ((0) = 1 ∧ x1.toInt ≤ x0.toInt ∧ x0.toInt ≤ x2.toInt) ∨ ((0) = 0 ∧ (x0.toInt < x1.toInt ∨ x2.toInt < x0.toInt)) by omega))
    · have : ¬ (x2 : Int32).toInt < (x0 : Int32).toInt := fun z => h_2 (Int32.lt_iff_toInt_lt.mpr z)
      exact hs_some (hQ (1 : Int32) (show ((1) = 1 ∧ x1.toInt ≤ x0.toInt ∧ x0.toInt ≤ x2.toInt) ∨ ((1) = 0 ∧ (x0.toInt < x1.toInt ∨ x2.toInt < x0.toInt)) by omega))
theorem s_fX10_noJar {R : hy_S → Prop} (σ : hy_S) (x1 : Int32) {P : hy_S → Int32 → Prop} (I : hm_I R σ) (hQ : ∀ v9 : Int32, 0 ≤ v9.toInt → v9.toInt ≤ 1 → v9.toInt = 1 ∨ (0 ≤ x1.toInt ∧ x1.toInt < (σ.2 2).toInt) → P σ v9) : hs_ok2 (fX10_noJar σ x1) P := by
  unfold fX10_noJar
  show hs_ok _ _
  have : (0 : Int) ≤ (σ.2 2).toInt ∧ (σ.2 2).toInt ≤ 60 := I.2.1 2
  obtain ⟨e_1, he_1⟩ : ∃ e9 : Int32, e9 = ((σ.2 2) - 1) := ⟨_, rfl⟩
  try have : e_1.toInt = ((σ.2 2) : Int32).toInt - (1) := by rw [he_1]; exact hs_subk (1) rfl (by omega) (by omega)
  try rw [← he_1]
  refine hs_bd (s_fX10_in σ x1 (0 : Int32) e_1 I  (fun v2_2 (gv2_2_0 : (v2_2.toInt = 1 ∧ (0) ≤ (x1 : Int32).toInt ∧ (x1 : Int32).toInt ≤ (e_1 : Int32).toInt) ∨ (v2_2.toInt = 0 ∧ ((x1 : Int32).toInt < (0) ∨ (e_1 : Int32).toInt < (x1 : Int32).toInt))) => ?_))
  refine hs_ite (fun h_3 => ?_) (fun h_3 => ?_)
  · have : (v2_2 : Int32).toInt = (0) := congrArg Int32.toInt h_3
    exact hs_some (hQ (1 : Int32) (show 0 ≤ (1) by omega) (show (1) ≤ 1 by omega) (show (1) = 1 ∨ (0 ≤ x1.toInt ∧ x1.toInt < (σ.2 2).toInt) by omega))
  · have : ¬ (v2_2 : Int32).toInt = (0) := fun z => h_3 (Int32.toInt_inj.mp z)
    exact hs_some (hQ (0 : Int32) (show 0 ≤ (0) by omega) (show (0) ≤ 1 by omega) (show (0) = 1 ∨ (0 ≤ x1.toInt ∧ x1.toInt < (σ.2 2).toInt) by omega))
theorem s_fX10_noHold {R : hy_S → Prop} (σ : hy_S) (x1 : Int32) (x2 : Int32) {P : hy_S → Int32 → Prop} (I : hm_I R σ) (hQ : ∀ v9 : Int32, 0 ≤ v9.toInt → v9.toInt ≤ 1 → v9.toInt = 1 ∨ (0 ≤ x1.toInt ∧ x1.toInt < (σ.2 3).toInt ∧ 0 ≤ x2.toInt ∧ x2.toInt ≤ 5) → P σ v9) : hs_ok2 (fX10_noHold σ x1 x2) P := by
  unfold fX10_noHold
  show hs_ok _ _
  have : (0 : Int) ≤ (σ.2 3).toInt ∧ (σ.2 3).toInt ≤ 4 := I.2.1 3
  obtain ⟨e_1, he_1⟩ : ∃ e9 : Int32, e9 = ((σ.2 3) - 1) := ⟨_, rfl⟩
  try have : e_1.toInt = ((σ.2 3) : Int32).toInt - (1) := by rw [he_1]; exact hs_subk (1) rfl (by omega) (by omega)
  try rw [← he_1]
  refine hs_bd (s_fX10_in σ x1 (0 : Int32) e_1 I  (fun v2_2 (gv2_2_0 : (v2_2.toInt = 1 ∧ (0) ≤ (x1 : Int32).toInt ∧ (x1 : Int32).toInt ≤ (e_1 : Int32).toInt) ∨ (v2_2.toInt = 0 ∧ ((x1 : Int32).toInt < (0) ∨ (e_1 : Int32).toInt < (x1 : Int32).toInt))) => ?_))
  refine hs_ite (fun h_3 => ?_) (fun h_3 => ?_)
  · have : (v2_2 : Int32).toInt = (0) := congrArg Int32.toInt h_3
    unfold fX10_noHold_23
    exact hs_some (hQ (1 : Int32) (show 0 ≤ (1) by omega) (show (1) ≤ 1 by omega) (show (1) = 1 ∨ (0 ≤ x1.toInt ∧ x1.toInt < (σ.2 3).toInt ∧ 0 ≤ x2.toInt ∧ x2.toInt ≤ 5) by omega))
  · have : ¬ (v2_2 : Int32).toInt = (0) := fun z => h_3 (Int32.toInt_inj.mp z)
    refine hs_bd (s_fX10_in σ x2 (0 : Int32) (5 : Int32) I  (fun v6_4 (gv6_4_0 : (v6_4.toInt = 1 ∧ (0) ≤ (x2 : Int32).toInt ∧ (x2 : Int32).toInt ≤ (5)) ∨ (v6_4.toInt = 0 ∧ ((x2 : Int32).toInt < (0) ∨ (5) < (x2 : Int32).toInt))) => ?_))
    refine hs_ite (fun h_5 => ?_) (fun h_5 => ?_)
    · have : (v6_4 : Int32).toInt = (0) := congrArg Int32.toInt h_5
      unfold fX10_noHold_23
      exact hs_some (hQ (1 : Int32) (show 0 ≤ (1) by omega) (show (1) ≤ 1 by omega) (show (1) = 1 ∨ (0 ≤ x1.toInt ∧ x1.toInt < (σ.2 3).toInt ∧ 0 ≤ x2.toInt ∧ x2.toInt ≤ 5) by omega))
    · have : ¬ (v6_4 : Int32).toInt = (0) := fun z => h_5 (Int32.toInt_inj.mp z)
      exact hs_some (hQ (0 : Int32) (show 0 ≤ (0) by omega) (show (0) ≤ 1 by omega) (show (0) = 1 ∨ (0 ≤ x1.toInt ∧ x1.toInt < (σ.2 3).toInt ∧ 0 ≤ x2.toInt ∧ x2.toInt ≤ 5) by omega))
theorem s_fX10_weight {R : hy_S → Prop} (σ : hy_S) (x1 : Int32) {P : hy_S → Int32 → Prop} (I : hm_I R σ) (p0 : 0 ≤ x1.toInt) (p1 : x1.toInt < 60) (hQ : ∀ v9 : Int32, P σ v9) : hs_ok2 (fX10_weight σ x1) P := by
  unfold fX10_weight
  show hs_ok _ _
  refine hs_ga (j := 3) I (by omega) (by omega) (fun v1_1 ev1_1 (bv1_1 : (0 : Int) ≤ v1_1.toInt ∧ v1_1.toInt ≤ 7) => ?_)
  refine hs_ga (j := 0) I (by omega) (by omega) (fun v4_2 ev4_2 (bv4_2 : (-2147483648 : Int) ≤ v4_2.toInt ∧ v4_2.toInt ≤ 2147483647) => ?_)
  refine hs_ga (j := 6) I (by omega) (by omega) (fun v7_3 ev7_3 (bv7_3 : (-2147483648 : Int) ≤ v7_3.toInt ∧ v7_3.toInt ≤ 2147483647) => ?_)
  obtain ⟨e_4, he_4⟩ : ∃ e9 : Int32, e9 = (v4_2 + v7_3) := ⟨_, rfl⟩
  try have : e_4.toInt = (v4_2 : Int32).toInt + (v7_3 : Int32).toInt := by rw [he_4]; exact hs_add (by omega) (by omega)
  try rw [← he_4]
  exact hs_some (hQ (e_4 : Int32) )
theorem s_fX10_kind {R : hy_S → Prop} (ra : ∀ j, j ∈ ([0, 1, 2] : List Nat) → ∀ (τ : hy_S) (g : Nat → Int32), R τ → R (hy_sc τ j g)) (ri : ∀ j, j ∈ ([0, 1] : List Nat) → ∀ (τ : hy_S) (v : Int32), R τ → R (hy_si τ j v)) (σ : hy_S) (x1 : Int32) (x2 : Int32) (x3 : Int32) {P : hy_S → Int32 → Prop} (I : hm_I R σ) (hQ : ∀ (σ9 : hy_S) (v9 : Int32), hm_I R σ9 → ((σ9.2 0).toInt = 0 ∧ ¬ (x1.toInt < 1 ∨ 100 < x1.toInt ∨ x2.toInt < 1 ∨ 200 < x2.toInt ∨ x3.toInt < 0 ∨ 5000 < x3.toInt) ∧ (σ.2 1).toInt < 8 ∧ (σ9.2 1).toInt = (σ.2 1).toInt + 1 ∧ v9.toInt = (σ.2 1).toInt) ∨ ((σ9.2 0).toInt = 1 ∧ (x1.toInt < 1 ∨ 100 < x1.toInt ∨ x2.toInt < 1 ∨ 200 < x2.toInt ∨ x3.toInt < 0 ∨ 5000 < x3.toInt) ∧ (σ9.2 1).toInt = (σ.2 1).toInt) ∨ ((σ9.2 0).toInt = 2 ∧ ¬ (x1.toInt < 1 ∨ 100 < x1.toInt ∨ x2.toInt < 1 ∨ 200 < x2.toInt ∨ x3.toInt < 0 ∨ 5000 < x3.toInt) ∧ 8 ≤ (σ.2 1).toInt ∧ (σ9.2 1).toInt = (σ.2 1).toInt) → P σ9 v9) : hs_ok2 (fX10_kind σ x1 x2 x3) P := by
  unfold fX10_kind
  show hs_ok _ _
  have : (-2147483648 : Int) ≤ (σ.2 0).toInt ∧ (σ.2 0).toInt ≤ 2147483647 := I.2.1 0
  have : (0 : Int) ≤ (σ.2 1).toInt ∧ (σ.2 1).toInt ≤ 8 := I.2.1 1
  refine hs_pf (v := 0) I (hs_any _) (fun r => ⟨hm_Ri (by decide) r.1, ri 0 (by decide) _ _ r.2⟩) (fun σ1_1 eσ1_1 Iσ1_1 => ?_)
  have : (σ1_1.2 0).toInt = (0) := by rw [eσ1_1]; rfl
  have : (σ1_1.2 1).toInt = (σ.2 1).toInt := by rw [eσ1_1]; rfl
  have : (-2147483648 : Int) ≤ (σ1_1.2 0).toInt ∧ (σ1_1.2 0).toInt ≤ 2147483647 := Iσ1_1.2.1 0
  have : (0 : Int) ≤ (σ1_1.2 1).toInt ∧ (σ1_1.2 1).toInt ≤ 8 := Iσ1_1.2.1 1
  refine hs_bIn (fun (u_2_0 : (1) ≤ (x1 : Int32).toInt) (u_2_1 : (x1 : Int32).toInt ≤ (100)) => ?_) (fun (u_2_0 : (x1 : Int32).toInt < (1) ∨ (100) < (x1 : Int32).toInt) => ?_)
  · skip
    refine hs_ite (fun h_3 => ?_) (fun h_3 => ?_)
    · exact absurd h_3 (by decide)
    · skip
      refine hs_bIn (fun (u_4_0 : (1) ≤ (x2 : Int32).toInt) (u_4_1 : (x2 : Int32).toInt ≤ (200)) => ?_) (fun (u_4_0 : (x2 : Int32).toInt < (1) ∨ (200) < (x2 : Int32).toInt) => ?_)
      · skip
        refine hs_ite (fun h_5 => ?_) (fun h_5 => ?_)
        · exact absurd h_5 (by decide)
        · skip
          refine hs_bIn (fun (u_6_0 : (0) ≤ (x3 : Int32).toInt) (u_6_1 : (x3 : Int32).toInt ≤ (5000)) => ?_) (fun (u_6_0 : (x3 : Int32).toInt < (0) ∨ (5000) < (x3 : Int32).toInt) => ?_)
          · skip
            refine hs_ite (fun h_7 => ?_) (fun h_7 => ?_)
            · exact absurd h_7 (by decide)
            · skip
              unfold fX10_kind_43
              refine hs_th0 ?_
              refine hs_ite (fun h_8 => ?_) (fun h_8 => ?_)
              · skip
                refine hs_ite (fun h_9 => ?_) (fun h_9 => ?_)
                · have : ((σ1_1.2 1) : Int32).toInt = (8) := congrArg Int32.toInt h_9
                  unfold fX10_kind_65
                  refine hs_th1 Iσ1_1 (hs_any _) (fun r => ⟨hm_Ri (by decide) r.1, ri 0 (by decide) _ _ r.2⟩) (fun σ1_10 eσ1_10 Iσ1_10 => ?_)
                  have : (σ1_10.2 0).toInt = (2) := by rw [eσ1_10]; rfl
                  have : (σ1_10.2 1).toInt = (σ1_1.2 1).toInt := by rw [eσ1_10]; rfl
                  have : (-2147483648 : Int) ≤ (σ1_10.2 0).toInt ∧ (σ1_10.2 0).toInt ≤ 2147483647 := Iσ1_10.2.1 0
                  have : (0 : Int) ≤ (σ1_10.2 1).toInt ∧ (σ1_10.2 1).toInt ≤ 8 := Iσ1_10.2.1 1
                  refine hs_ite (fun h_11 => ?_) (fun h_11 => ?_)
                  · exact absurd h_11 (by decide)
                  · skip
                    exact hs_some (hQ σ1_10 (0 : Int32) Iσ1_10 (show ((σ1_10.2 0).toInt = 0 ∧ ¬ (x1.toInt < 1 ∨ 100 < x1.toInt ∨ x2.toInt < 1 ∨ 200 < x2.toInt ∨ x3.toInt < 0 ∨ 5000 < x3.toInt) ∧ (σ.2 1).toInt < 8 ∧ (σ1_10.2 1).toInt = (σ.2 1).toInt + 1 ∧ (0) = (σ.2 1).toInt) ∨ ((σ1_10.2 0).toInt = 1 ∧ (x1.toInt < 1 ∨ 100 < x1.toInt ∨ x2.toInt < 1 ∨ 200 < x2.toInt ∨ x3.toInt < 0 ∨ 5000 < x3.toInt) ∧ (σ1_10.2 1).toInt = (σ.2 1).toInt) ∨ ((σ1_10.2 0).toInt = 2 ∧ ¬ (x1.toInt < 1 ∨ 100 < x1.toInt ∨ x2.toInt < 1 ∨ 200 < x2.toInt ∨ x3.toInt < 0 ∨ 5000 < x3.toInt) ∧ 8 ≤ (σ.2 1).toInt ∧ (σ1_10.2 1).toInt = (σ.2 1).toInt) by omega))
                · have : ¬ ((σ1_1.2 1) : Int32).toInt = (8) := fun z => h_9 (Int32.toInt_inj.mp z)
                  unfold fX10_kind_65
                  refine hs_th0 ?_
                  refine hs_ite (fun h_12 => ?_) (fun h_12 => ?_)
                  · skip
                    refine hs_pa (idx := (σ1_1.2 1)) (v := _) Iσ1_1 (by omega) (by omega) (hs_any _) (fun r => ⟨hm_Ra (by decide) r.1, ra 0 (by decide) _ _ r.2⟩) (fun σ5_13 eσ5_13 Iσ5_13 => ?_)
                    have : (σ5_13.2 0).toInt = (σ1_1.2 0).toInt := by rw [eσ5_13]; rfl
                    have : (σ5_13.2 1).toInt = (σ1_1.2 1).toInt := by rw [eσ5_13]; rfl
                    have : (-2147483648 : Int) ≤ (σ5_13.2 0).toInt ∧ (σ5_13.2 0).toInt ≤ 2147483647 := Iσ5_13.2.1 0
                    have : (0 : Int) ≤ (σ5_13.2 1).toInt ∧ (σ5_13.2 1).toInt ≤ 8 := Iσ5_13.2.1 1
                    refine hs_pa (idx := (σ5_13.2 1)) (v := _) Iσ5_13 (by omega) (by omega) (hs_any _) (fun r => ⟨hm_Ra (by decide) r.1, ra 1 (by decide) _ _ r.2⟩) (fun σ8_14 eσ8_14 Iσ8_14 => ?_)
                    have : (σ8_14.2 0).toInt = (σ5_13.2 0).toInt := by rw [eσ8_14]; rfl
                    have : (σ8_14.2 1).toInt = (σ5_13.2 1).toInt := by rw [eσ8_14]; rfl
                    have : (-2147483648 : Int) ≤ (σ8_14.2 0).toInt ∧ (σ8_14.2 0).toInt ≤ 2147483647 := Iσ8_14.2.1 0
                    have : (0 : Int) ≤ (σ8_14.2 1).toInt ∧ (σ8_14.2 1).toInt ≤ 8 := Iσ8_14.2.1 1
                    refine hs_pa (idx := (σ8_14.2 1)) (v := _) Iσ8_14 (by omega) (by omega) (hs_any _) (fun r => ⟨hm_Ra (by decide) r.1, ra 2 (by decide) _ _ r.2⟩) (fun σ11_15 eσ11_15 Iσ11_15 => ?_)
                    have : (σ11_15.2 0).toInt = (σ8_14.2 0).toInt := by rw [eσ11_15]; rfl
                    have : (σ11_15.2 1).toInt = (σ8_14.2 1).toInt := by rw [eσ11_15]; rfl
                    have : (-2147483648 : Int) ≤ (σ11_15.2 0).toInt ∧ (σ11_15.2 0).toInt ≤ 2147483647 := Iσ11_15.2.1 0
                    have : (0 : Int) ≤ (σ11_15.2 1).toInt ∧ (σ11_15.2 1).toInt ≤ 8 := Iσ11_15.2.1 1
                    obtain ⟨e_16, he_16⟩ : ∃ e9 : Int32, e9 = ((σ11_15.2 1) + 1) := ⟨_, rfl⟩
                    try have : e_16.toInt = ((σ11_15.2 1) : Int32).toInt + (1) := by rw [he_16]; exact hs_addk (1) rfl (by omega) (by omega)
                    try rw [← he_16]
                    refine hs_pf (v := e_16) Iσ11_15 ⟨(by omega : (0 : Int) ≤ (e_16 : Int32).toInt), (by omega : (e_16 : Int32).toInt ≤ 8)⟩ (fun r => ⟨hm_Ri (by decide) r.1, ri 1 (by decide) _ _ r.2⟩) (fun σ14_17 eσ14_17 Iσ14_17 => ?_)
                    have : (σ14_17.2 0).toInt = (σ11_15.2 0).toInt := by rw [eσ14_17]; rfl
                    have : (σ14_17.2 1).toInt = (e_16 : Int32).toInt := by rw [eσ14_17]; rfl
                    have : (-2147483648 : Int) ≤ (σ14_17.2 0).toInt ∧ (σ14_17.2 0).toInt ≤ 2147483647 := Iσ14_17.2.1 0
                    have : (0 : Int) ≤ (σ14_17.2 1).toInt ∧ (σ14_17.2 1).toInt ≤ 8 := Iσ14_17.2.1 1
                    obtain ⟨e_18, he_18⟩ : ∃ e9 : Int32, e9 = ((σ14_17.2 1) - 1) := ⟨_, rfl⟩
                    try have : e_18.toInt = ((σ14_17.2 1) : Int32).toInt - (1) := by rw [he_18]; exact hs_subk (1) rfl (by omega) (by omega)
                    try rw [← he_18]
                    exact hs_some (hQ σ14_17 (e_18 : Int32) Iσ14_17 (show ((σ14_17.2 0).toInt = 0 ∧ ¬ (x1.toInt < 1 ∨ 100 < x1.toInt ∨ x2.toInt < 1 ∨ 200 < x2.toInt ∨ x3.toInt < 0 ∨ 5000 < x3.toInt) ∧ (σ.2 1).toInt < 8 ∧ (σ14_17.2 1).toInt = (σ.2 1).toInt + 1 ∧ (e_18 : Int32).toInt = (σ.2 1).toInt) ∨ ((σ14_17.2 0).toInt = 1 ∧ (x1.toInt < 1 ∨ 100 < x1.toInt ∨ x2.toInt < 1 ∨ 200 < x2.toInt ∨ x3.toInt < 0 ∨ 5000 < x3.toInt) ∧ (σ14_17.2 1).toInt = (σ.2 1).toInt) ∨ ((σ14_17.2 0).toInt = 2 ∧ ¬ (x1.toInt < 1 ∨ 100 < x1.toInt ∨ x2.toInt < 1 ∨ 200 < x2.toInt ∨ x3.toInt < 0 ∨ 5000 < x3.toInt) ∧ 8 ≤ (σ.2 1).toInt ∧ (σ14_17.2 1).toInt = (σ.2 1).toInt) by omega))
                  · exact absurd (by decide) h_12
              · exact absurd (by decide) h_8
          · skip
            refine hs_ite (fun h_19 => ?_) (fun h_19 => ?_)
            · skip
              unfold fX10_kind_38
              unfold fX10_kind_43
              refine hs_th1 Iσ1_1 (hs_any _) (fun r => ⟨hm_Ri (by decide) r.1, ri 0 (by decide) _ _ r.2⟩) (fun σ1_20 eσ1_20 Iσ1_20 => ?_)
              have : (σ1_20.2 0).toInt = (1) := by rw [eσ1_20]; rfl
              have : (σ1_20.2 1).toInt = (σ1_1.2 1).toInt := by rw [eσ1_20]; rfl
              have : (-2147483648 : Int) ≤ (σ1_20.2 0).toInt ∧ (σ1_20.2 0).toInt ≤ 2147483647 := Iσ1_20.2.1 0
              have : (0 : Int) ≤ (σ1_20.2 1).toInt ∧ (σ1_20.2 1).toInt ≤ 8 := Iσ1_20.2.1 1
              refine hs_ite (fun h_21 => ?_) (fun h_21 => ?_)
              · exact absurd h_21 (by decide)
              · skip
                exact hs_some (hQ σ1_20 (0 : Int32) Iσ1_20 (show ((σ1_20.2 0).toInt = 0 ∧ ¬ (x1.toInt < 1 ∨ 100 < x1.toInt ∨ x2.toInt < 1 ∨ 200 < x2.toInt ∨ x3.toInt < 0 ∨ 5000 < x3.toInt) ∧ (σ.2 1).toInt < 8 ∧ (σ1_20.2 1).toInt = (σ.2 1).toInt + 1 ∧ (0) = (σ.2 1).toInt) ∨ ((σ1_20.2 0).toInt = 1 ∧ (x1.toInt < 1 ∨ 100 < x1.toInt ∨ x2.toInt < 1 ∨ 200 < x2.toInt ∨ x3.toInt < 0 ∨ 5000 < x3.toInt) ∧ (σ1_20.2 1).toInt = (σ.2 1).toInt) ∨ ((σ1_20.2 0).toInt = 2 ∧ ¬ (x1.toInt < 1 ∨ 100 < x1.toInt ∨ x2.toInt < 1 ∨ 200 < x2.toInt ∨ x3.toInt < 0 ∨ 5000 < x3.toInt) ∧ 8 ≤ (σ.2 1).toInt ∧ (σ1_20.2 1).toInt = (σ.2 1).toInt) by omega))
            · exact absurd (by decide) h_19
      · skip
        refine hs_ite (fun h_22 => ?_) (fun h_22 => ?_)
        · skip
          unfold fX10_kind_38
          unfold fX10_kind_43
          refine hs_th1 Iσ1_1 (hs_any _) (fun r => ⟨hm_Ri (by decide) r.1, ri 0 (by decide) _ _ r.2⟩) (fun σ1_23 eσ1_23 Iσ1_23 => ?_)
          have : (σ1_23.2 0).toInt = (1) := by rw [eσ1_23]; rfl
          have : (σ1_23.2 1).toInt = (σ1_1.2 1).toInt := by rw [eσ1_23]; rfl
          have : (-2147483648 : Int) ≤ (σ1_23.2 0).toInt ∧ (σ1_23.2 0).toInt ≤ 2147483647 := Iσ1_23.2.1 0
          have : (0 : Int) ≤ (σ1_23.2 1).toInt ∧ (σ1_23.2 1).toInt ≤ 8 := Iσ1_23.2.1 1
          refine hs_ite (fun h_24 => ?_) (fun h_24 => ?_)
          · exact absurd h_24 (by decide)
          · skip
            exact hs_some (hQ σ1_23 (0 : Int32) Iσ1_23 (show ((σ1_23.2 0).toInt = 0 ∧ ¬ (x1.toInt < 1 ∨ 100 < x1.toInt ∨ x2.toInt < 1 ∨ 200 < x2.toInt ∨ x3.toInt < 0 ∨ 5000 < x3.toInt) ∧ (σ.2 1).toInt < 8 ∧ (σ1_23.2 1).toInt = (σ.2 1).toInt + 1 ∧ (0) = (σ.2 1).toInt) ∨ ((σ1_23.2 0).toInt = 1 ∧ (x1.toInt < 1 ∨ 100 < x1.toInt ∨ x2.toInt < 1 ∨ 200 < x2.toInt ∨ x3.toInt < 0 ∨ 5000 < x3.toInt) ∧ (σ1_23.2 1).toInt = (σ.2 1).toInt) ∨ ((σ1_23.2 0).toInt = 2 ∧ ¬ (x1.toInt < 1 ∨ 100 < x1.toInt ∨ x2.toInt < 1 ∨ 200 < x2.toInt ∨ x3.toInt < 0 ∨ 5000 < x3.toInt) ∧ 8 ≤ (σ.2 1).toInt ∧ (σ1_23.2 1).toInt = (σ.2 1).toInt) by omega))
        · exact absurd (by decide) h_22
  · skip
    refine hs_ite (fun h_25 => ?_) (fun h_25 => ?_)
    · skip
      unfold fX10_kind_38
      unfold fX10_kind_43
      refine hs_th1 Iσ1_1 (hs_any _) (fun r => ⟨hm_Ri (by decide) r.1, ri 0 (by decide) _ _ r.2⟩) (fun σ1_26 eσ1_26 Iσ1_26 => ?_)
      have : (σ1_26.2 0).toInt = (1) := by rw [eσ1_26]; rfl
      have : (σ1_26.2 1).toInt = (σ1_1.2 1).toInt := by rw [eσ1_26]; rfl
      have : (-2147483648 : Int) ≤ (σ1_26.2 0).toInt ∧ (σ1_26.2 0).toInt ≤ 2147483647 := Iσ1_26.2.1 0
      have : (0 : Int) ≤ (σ1_26.2 1).toInt ∧ (σ1_26.2 1).toInt ≤ 8 := Iσ1_26.2.1 1
      refine hs_ite (fun h_27 => ?_) (fun h_27 => ?_)
      · exact absurd h_27 (by decide)
      · skip
        exact hs_some (hQ σ1_26 (0 : Int32) Iσ1_26 (show ((σ1_26.2 0).toInt = 0 ∧ ¬ (x1.toInt < 1 ∨ 100 < x1.toInt ∨ x2.toInt < 1 ∨ 200 < x2.toInt ∨ x3.toInt < 0 ∨ 5000 < x3.toInt) ∧ (σ.2 1).toInt < 8 ∧ (σ1_26.2 1).toInt = (σ.2 1).toInt + 1 ∧ (0) = (σ.2 1).toInt) ∨ ((σ1_26.2 0).toInt = 1 ∧ (x1.toInt < 1 ∨ 100 < x1.toInt ∨ x2.toInt < 1 ∨ 200 < x2.toInt ∨ x3.toInt < 0 ∨ 5000 < x3.toInt) ∧ (σ1_26.2 1).toInt = (σ.2 1).toInt) ∨ ((σ1_26.2 0).toInt = 2 ∧ ¬ (x1.toInt < 1 ∨ 100 < x1.toInt ∨ x2.toInt < 1 ∨ 200 < x2.toInt ∨ x3.toInt < 0 ∨ 5000 < x3.toInt) ∧ 8 ≤ (σ.2 1).toInt ∧ (σ1_26.2 1).toInt = (σ.2 1).toInt) by omega))
    · exact absurd (by decide) h_25
theorem s_fX10_fire {R : hy_S → Prop} (ra : ∀ j, j ∈ ([3, 4, 5, 8] : List Nat) → ∀ (τ : hy_S) (g : Nat → Int32), R τ → R (hy_sc τ j g)) (ri : ∀ j, j ∈ ([0, 2] : List Nat) → ∀ (τ : hy_S) (v : Int32), R τ → R (hy_si τ j v)) (σ : hy_S) (x1 : Int32) (x2 : Int32) (x3 : Int32) {P : hy_S → Int32 → Prop} (I : hm_I R σ) (hQ : ∀ (σ9 : hy_S) (v9 : Int32), hm_I R σ9 → ((σ9.2 0).toInt = 0 ∧ 0 ≤ x1.toInt ∧ x1.toInt < (σ.2 1).toInt ∧ ¬ (x2.toInt < 0 ∨ 15 < x2.toInt ∨ x3.toInt < 1 ∨ 300 < x3.toInt) ∧ (σ.2 2).toInt < 60 ∧ (σ9.2 2).toInt = (σ.2 2).toInt + 1 ∧ v9.toInt = (σ.2 2).toInt) ∨ ((σ9.2 0).toInt = 1 ∧ (x1.toInt < 0 ∨ (σ.2 1).toInt ≤ x1.toInt) ∧ (σ9.2 2).toInt = (σ.2 2).toInt) ∨ ((σ9.2 0).toInt = 2 ∧ 0 ≤ x1.toInt ∧ x1.toInt < (σ.2 1).toInt ∧ (x2.toInt < 0 ∨ 15 < x2.toInt ∨ x3.toInt < 1 ∨ 300 < x3.toInt) ∧ (σ9.2 2).toInt = (σ.2 2).toInt) ∨ ((σ9.2 0).toInt = 3 ∧ 0 ≤ x1.toInt ∧ x1.toInt < (σ.2 1).toInt ∧ ¬ (x2.toInt < 0 ∨ 15 < x2.toInt ∨ x3.toInt < 1 ∨ 300 < x3.toInt) ∧ 60 ≤ (σ.2 2).toInt ∧ (σ9.2 2).toInt = (σ.2 2).toInt) → P σ9 v9) : hs_ok2 (fX10_fire σ x1 x2 x3) P := by
  unfold fX10_fire
  show hs_ok _ _
  have : (-2147483648 : Int) ≤ (σ.2 0).toInt ∧ (σ.2 0).toInt ≤ 2147483647 := I.2.1 0
  have : (0 : Int) ≤ (σ.2 1).toInt ∧ (σ.2 1).toInt ≤ 8 := I.2.1 1
  have : (0 : Int) ≤ (σ.2 2).toInt ∧ (σ.2 2).toInt ≤ 60 := I.2.1 2
  refine hs_pf (v := 0) I (hs_any _) (fun r => ⟨hm_Ri (by decide) r.1, ri 0 (by decide) _ _ r.2⟩) (fun σ1_1 eσ1_1 Iσ1_1 => ?_)
  have : (σ1_1.2 0).toInt = (0) := by rw [eσ1_1]; rfl
  have : (σ1_1.2 1).toInt = (σ.2 1).toInt := by rw [eσ1_1]; rfl
  have : (σ1_1.2 2).toInt = (σ.2 2).toInt := by rw [eσ1_1]; rfl
  have : (-2147483648 : Int) ≤ (σ1_1.2 0).toInt ∧ (σ1_1.2 0).toInt ≤ 2147483647 := Iσ1_1.2.1 0
  have : (0 : Int) ≤ (σ1_1.2 1).toInt ∧ (σ1_1.2 1).toInt ≤ 8 := Iσ1_1.2.1 1
  have : (0 : Int) ≤ (σ1_1.2 2).toInt ∧ (σ1_1.2 2).toInt ≤ 60 := Iσ1_1.2.1 2
  obtain ⟨e_2, he_2⟩ : ∃ e9 : Int32, e9 = ((σ1_1.2 1) - 1) := ⟨_, rfl⟩
  try have : e_2.toInt = ((σ1_1.2 1) : Int32).toInt - (1) := by rw [he_2]; exact hs_subk (1) rfl (by omega) (by omega)
  try rw [← he_2]
  refine hs_bIn (fun (u_3_0 : (0) ≤ (x1 : Int32).toInt) (u_3_1 : (x1 : Int32).toInt ≤ (e_2 : Int32).toInt) => ?_) (fun (u_3_0 : (x1 : Int32).toInt < (0) ∨ (e_2 : Int32).toInt < (x1 : Int32).toInt) => ?_)
  · skip
    refine hs_ite (fun h_4 => ?_) (fun h_4 => ?_)
    · exact absurd h_4 (by decide)
    · skip
      unfold fX10_fire_25
      refine hs_th0 ?_
      refine hs_ite (fun h_5 => ?_) (fun h_5 => ?_)
      · skip
        refine hs_bIn (fun (u_6_0 : (0) ≤ (x2 : Int32).toInt) (u_6_1 : (x2 : Int32).toInt ≤ (15)) => ?_) (fun (u_6_0 : (x2 : Int32).toInt < (0) ∨ (15) < (x2 : Int32).toInt) => ?_)
        · skip
          refine hs_ite (fun h_7 => ?_) (fun h_7 => ?_)
          · exact absurd h_7 (by decide)
          · skip
            refine hs_bIn (fun (u_8_0 : (1) ≤ (x3 : Int32).toInt) (u_8_1 : (x3 : Int32).toInt ≤ (300)) => ?_) (fun (u_8_0 : (x3 : Int32).toInt < (1) ∨ (300) < (x3 : Int32).toInt) => ?_)
            · skip
              refine hs_ite (fun h_9 => ?_) (fun h_9 => ?_)
              · exact absurd h_9 (by decide)
              · skip
                unfold fX10_fire_59
                refine hs_th0 ?_
                refine hs_ite (fun h_10 => ?_) (fun h_10 => ?_)
                · skip
                  refine hs_ite (fun h_11 => ?_) (fun h_11 => ?_)
                  · have : ((σ1_1.2 2) : Int32).toInt = (60) := congrArg Int32.toInt h_11
                    unfold fX10_fire_81
                    refine hs_th1 Iσ1_1 (hs_any _) (fun r => ⟨hm_Ri (by decide) r.1, ri 0 (by decide) _ _ r.2⟩) (fun σ1_12 eσ1_12 Iσ1_12 => ?_)
                    have : (σ1_12.2 0).toInt = (3) := by rw [eσ1_12]; rfl
                    have : (σ1_12.2 1).toInt = (σ1_1.2 1).toInt := by rw [eσ1_12]; rfl
                    have : (σ1_12.2 2).toInt = (σ1_1.2 2).toInt := by rw [eσ1_12]; rfl
                    have : (-2147483648 : Int) ≤ (σ1_12.2 0).toInt ∧ (σ1_12.2 0).toInt ≤ 2147483647 := Iσ1_12.2.1 0
                    have : (0 : Int) ≤ (σ1_12.2 1).toInt ∧ (σ1_12.2 1).toInt ≤ 8 := Iσ1_12.2.1 1
                    have : (0 : Int) ≤ (σ1_12.2 2).toInt ∧ (σ1_12.2 2).toInt ≤ 60 := Iσ1_12.2.1 2
                    refine hs_ite (fun h_13 => ?_) (fun h_13 => ?_)
                    · exact absurd h_13 (by decide)
                    · skip
                      exact hs_some (hQ σ1_12 (0 : Int32) Iσ1_12 (show ((σ1_12.2 0).toInt = 0 ∧ 0 ≤ x1.toInt ∧ x1.toInt < (σ.2 1).toInt ∧ ¬ (x2.toInt < 0 ∨ 15 < x2.toInt ∨ x3.toInt < 1 ∨ 300 < x3.toInt) ∧ (σ.2 2).toInt < 60 ∧ (σ1_12.2 2).toInt = (σ.2 2).toInt + 1 ∧ (0) = (σ.2 2).toInt) ∨ ((σ1_12.2 0).toInt = 1 ∧ (x1.toInt < 0 ∨ (σ.2 1).toInt ≤ x1.toInt) ∧ (σ1_12.2 2).toInt = (σ.2 2).toInt) ∨ ((σ1_12.2 0).toInt = 2 ∧ 0 ≤ x1.toInt ∧ x1.toInt < (σ.2 1).toInt ∧ (x2.toInt < 0 ∨ 15 < x2.toInt ∨ x3.toInt < 1 ∨ 300 < x3.toInt) ∧ (σ1_12.2 2).toInt = (σ.2 2).toInt) ∨ ((σ1_12.2 0).toInt = 3 ∧ 0 ≤ x1.toInt ∧ x1.toInt < (σ.2 1).toInt ∧ ¬ (x2.toInt < 0 ∨ 15 < x2.toInt ∨ x3.toInt < 1 ∨ 300 < x3.toInt) ∧ 60 ≤ (σ.2 2).toInt ∧ (σ1_12.2 2).toInt = (σ.2 2).toInt) by omega))
                  · have : ¬ ((σ1_1.2 2) : Int32).toInt = (60) := fun z => h_11 (Int32.toInt_inj.mp z)
                    unfold fX10_fire_81
                    refine hs_th0 ?_
                    refine hs_ite (fun h_14 => ?_) (fun h_14 => ?_)
                    · skip
                      refine hs_pa (idx := (σ1_1.2 2)) (v := x1) Iσ1_1 (by omega) (by omega) ⟨(by omega : (0 : Int) ≤ (x1 : Int32).toInt), (by omega : (x1 : Int32).toInt ≤ 7)⟩ (fun r => ⟨hm_Ra (by decide) r.1, ra 3 (by decide) _ _ r.2⟩) (fun σ5_15 eσ5_15 Iσ5_15 => ?_)
                      have : (σ5_15.2 0).toInt = (σ1_1.2 0).toInt := by rw [eσ5_15]; rfl
                      have : (σ5_15.2 1).toInt = (σ1_1.2 1).toInt := by rw [eσ5_15]; rfl
                      have : (σ5_15.2 2).toInt = (σ1_1.2 2).toInt := by rw [eσ5_15]; rfl
                      have : (-2147483648 : Int) ≤ (σ5_15.2 0).toInt ∧ (σ5_15.2 0).toInt ≤ 2147483647 := Iσ5_15.2.1 0
                      have : (0 : Int) ≤ (σ5_15.2 1).toInt ∧ (σ5_15.2 1).toInt ≤ 8 := Iσ5_15.2.1 1
                      have : (0 : Int) ≤ (σ5_15.2 2).toInt ∧ (σ5_15.2 2).toInt ≤ 60 := Iσ5_15.2.1 2
                      refine hs_pa (idx := (σ5_15.2 2)) (v := _) Iσ5_15 (by omega) (by omega) (hs_any _) (fun r => ⟨hm_Ra (by decide) r.1, ra 4 (by decide) _ _ r.2⟩) (fun σ8_16 eσ8_16 Iσ8_16 => ?_)
                      have : (σ8_16.2 0).toInt = (σ5_15.2 0).toInt := by rw [eσ8_16]; rfl
                      have : (σ8_16.2 1).toInt = (σ5_15.2 1).toInt := by rw [eσ8_16]; rfl
                      have : (σ8_16.2 2).toInt = (σ5_15.2 2).toInt := by rw [eσ8_16]; rfl
                      have : (-2147483648 : Int) ≤ (σ8_16.2 0).toInt ∧ (σ8_16.2 0).toInt ≤ 2147483647 := Iσ8_16.2.1 0
                      have : (0 : Int) ≤ (σ8_16.2 1).toInt ∧ (σ8_16.2 1).toInt ≤ 8 := Iσ8_16.2.1 1
                      have : (0 : Int) ≤ (σ8_16.2 2).toInt ∧ (σ8_16.2 2).toInt ≤ 60 := Iσ8_16.2.1 2
                      refine hs_pa (idx := (σ8_16.2 2)) (v := _) Iσ8_16 (by omega) (by omega) (hs_any _) (fun r => ⟨hm_Ra (by decide) r.1, ra 5 (by decide) _ _ r.2⟩) (fun σ11_17 eσ11_17 Iσ11_17 => ?_)
                      have : (σ11_17.2 0).toInt = (σ8_16.2 0).toInt := by rw [eσ11_17]; rfl
                      have : (σ11_17.2 1).toInt = (σ8_16.2 1).toInt := by rw [eσ11_17]; rfl
                      have : (σ11_17.2 2).toInt = (σ8_16.2 2).toInt := by rw [eσ11_17]; rfl
                      have : (-2147483648 : Int) ≤ (σ11_17.2 0).toInt ∧ (σ11_17.2 0).toInt ≤ 2147483647 := Iσ11_17.2.1 0
                      have : (0 : Int) ≤ (σ11_17.2 1).toInt ∧ (σ11_17.2 1).toInt ≤ 8 := Iσ11_17.2.1 1
                      have : (0 : Int) ≤ (σ11_17.2 2).toInt ∧ (σ11_17.2 2).toInt ≤ 60 := Iσ11_17.2.1 2
                      refine hs_pa (idx := (σ11_17.2 2)) (v := (-1)) Iσ11_17 (by omega) (by omega) ⟨by decide, by decide⟩ (fun r => ⟨hm_R8 r.1, ra 8 (by decide) _ _ r.2⟩) (fun σ14_18 eσ14_18 Iσ14_18 => ?_)
                      have : (σ14_18.2 0).toInt = (σ11_17.2 0).toInt := by rw [eσ14_18]; rfl
                      have : (σ14_18.2 1).toInt = (σ11_17.2 1).toInt := by rw [eσ14_18]; rfl
                      have : (σ14_18.2 2).toInt = (σ11_17.2 2).toInt := by rw [eσ14_18]; rfl
                      have : (-2147483648 : Int) ≤ (σ14_18.2 0).toInt ∧ (σ14_18.2 0).toInt ≤ 2147483647 := Iσ14_18.2.1 0
                      have : (0 : Int) ≤ (σ14_18.2 1).toInt ∧ (σ14_18.2 1).toInt ≤ 8 := Iσ14_18.2.1 1
                      have : (0 : Int) ≤ (σ14_18.2 2).toInt ∧ (σ14_18.2 2).toInt ≤ 60 := Iσ14_18.2.1 2
                      have : (σ14_18.1 8 ((σ11_17.2 2) : Int32).toNatClampNeg).toInt = (-1) := by rw [eσ14_18]; exact hs_same _ _ _ _
                      have : (-1 : Int) ≤ (σ14_18.1 8 ((σ11_17.2 2) : Int32).toNatClampNeg).toInt ∧ (σ14_18.1 8 ((σ11_17.2 2) : Int32).toNatClampNeg).toInt ≤ 23 := Iσ14_18.1 8 _
                      obtain ⟨e_19, he_19⟩ : ∃ e9 : Int32, e9 = ((σ14_18.2 2) + 1) := ⟨_, rfl⟩
                      try have : e_19.toInt = ((σ14_18.2 2) : Int32).toInt + (1) := by rw [he_19]; exact hs_addk (1) rfl (by omega) (by omega)
                      try rw [← he_19]
                      refine hs_pf (v := e_19) Iσ14_18 ⟨(by omega : (0 : Int) ≤ (e_19 : Int32).toInt), (by omega : (e_19 : Int32).toInt ≤ 60)⟩ (fun r => ⟨hm_R2 (by rw [eσ14_18]; exact hs_sameN _ _) (by omega) (by omega) r.1, ri 2 (by decide) _ _ r.2⟩) (fun σ17_20 eσ17_20 Iσ17_20 => ?_)
                      have : (σ17_20.2 0).toInt = (σ14_18.2 0).toInt := by rw [eσ17_20]; rfl
                      have : (σ17_20.2 1).toInt = (σ14_18.2 1).toInt := by rw [eσ17_20]; rfl
                      have : (σ17_20.2 2).toInt = (e_19 : Int32).toInt := by rw [eσ17_20]; rfl
                      have : (-2147483648 : Int) ≤ (σ17_20.2 0).toInt ∧ (σ17_20.2 0).toInt ≤ 2147483647 := Iσ17_20.2.1 0
                      have : (0 : Int) ≤ (σ17_20.2 1).toInt ∧ (σ17_20.2 1).toInt ≤ 8 := Iσ17_20.2.1 1
                      have : (0 : Int) ≤ (σ17_20.2 2).toInt ∧ (σ17_20.2 2).toInt ≤ 60 := Iσ17_20.2.1 2
                      have : (σ17_20.1 8 ((σ11_17.2 2) : Int32).toNatClampNeg).toInt = (σ14_18.1 8 ((σ11_17.2 2) : Int32).toNatClampNeg).toInt := by rw [eσ17_20]; rfl
                      have : (-1 : Int) ≤ (σ17_20.1 8 ((σ11_17.2 2) : Int32).toNatClampNeg).toInt ∧ (σ17_20.1 8 ((σ11_17.2 2) : Int32).toNatClampNeg).toInt ≤ 23 := Iσ17_20.1 8 _
                      obtain ⟨e_21, he_21⟩ : ∃ e9 : Int32, e9 = ((σ17_20.2 2) - 1) := ⟨_, rfl⟩
                      try have : e_21.toInt = ((σ17_20.2 2) : Int32).toInt - (1) := by rw [he_21]; exact hs_subk (1) rfl (by omega) (by omega)
                      try rw [← he_21]
                      exact hs_some (hQ σ17_20 (e_21 : Int32) Iσ17_20 (show ((σ17_20.2 0).toInt = 0 ∧ 0 ≤ x1.toInt ∧ x1.toInt < (σ.2 1).toInt ∧ ¬ (x2.toInt < 0 ∨ 15 < x2.toInt ∨ x3.toInt < 1 ∨ 300 < x3.toInt) ∧ (σ.2 2).toInt < 60 ∧ (σ17_20.2 2).toInt = (σ.2 2).toInt + 1 ∧ (e_21 : Int32).toInt = (σ.2 2).toInt) ∨ ((σ17_20.2 0).toInt = 1 ∧ (x1.toInt < 0 ∨ (σ.2 1).toInt ≤ x1.toInt) ∧ (σ17_20.2 2).toInt = (σ.2 2).toInt) ∨ ((σ17_20.2 0).toInt = 2 ∧ 0 ≤ x1.toInt ∧ x1.toInt < (σ.2 1).toInt ∧ (x2.toInt < 0 ∨ 15 < x2.toInt ∨ x3.toInt < 1 ∨ 300 < x3.toInt) ∧ (σ17_20.2 2).toInt = (σ.2 2).toInt) ∨ ((σ17_20.2 0).toInt = 3 ∧ 0 ≤ x1.toInt ∧ x1.toInt < (σ.2 1).toInt ∧ ¬ (x2.toInt < 0 ∨ 15 < x2.toInt ∨ x3.toInt < 1 ∨ 300 < x3.toInt) ∧ 60 ≤ (σ.2 2).toInt ∧ (σ17_20.2 2).toInt = (σ.2 2).toInt) by omega))
                    · exact absurd (by decide) h_14
                · exact absurd (by decide) h_10
            · skip
              refine hs_ite (fun h_22 => ?_) (fun h_22 => ?_)
              · skip
                unfold fX10_fire_54
                unfold fX10_fire_59
                refine hs_th1 Iσ1_1 (hs_any _) (fun r => ⟨hm_Ri (by decide) r.1, ri 0 (by decide) _ _ r.2⟩) (fun σ1_23 eσ1_23 Iσ1_23 => ?_)
                have : (σ1_23.2 0).toInt = (2) := by rw [eσ1_23]; rfl
                have : (σ1_23.2 1).toInt = (σ1_1.2 1).toInt := by rw [eσ1_23]; rfl
                have : (σ1_23.2 2).toInt = (σ1_1.2 2).toInt := by rw [eσ1_23]; rfl
                have : (-2147483648 : Int) ≤ (σ1_23.2 0).toInt ∧ (σ1_23.2 0).toInt ≤ 2147483647 := Iσ1_23.2.1 0
                have : (0 : Int) ≤ (σ1_23.2 1).toInt ∧ (σ1_23.2 1).toInt ≤ 8 := Iσ1_23.2.1 1
                have : (0 : Int) ≤ (σ1_23.2 2).toInt ∧ (σ1_23.2 2).toInt ≤ 60 := Iσ1_23.2.1 2
                refine hs_ite (fun h_24 => ?_) (fun h_24 => ?_)
                · exact absurd h_24 (by decide)
                · skip
                  exact hs_some (hQ σ1_23 (0 : Int32) Iσ1_23 (show ((σ1_23.2 0).toInt = 0 ∧ 0 ≤ x1.toInt ∧ x1.toInt < (σ.2 1).toInt ∧ ¬ (x2.toInt < 0 ∨ 15 < x2.toInt ∨ x3.toInt < 1 ∨ 300 < x3.toInt) ∧ (σ.2 2).toInt < 60 ∧ (σ1_23.2 2).toInt = (σ.2 2).toInt + 1 ∧ (0) = (σ.2 2).toInt) ∨ ((σ1_23.2 0).toInt = 1 ∧ (x1.toInt < 0 ∨ (σ.2 1).toInt ≤ x1.toInt) ∧ (σ1_23.2 2).toInt = (σ.2 2).toInt) ∨ ((σ1_23.2 0).toInt = 2 ∧ 0 ≤ x1.toInt ∧ x1.toInt < (σ.2 1).toInt ∧ (x2.toInt < 0 ∨ 15 < x2.toInt ∨ x3.toInt < 1 ∨ 300 < x3.toInt) ∧ (σ1_23.2 2).toInt = (σ.2 2).toInt) ∨ ((σ1_23.2 0).toInt = 3 ∧ 0 ≤ x1.toInt ∧ x1.toInt < (σ.2 1).toInt ∧ ¬ (x2.toInt < 0 ∨ 15 < x2.toInt ∨ x3.toInt < 1 ∨ 300 < x3.toInt) ∧ 60 ≤ (σ.2 2).toInt ∧ (σ1_23.2 2).toInt = (σ.2 2).toInt) by omega))
              · exact absurd (by decide) h_22
        · skip
          refine hs_ite (fun h_25 => ?_) (fun h_25 => ?_)
          · skip
            unfold fX10_fire_54
            unfold fX10_fire_59
            refine hs_th1 Iσ1_1 (hs_any _) (fun r => ⟨hm_Ri (by decide) r.1, ri 0 (by decide) _ _ r.2⟩) (fun σ1_26 eσ1_26 Iσ1_26 => ?_)
            have : (σ1_26.2 0).toInt = (2) := by rw [eσ1_26]; rfl
            have : (σ1_26.2 1).toInt = (σ1_1.2 1).toInt := by rw [eσ1_26]; rfl
            have : (σ1_26.2 2).toInt = (σ1_1.2 2).toInt := by rw [eσ1_26]; rfl
            have : (-2147483648 : Int) ≤ (σ1_26.2 0).toInt ∧ (σ1_26.2 0).toInt ≤ 2147483647 := Iσ1_26.2.1 0
            have : (0 : Int) ≤ (σ1_26.2 1).toInt ∧ (σ1_26.2 1).toInt ≤ 8 := Iσ1_26.2.1 1
            have : (0 : Int) ≤ (σ1_26.2 2).toInt ∧ (σ1_26.2 2).toInt ≤ 60 := Iσ1_26.2.1 2
            refine hs_ite (fun h_27 => ?_) (fun h_27 => ?_)
            · exact absurd h_27 (by decide)
            · skip
              exact hs_some (hQ σ1_26 (0 : Int32) Iσ1_26 (show ((σ1_26.2 0).toInt = 0 ∧ 0 ≤ x1.toInt ∧ x1.toInt < (σ.2 1).toInt ∧ ¬ (x2.toInt < 0 ∨ 15 < x2.toInt ∨ x3.toInt < 1 ∨ 300 < x3.toInt) ∧ (σ.2 2).toInt < 60 ∧ (σ1_26.2 2).toInt = (σ.2 2).toInt + 1 ∧ (0) = (σ.2 2).toInt) ∨ ((σ1_26.2 0).toInt = 1 ∧ (x1.toInt < 0 ∨ (σ.2 1).toInt ≤ x1.toInt) ∧ (σ1_26.2 2).toInt = (σ.2 2).toInt) ∨ ((σ1_26.2 0).toInt = 2 ∧ 0 ≤ x1.toInt ∧ x1.toInt < (σ.2 1).toInt ∧ (x2.toInt < 0 ∨ 15 < x2.toInt ∨ x3.toInt < 1 ∨ 300 < x3.toInt) ∧ (σ1_26.2 2).toInt = (σ.2 2).toInt) ∨ ((σ1_26.2 0).toInt = 3 ∧ 0 ≤ x1.toInt ∧ x1.toInt < (σ.2 1).toInt ∧ ¬ (x2.toInt < 0 ∨ 15 < x2.toInt ∨ x3.toInt < 1 ∨ 300 < x3.toInt) ∧ 60 ≤ (σ.2 2).toInt ∧ (σ1_26.2 2).toInt = (σ.2 2).toInt) by omega))
          · exact absurd (by decide) h_25
      · exact absurd (by decide) h_5
  · skip
    refine hs_ite (fun h_28 => ?_) (fun h_28 => ?_)
    · skip
      unfold fX10_fire_25
      refine hs_th1 Iσ1_1 (hs_any _) (fun r => ⟨hm_Ri (by decide) r.1, ri 0 (by decide) _ _ r.2⟩) (fun σ1_29 eσ1_29 Iσ1_29 => ?_)
      have : (σ1_29.2 0).toInt = (1) := by rw [eσ1_29]; rfl
      have : (σ1_29.2 1).toInt = (σ1_1.2 1).toInt := by rw [eσ1_29]; rfl
      have : (σ1_29.2 2).toInt = (σ1_1.2 2).toInt := by rw [eσ1_29]; rfl
      have : (-2147483648 : Int) ≤ (σ1_29.2 0).toInt ∧ (σ1_29.2 0).toInt ≤ 2147483647 := Iσ1_29.2.1 0
      have : (0 : Int) ≤ (σ1_29.2 1).toInt ∧ (σ1_29.2 1).toInt ≤ 8 := Iσ1_29.2.1 1
      have : (0 : Int) ≤ (σ1_29.2 2).toInt ∧ (σ1_29.2 2).toInt ≤ 60 := Iσ1_29.2.1 2
      refine hs_ite (fun h_30 => ?_) (fun h_30 => ?_)
      · exact absurd h_30 (by decide)
      · skip
        exact hs_some (hQ σ1_29 (0 : Int32) Iσ1_29 (show ((σ1_29.2 0).toInt = 0 ∧ 0 ≤ x1.toInt ∧ x1.toInt < (σ.2 1).toInt ∧ ¬ (x2.toInt < 0 ∨ 15 < x2.toInt ∨ x3.toInt < 1 ∨ 300 < x3.toInt) ∧ (σ.2 2).toInt < 60 ∧ (σ1_29.2 2).toInt = (σ.2 2).toInt + 1 ∧ (0) = (σ.2 2).toInt) ∨ ((σ1_29.2 0).toInt = 1 ∧ (x1.toInt < 0 ∨ (σ.2 1).toInt ≤ x1.toInt) ∧ (σ1_29.2 2).toInt = (σ.2 2).toInt) ∨ ((σ1_29.2 0).toInt = 2 ∧ 0 ≤ x1.toInt ∧ x1.toInt < (σ.2 1).toInt ∧ (x2.toInt < 0 ∨ 15 < x2.toInt ∨ x3.toInt < 1 ∨ 300 < x3.toInt) ∧ (σ1_29.2 2).toInt = (σ.2 2).toInt) ∨ ((σ1_29.2 0).toInt = 3 ∧ 0 ≤ x1.toInt ∧ x1.toInt < (σ.2 1).toInt ∧ ¬ (x2.toInt < 0 ∨ 15 < x2.toInt ∨ x3.toInt < 1 ∨ 300 < x3.toInt) ∧ 60 ≤ (σ.2 2).toInt ∧ (σ1_29.2 2).toInt = (σ.2 2).toInt) by omega))
    · exact absurd (by decide) h_28
theorem s_fX10_fill {R : hy_S → Prop} (ra : ∀ j, j ∈ ([6] : List Nat) → ∀ (τ : hy_S) (g : Nat → Int32), R τ → R (hy_sc τ j g)) (ri : ∀ j, j ∈ ([0] : List Nat) → ∀ (τ : hy_S) (v : Int32), R τ → R (hy_si τ j v)) (σ : hy_S) (x1 : Int32) (x2 : Int32) {P : hy_S → Int32 → Prop} (I : hm_I R σ) (hQ : ∀ (σ9 : hy_S) (v9 : Int32), hm_I R σ9 → P σ9 v9) : hs_ok2 (fX10_fill σ x1 x2) P := by
  unfold fX10_fill
  show hs_ok _ _
  have : (-2147483648 : Int) ≤ (σ.2 0).toInt ∧ (σ.2 0).toInt ≤ 2147483647 := I.2.1 0
  have : (0 : Int) ≤ (σ.2 2).toInt ∧ (σ.2 2).toInt ≤ 60 := I.2.1 2
  refine hs_pf (v := 0) I (hs_any _) (fun r => ⟨hm_Ri (by decide) r.1, ri 0 (by decide) _ _ r.2⟩) (fun σ1_1 eσ1_1 Iσ1_1 => ?_)
  have : (σ1_1.2 0).toInt = (0) := by rw [eσ1_1]; rfl
  have : (σ1_1.2 2).toInt = (σ.2 2).toInt := by rw [eσ1_1]; rfl
  have : (-2147483648 : Int) ≤ (σ1_1.2 0).toInt ∧ (σ1_1.2 0).toInt ≤ 2147483647 := Iσ1_1.2.1 0
  have : (0 : Int) ≤ (σ1_1.2 2).toInt ∧ (σ1_1.2 2).toInt ≤ 60 := Iσ1_1.2.1 2
  refine hs_noJ (by omega) (fun (u_2_0 : (0 : Int) ≤ (x1 : Int32).toInt) (u_2_1 : (x1 : Int32).toInt < (σ1_1.2 2).toInt) => ?_) (fun (u_2_0 : (x1 : Int32).toInt < 0 ∨ (σ1_1.2 2).toInt ≤ (x1 : Int32).toInt) => ?_)
  · skip
    refine hs_th0 ?_
    refine hs_ite (fun h_3 => ?_) (fun h_3 => ?_)
    · skip
      refine hs_bIn (fun (u_4_0 : (1) ≤ (x2 : Int32).toInt) (u_4_1 : (x2 : Int32).toInt ≤ (200)) => ?_) (fun (u_4_0 : (x2 : Int32).toInt < (1) ∨ (200) < (x2 : Int32).toInt) => ?_)
      · skip
        refine hs_ite (fun h_5 => ?_) (fun h_5 => ?_)
        · exact absurd h_5 (by decide)
        · skip
          unfold fX10_fill_35
          refine hs_th0 ?_
          refine hs_ite (fun h_6 => ?_) (fun h_6 => ?_)
          · skip
            refine hs_ga (j := 7) Iσ1_1 (by omega) (by omega) (fun v5_7 ev5_7 (bv5_7 : (-2147483648 : Int) ≤ v5_7.toInt ∧ v5_7.toInt ≤ 2147483647) => ?_)
            refine hs_ite (fun h_8 => ?_) (fun h_8 => ?_)
            · have : (v5_7 : Int32).toInt = (0) := congrArg Int32.toInt h_8
              refine hs_ga (j := 6) Iσ1_1 (by omega) (by omega) (fun v9_9 ev9_9 (bv9_9 : (-2147483648 : Int) ≤ v9_9.toInt ∧ v9_9.toInt ≤ 2147483647) => ?_)
              refine hs_ga (j := 3) Iσ1_1 (by omega) (by omega) (fun v12_10 ev12_10 (bv12_10 : (0 : Int) ≤ v12_10.toInt ∧ v12_10.toInt ≤ 7) => ?_)
              refine hs_ga (j := 1) Iσ1_1 (by omega) (by omega) (fun v15_11 ev15_11 (bv15_11 : (-2147483648 : Int) ≤ v15_11.toInt ∧ v15_11.toInt ≤ 2147483647) => ?_)
              obtain ⟨e_12, he_12⟩ : ∃ e9 : Int32, e9 = (v9_9 + x2) := ⟨_, rfl⟩
              try have : e_12.toInt = (v9_9 : Int32).toInt + (x2 : Int32).toInt := by rw [he_12]; exact hs_add (by omega) (by omega)
              try rw [← he_12]
              refine hs_ite (fun h_13 => ?_) (fun h_13 => ?_)
              · have : (e_12 : Int32).toInt ≤ (v15_11 : Int32).toInt := Int32.le_iff_toInt_le.mp h_13
                refine hs_ga (j := 6) Iσ1_1 (by omega) (by omega) (fun v19_14 ev19_14 (bv19_14 : (-2147483648 : Int) ≤ v19_14.toInt ∧ v19_14.toInt ≤ 2147483647) => ?_)
                refine hs_pa (idx := x1) (v := _) Iσ1_1 (by omega) (by omega) (hs_any _) (fun r => ⟨hm_Ra (by decide) r.1, ra 6 (by decide) _ _ r.2⟩) (fun σ22_15 eσ22_15 Iσ22_15 => ?_)
                have : (σ22_15.2 0).toInt = (σ1_1.2 0).toInt := by rw [eσ22_15]; rfl
                have : (σ22_15.2 2).toInt = (σ1_1.2 2).toInt := by rw [eσ22_15]; rfl
                have : (-2147483648 : Int) ≤ (σ22_15.2 0).toInt ∧ (σ22_15.2 0).toInt ≤ 2147483647 := Iσ22_15.2.1 0
                have : (0 : Int) ≤ (σ22_15.2 2).toInt ∧ (σ22_15.2 2).toInt ≤ 60 := Iσ22_15.2.1 2
                refine hs_ga (j := 6) Iσ22_15 (by omega) (by omega) (fun v25_16 ev25_16 (bv25_16 : (-2147483648 : Int) ≤ v25_16.toInt ∧ v25_16.toInt ≤ 2147483647) => ?_)
                exact hs_some (hQ σ22_15 (v25_16 : Int32) Iσ22_15 )
              · have : ¬ (e_12 : Int32).toInt ≤ (v15_11 : Int32).toInt := fun z => h_13 (Int32.le_iff_toInt_le.mpr z)
                exact hs_some (hQ σ1_1 ((-1) : Int32) Iσ1_1 )
            · have : ¬ (v5_7 : Int32).toInt = (0) := fun z => h_8 (Int32.toInt_inj.mp z)
              exact hs_some (hQ σ1_1 ((-1) : Int32) Iσ1_1 )
          · exact absurd (by decide) h_6
      · skip
        refine hs_ite (fun h_17 => ?_) (fun h_17 => ?_)
        · skip
          unfold fX10_fill_35
          refine hs_th1 Iσ1_1 (hs_any _) (fun r => ⟨hm_Ri (by decide) r.1, ri 0 (by decide) _ _ r.2⟩) (fun σ1_18 eσ1_18 Iσ1_18 => ?_)
          have : (σ1_18.2 0).toInt = (2) := by rw [eσ1_18]; rfl
          have : (σ1_18.2 2).toInt = (σ1_1.2 2).toInt := by rw [eσ1_18]; rfl
          have : (-2147483648 : Int) ≤ (σ1_18.2 0).toInt ∧ (σ1_18.2 0).toInt ≤ 2147483647 := Iσ1_18.2.1 0
          have : (0 : Int) ≤ (σ1_18.2 2).toInt ∧ (σ1_18.2 2).toInt ≤ 60 := Iσ1_18.2.1 2
          refine hs_ite (fun h_19 => ?_) (fun h_19 => ?_)
          · exact absurd h_19 (by decide)
          · skip
            exact hs_some (hQ σ1_18 (0 : Int32) Iσ1_18 )
        · exact absurd (by decide) h_17
    · exact absurd (by decide) h_3
  · skip
    refine hs_th1 Iσ1_1 (hs_any _) (fun r => ⟨hm_Ri (by decide) r.1, ri 0 (by decide) _ _ r.2⟩) (fun σ6_20 eσ6_20 Iσ6_20 => ?_)
    have : (σ6_20.2 0).toInt = (1) := by rw [eσ6_20]; rfl
    have : (σ6_20.2 2).toInt = (σ1_1.2 2).toInt := by rw [eσ6_20]; rfl
    have : (-2147483648 : Int) ≤ (σ6_20.2 0).toInt ∧ (σ6_20.2 0).toInt ≤ 2147483647 := Iσ6_20.2.1 0
    have : (0 : Int) ≤ (σ6_20.2 2).toInt ∧ (σ6_20.2 2).toInt ≤ 60 := Iσ6_20.2.1 2
    refine hs_ite (fun h_21 => ?_) (fun h_21 => ?_)
    · exact absurd h_21 (by decide)
    · skip
      exact hs_some (hQ σ6_20 (0 : Int32) Iσ6_20 )
theorem s_fX10_ship {R : hy_S → Prop} (ra : ∀ j, j ∈ ([] : List Nat) → ∀ (τ : hy_S) (g : Nat → Int32), R τ → R (hy_sc τ j g)) (ri : ∀ j, j ∈ ([0, 3] : List Nat) → ∀ (τ : hy_S) (v : Int32), R τ → R (hy_si τ j v)) (σ : hy_S) {P : hy_S → Int32 → Prop} (I : hm_I R σ) (hQ : ∀ (σ9 : hy_S) (v9 : Int32), hm_I R σ9 → ((σ9.2 0).toInt = 0 ∧ (σ.2 3).toInt < 4 ∧ (σ9.2 3).toInt = (σ.2 3).toInt + 1 ∧ v9.toInt = (σ.2 3).toInt) ∨ ((σ9.2 0).toInt = 1 ∧ 4 ≤ (σ.2 3).toInt ∧ (σ9.2 3).toInt = (σ.2 3).toInt) → P σ9 v9) : hs_ok2 (fX10_ship σ ) P := by
  unfold fX10_ship
  show hs_ok _ _
  have : (-2147483648 : Int) ≤ (σ.2 0).toInt ∧ (σ.2 0).toInt ≤ 2147483647 := I.2.1 0
  have : (0 : Int) ≤ (σ.2 3).toInt ∧ (σ.2 3).toInt ≤ 4 := I.2.1 3
  refine hs_pf (v := 0) I (hs_any _) (fun r => ⟨hm_Ri (by decide) r.1, ri 0 (by decide) _ _ r.2⟩) (fun σ1_1 eσ1_1 Iσ1_1 => ?_)
  have : (σ1_1.2 0).toInt = (0) := by rw [eσ1_1]; rfl
  have : (σ1_1.2 3).toInt = (σ.2 3).toInt := by rw [eσ1_1]; rfl
  have : (-2147483648 : Int) ≤ (σ1_1.2 0).toInt ∧ (σ1_1.2 0).toInt ≤ 2147483647 := Iσ1_1.2.1 0
  have : (0 : Int) ≤ (σ1_1.2 3).toInt ∧ (σ1_1.2 3).toInt ≤ 4 := Iσ1_1.2.1 3
  refine hs_ite (fun h_2 => ?_) (fun h_2 => ?_)
  · have : ((σ1_1.2 3) : Int32).toInt = (4) := congrArg Int32.toInt h_2
    unfold fX10_ship_19
    refine hs_th1 Iσ1_1 (hs_any _) (fun r => ⟨hm_Ri (by decide) r.1, ri 0 (by decide) _ _ r.2⟩) (fun σ1_3 eσ1_3 Iσ1_3 => ?_)
    have : (σ1_3.2 0).toInt = (1) := by rw [eσ1_3]; rfl
    have : (σ1_3.2 3).toInt = (σ1_1.2 3).toInt := by rw [eσ1_3]; rfl
    have : (-2147483648 : Int) ≤ (σ1_3.2 0).toInt ∧ (σ1_3.2 0).toInt ≤ 2147483647 := Iσ1_3.2.1 0
    have : (0 : Int) ≤ (σ1_3.2 3).toInt ∧ (σ1_3.2 3).toInt ≤ 4 := Iσ1_3.2.1 3
    refine hs_ite (fun h_4 => ?_) (fun h_4 => ?_)
    · exact absurd h_4 (by decide)
    · skip
      exact hs_some (hQ σ1_3 (0 : Int32) Iσ1_3 (show ((σ1_3.2 0).toInt = 0 ∧ (σ.2 3).toInt < 4 ∧ (σ1_3.2 3).toInt = (σ.2 3).toInt + 1 ∧ (0) = (σ.2 3).toInt) ∨ ((σ1_3.2 0).toInt = 1 ∧ 4 ≤ (σ.2 3).toInt ∧ (σ1_3.2 3).toInt = (σ.2 3).toInt) by omega))
  · have : ¬ ((σ1_1.2 3) : Int32).toInt = (4) := fun z => h_2 (Int32.toInt_inj.mp z)
    unfold fX10_ship_19
    refine hs_th0 ?_
    refine hs_ite (fun h_5 => ?_) (fun h_5 => ?_)
    · skip
      obtain ⟨e_6, he_6⟩ : ∃ e9 : Int32, e9 = ((σ1_1.2 3) + 1) := ⟨_, rfl⟩
      try have : e_6.toInt = ((σ1_1.2 3) : Int32).toInt + (1) := by rw [he_6]; exact hs_addk (1) rfl (by omega) (by omega)
      try rw [← he_6]
      refine hs_pf (v := e_6) Iσ1_1 ⟨(by omega : (0 : Int) ≤ (e_6 : Int32).toInt), (by omega : (e_6 : Int32).toInt ≤ 4)⟩ (fun r => ⟨hm_Ri (by decide) r.1, ri 3 (by decide) _ _ r.2⟩) (fun σ5_7 eσ5_7 Iσ5_7 => ?_)
      have : (σ5_7.2 0).toInt = (σ1_1.2 0).toInt := by rw [eσ5_7]; rfl
      have : (σ5_7.2 3).toInt = (e_6 : Int32).toInt := by rw [eσ5_7]; rfl
      have : (-2147483648 : Int) ≤ (σ5_7.2 0).toInt ∧ (σ5_7.2 0).toInt ≤ 2147483647 := Iσ5_7.2.1 0
      have : (0 : Int) ≤ (σ5_7.2 3).toInt ∧ (σ5_7.2 3).toInt ≤ 4 := Iσ5_7.2.1 3
      obtain ⟨e_8, he_8⟩ : ∃ e9 : Int32, e9 = ((σ5_7.2 3) - 1) := ⟨_, rfl⟩
      try have : e_8.toInt = ((σ5_7.2 3) : Int32).toInt - (1) := by rw [he_8]; exact hs_subk (1) rfl (by omega) (by omega)
      try rw [← he_8]
      exact hs_some (hQ σ5_7 (e_8 : Int32) Iσ5_7 (show ((σ5_7.2 0).toInt = 0 ∧ (σ.2 3).toInt < 4 ∧ (σ5_7.2 3).toInt = (σ.2 3).toInt + 1 ∧ (e_8 : Int32).toInt = (σ.2 3).toInt) ∨ ((σ5_7.2 0).toInt = 1 ∧ 4 ≤ (σ.2 3).toInt ∧ (σ5_7.2 3).toInt = (σ.2 3).toInt) by omega))
    · exact absurd (by decide) h_5
theorem s_fX10_above_7 {R : hy_S → Prop} {Q : hy_S × Int32 → Prop} : ∀ (n : Nat) (σ : hy_S) (x1 : Int32) (x3 : Int32) (x4 : Int32), hm_I R σ → 0 ≤ x1.toInt → x1.toInt < 24 → 0 ≤ x4.toInt → x4.toInt ≤ 10 → 10 - x4.toInt < (n : Int) → (∀ v9 : Int32, Q (σ, v9)) → hs_ok (fX10_above_7 n σ x1 x3 x4) Q := by
  intro n
  induction n with
  | zero =>
    intro σ x1 x3 x4 I p0 p1 p2 p3  hm hQ
    exact absurd hm (by omega)
  | succ n ih =>
    intro σ x1 x3 x4 I p0 p1 p2 p3  hm hQ
    unfold fX10_above_7
    refine hs_ga (j := 10) I (by omega) (by omega) (fun v1_1 ev1_1 (bv1_1 : (0 : Int) ≤ v1_1.toInt ∧ v1_1.toInt ≤ 10) => ?_)
    have : (σ.1 10 (x1 : Int32).toNatClampNeg).toInt = v1_1.toInt := by rw [ev1_1]
    refine hs_ite (fun h_2 => ?_) (fun h_2 => ?_)
    · have : (v1_1 : Int32).toInt ≤ (x4 : Int32).toInt := Int32.le_iff_toInt_le.mp h_2
      exact hs_some (hQ (x3 : Int32) )
    · have : ¬ (v1_1 : Int32).toInt ≤ (x4 : Int32).toInt := fun z => h_2 (Int32.le_iff_toInt_le.mpr z)
      obtain ⟨e_3, he_3⟩ : ∃ e9 : Int32, e9 = (10 * x1) := ⟨_, rfl⟩
      try have : e_3.toInt = (10) * (x1 : Int32).toInt := by rw [he_3]; exact hs_mull (10) rfl (by omega) (by omega)
      try rw [← he_3]
      obtain ⟨e_4, he_4⟩ : ∃ e9 : Int32, e9 = (e_3 + x4) := ⟨_, rfl⟩
      try have : e_4.toInt = (e_3 : Int32).toInt + (x4 : Int32).toInt := by rw [he_4]; exact hs_add (by omega) (by omega)
      try rw [← he_4]
      refine hs_ga (j := 9) I (by omega) (by omega) (fun v5_5 ev5_5 (bv5_5 : (0 : Int) ≤ v5_5.toInt ∧ v5_5.toInt ≤ 59) => ?_)
      refine hs_bd (s_fX10_weight σ v5_5 I (show 0 ≤ (v5_5 : Int32).toInt by omega) (show (v5_5 : Int32).toInt < 60 by omega) (fun v9_6  => ?_))
      obtain ⟨e_7, he_7⟩ : ∃ e9 : Int32, e9 = (x3 + v9_6) := ⟨_, rfl⟩
      try have : e_7.toInt = (x3 : Int32).toInt + (v9_6 : Int32).toInt := by rw [he_7]; exact hs_add (by omega) (by omega)
      try rw [← he_7]
      obtain ⟨e_8, he_8⟩ : ∃ e9 : Int32, e9 = (x4 + 1) := ⟨_, rfl⟩
      try have : e_8.toInt = (x4 : Int32).toInt + (1) := by rw [he_8]; exact hs_addk (1) rfl (by omega) (by omega)
      try rw [← he_8]
      exact ih σ (x1 : Int32) (e_7 : Int32) (e_8 : Int32) I (show 0 ≤ (x1 : Int32).toInt by omega) (show (x1 : Int32).toInt < 24 by omega) (show 0 ≤ (e_8 : Int32).toInt by omega) (show (e_8 : Int32).toInt ≤ 10 by omega)  (by omega) hQ
theorem s_fX10_above {R : hy_S → Prop} (σ : hy_S) (x1 : Int32) (x2 : Int32) {P : hy_S → Int32 → Prop} (I : hm_I R σ) (p0 : 0 ≤ x1.toInt) (p1 : x1.toInt < 24) (p2 : 0 ≤ x2.toInt) (p3 : x2.toInt ≤ 9) (hQ : ∀ v9 : Int32, P σ v9) : hs_ok2 (fX10_above σ x1 x2) P := by
  unfold fX10_above
  show hs_ok _ _
  obtain ⟨e_1, he_1⟩ : ∃ e9 : Int32, e9 = (x2 + 1) := ⟨_, rfl⟩
  try have : e_1.toInt = (x2 : Int32).toInt + (1) := by rw [he_1]; exact hs_addk (1) rfl (by omega) (by omega)
  try rw [← he_1]
  have hfu : ((hy_fu : Nat) : Int) = 5000 := rfl
  refine s_fX10_above_7   hy_fu σ (x1 : Int32) (0 : Int32) (e_1 : Int32) I (show 0 ≤ (x1 : Int32).toInt by omega) (show (x1 : Int32).toInt < 24 by omega) (show 0 ≤ (e_1 : Int32).toInt by omega) (show (e_1 : Int32).toInt ≤ 10 by omega)  (show 10 - (e_1 : Int32).toInt < ((hy_fu : Nat) : Int) by rw [hfu]; omega) (fun v_2  => ?_)
  exact (hQ (v_2 : Int32) )
theorem s_fX10_load_71 {R : hy_S → Prop} (ra : ∀ j, j ∈ ([7, 8, 9, 10] : List Nat) → ∀ (τ : hy_S) (g : Nat → Int32), R τ → R (hy_sc τ j g)) (ri : ∀ j, j ∈ ([] : List Nat) → ∀ (τ : hy_S) (v : Int32), R τ → R (hy_si τ j v)) {Q : hy_S × Int32 → Prop} (hQ : ∀ (σ9 : hy_S) (v9 : Int32), hm_I R σ9 → Q (σ9, v9)) : ∀ (n : Nat) (σ : hy_S) (x1 : Int32) (x4 : Int32) (x5 : Int32), hm_I R σ → 0 ≤ x1.toInt → x1.toInt < 60 → 0 ≤ x4.toInt → x4.toInt < 24 → 0 ≤ x5.toInt → x5.toInt ≤ 10 → (σ.1 10 (x4 : Int32).toNatClampNeg).toInt < 10 → 10 - x5.toInt < (n : Int) → hs_ok (fX10_load_71 n σ x1 x4 x5) Q := by
  intro n
  induction n with
  | zero =>
    intro σ x1 x4 x5 I p0 p1 p2 p3 p4 p5 p6  hm
    exact absurd hm (by omega)
  | succ n ih =>
    intro σ x1 x4 x5 I p0 p1 p2 p3 p4 p5 p6  hm
    unfold fX10_load_71
    have : (0 : Int) ≤ (σ.1 10 (x4 : Int32).toNatClampNeg).toInt ∧ (σ.1 10 (x4 : Int32).toNatClampNeg).toInt ≤ 10 := I.1 10 _
    refine hs_ga (j := 10) I (by omega) (by omega) (fun v1_1 ev1_1 (bv1_1 : (0 : Int) ≤ v1_1.toInt ∧ v1_1.toInt ≤ 10) => ?_)
    have : (σ.1 10 (x4 : Int32).toNatClampNeg).toInt = v1_1.toInt := by rw [ev1_1]
    refine hs_ite (fun h_2 => ?_) (fun h_2 => ?_)
    · have : (v1_1 : Int32).toInt ≤ (x5 : Int32).toInt := Int32.le_iff_toInt_le.mp h_2
      exact s_load_tail (fun j h => ra j (hs_inc (by decide) h)) σ x1 x4 I (by omega) (by omega) (by omega) (by omega) (by omega) hQ
    · have : ¬ (v1_1 : Int32).toInt ≤ (x5 : Int32).toInt := fun z => h_2 (Int32.le_iff_toInt_le.mpr z)
      refine hs_bd (s_fX10_above σ x4 x5 I (show 0 ≤ (x4 : Int32).toInt by omega) (show (x4 : Int32).toInt < 24 by omega) (show 0 ≤ (x5 : Int32).toInt by omega) (show (x5 : Int32).toInt ≤ 9 by omega) (fun v24_3  => ?_))
      refine hs_bd (s_fX10_weight σ x1 I (show 0 ≤ (x1 : Int32).toInt by omega) (show (x1 : Int32).toInt < 60 by omega) (fun v27_4  => ?_))
      obtain ⟨e_5, he_5⟩ : ∃ e9 : Int32, e9 = (10 * x4) := ⟨_, rfl⟩
      try have : e_5.toInt = (10) * (x4 : Int32).toInt := by rw [he_5]; exact hs_mull (10) rfl (by omega) (by omega)
      try rw [← he_5]
      obtain ⟨e_6, he_6⟩ : ∃ e9 : Int32, e9 = (e_5 + x5) := ⟨_, rfl⟩
      try have : e_6.toInt = (e_5 : Int32).toInt + (x5 : Int32).toInt := by rw [he_6]; exact hs_add (by omega) (by omega)
      try rw [← he_6]
      refine hs_ga (j := 9) I (by omega) (by omega) (fun v29_7 ev29_7 (bv29_7 : (0 : Int) ≤ v29_7.toInt ∧ v29_7.toInt ≤ 59) => ?_)
      refine hs_ga (j := 3) I (by omega) (by omega) (fun v32_8 ev32_8 (bv32_8 : (0 : Int) ≤ v32_8.toInt ∧ v32_8.toInt ≤ 7) => ?_)
      refine hs_ga (j := 2) I (by omega) (by omega) (fun v35_9 ev35_9 (bv35_9 : (-2147483648 : Int) ≤ v35_9.toInt ∧ v35_9.toInt ≤ 2147483647) => ?_)
      obtain ⟨e_10, he_10⟩ : ∃ e9 : Int32, e9 = (v24_3 + v27_4) := ⟨_, rfl⟩
      try have : e_10.toInt = (v24_3 : Int32).toInt + (v27_4 : Int32).toInt := by rw [he_10]; exact hs_add (by omega) (by omega)
      try rw [← he_10]
      refine hs_ite (fun h_11 => ?_) (fun h_11 => ?_)
      · have : (e_10 : Int32).toInt ≤ (v35_9 : Int32).toInt := Int32.le_iff_toInt_le.mp h_11
        obtain ⟨e_12, he_12⟩ : ∃ e9 : Int32, e9 = (x5 + 1) := ⟨_, rfl⟩
        try have : e_12.toInt = (x5 : Int32).toInt + (1) := by rw [he_12]; exact hs_addk (1) rfl (by omega) (by omega)
        try rw [← he_12]
        exact ih σ (x1 : Int32) (x4 : Int32) (e_12 : Int32) I (show 0 ≤ (x1 : Int32).toInt by omega) (show (x1 : Int32).toInt < 60 by omega) (show 0 ≤ (x4 : Int32).toInt by omega) (show (x4 : Int32).toInt < 24 by omega) (show 0 ≤ (e_12 : Int32).toInt by omega) (show (e_12 : Int32).toInt ≤ 10 by omega) (show (σ.1 10 (x4 : Int32).toNatClampNeg).toInt < 10 by omega)  (by omega)
      · have : ¬ (e_10 : Int32).toInt ≤ (v35_9 : Int32).toInt := fun z => h_11 (Int32.le_iff_toInt_le.mpr z)
        exact hs_some (hQ σ (0 : Int32) I )
theorem s_fX10_load {R : hy_S → Prop} (ra : ∀ j, j ∈ ([7, 8, 9, 10] : List Nat) → ∀ (τ : hy_S) (g : Nat → Int32), R τ → R (hy_sc τ j g)) (ri : ∀ j, j ∈ ([0] : List Nat) → ∀ (τ : hy_S) (v : Int32), R τ → R (hy_si τ j v)) (σ : hy_S) (x1 : Int32) (x2 : Int32) (x3 : Int32) {P : hy_S → Int32 → Prop} (I : hm_I R σ) (hQ : ∀ (σ9 : hy_S) (v9 : Int32), hm_I R σ9 → P σ9 v9) : hs_ok2 (fX10_load σ x1 x2 x3) P := by
  unfold fX10_load
  show hs_ok _ _
  have : (-2147483648 : Int) ≤ (σ.2 0).toInt ∧ (σ.2 0).toInt ≤ 2147483647 := I.2.1 0
  have : (0 : Int) ≤ (σ.2 2).toInt ∧ (σ.2 2).toInt ≤ 60 := I.2.1 2
  have : (0 : Int) ≤ (σ.2 3).toInt ∧ (σ.2 3).toInt ≤ 4 := I.2.1 3
  refine hs_pf (v := 0) I (hs_any _) (fun r => ⟨hm_Ri (by decide) r.1, ri 0 (by decide) _ _ r.2⟩) (fun σ1_1 eσ1_1 Iσ1_1 => ?_)
  have : (σ1_1.2 0).toInt = (0) := by rw [eσ1_1]; rfl
  have : (σ1_1.2 2).toInt = (σ.2 2).toInt := by rw [eσ1_1]; rfl
  have : (σ1_1.2 3).toInt = (σ.2 3).toInt := by rw [eσ1_1]; rfl
  have : (-2147483648 : Int) ≤ (σ1_1.2 0).toInt ∧ (σ1_1.2 0).toInt ≤ 2147483647 := Iσ1_1.2.1 0
  have : (0 : Int) ≤ (σ1_1.2 2).toInt ∧ (σ1_1.2 2).toInt ≤ 60 := Iσ1_1.2.1 2
  have : (0 : Int) ≤ (σ1_1.2 3).toInt ∧ (σ1_1.2 3).toInt ≤ 4 := Iσ1_1.2.1 3
  refine hs_noJ (by omega) (fun (u_2_0 : (0 : Int) ≤ (x1 : Int32).toInt) (u_2_1 : (x1 : Int32).toInt < (σ1_1.2 2).toInt) => ?_) (fun (u_2_0 : (x1 : Int32).toInt < 0 ∨ (σ1_1.2 2).toInt ≤ (x1 : Int32).toInt) => ?_)
  · skip
    refine hs_ite (fun h_3 => ?_) (fun h_3 => ?_)
    · skip
      refine hs_bd (s_fX10_noHold σ1_1 x2 x3 Iσ1_1  (fun v8_4 (gv8_4_0 : 0 ≤ v8_4.toInt) (gv8_4_1 : v8_4.toInt ≤ 1) (gv8_4_2 : v8_4.toInt = 1 ∨ (0 ≤ (x2 : Int32).toInt ∧ (x2 : Int32).toInt < (σ1_1.2 3).toInt ∧ 0 ≤ (x3 : Int32).toInt ∧ (x3 : Int32).toInt ≤ 5)) => ?_))
      refine hs_ite (fun h_5 => ?_) (fun h_5 => ?_)
      · have : (v8_4 : Int32).toInt = (0) := congrArg Int32.toInt h_5
        unfold fX10_load_28
        refine hs_th0 ?_
        refine hs_ite (fun h_6 => ?_) (fun h_6 => ?_)
        · skip
          refine hs_ga (j := 7) Iσ1_1 (by omega) (by omega) (fun v5_7 ev5_7 (bv5_7 : (-2147483648 : Int) ≤ v5_7.toInt ∧ v5_7.toInt ≤ 2147483647) => ?_)
          refine hs_ite (fun h_8 => ?_) (fun h_8 => ?_)
          · have : (v5_7 : Int32).toInt = (0) := congrArg Int32.toInt h_8
            obtain ⟨e_9, he_9⟩ : ∃ e9 : Int32, e9 = (6 * x2) := ⟨_, rfl⟩
            try have : e_9.toInt = (6) * (x2 : Int32).toInt := by rw [he_9]; exact hs_mull (6) rfl (by omega) (by omega)
            try rw [← he_9]
            obtain ⟨e_10, he_10⟩ : ∃ e9 : Int32, e9 = (e_9 + x3) := ⟨_, rfl⟩
            try have : e_10.toInt = (e_9 : Int32).toInt + (x3 : Int32).toInt := by rw [he_10]; exact hs_add (by omega) (by omega)
            try rw [← he_10]
            refine hs_ga (j := 10) Iσ1_1 (by omega) (by omega) (fun v9_11 ev9_11 (bv9_11 : (0 : Int) ≤ v9_11.toInt ∧ v9_11.toInt ≤ 10) => ?_)
            have : (σ1_1.1 10 (e_10 : Int32).toNatClampNeg).toInt = v9_11.toInt := by rw [ev9_11]
            refine hs_ite (fun h_12 => ?_) (fun h_12 => ?_)
            · have : (v9_11 : Int32).toInt = (10) := congrArg Int32.toInt h_12
              exact hs_some (hQ σ1_1 (0 : Int32) Iσ1_1 )
            · have : ¬ (v9_11 : Int32).toInt = (10) := fun z => h_12 (Int32.toInt_inj.mp z)
              try rw [← he_9]
              try rw [← he_10]
              have hfu : ((hy_fu : Nat) : Int) = 5000 := rfl
              refine s_fX10_load_71 (fun j h => ra j (hs_inc (by decide) h)) (fun j h => ri j (hs_inc (by decide) h))  (fun τ_13 v_14 Iτ_13  => ?_)  hy_fu σ1_1 (x1 : Int32) (e_10 : Int32) (0 : Int32) Iσ1_1 (show 0 ≤ (x1 : Int32).toInt by omega) (show (x1 : Int32).toInt < 60 by omega) (show 0 ≤ (e_10 : Int32).toInt by omega) (show (e_10 : Int32).toInt < 24 by omega) (show 0 ≤ (0) by omega) (show (0) ≤ 10 by omega) (show (σ1_1.1 10 (e_10 : Int32).toNatClampNeg).toInt < 10 by omega)  (show 10 - (0) < ((hy_fu : Nat) : Int) by rw [hfu]; omega)
              have : (-2147483648 : Int) ≤ (τ_13.2 0).toInt ∧ (τ_13.2 0).toInt ≤ 2147483647 := Iτ_13.2.1 0
              have : (0 : Int) ≤ (τ_13.2 2).toInt ∧ (τ_13.2 2).toInt ≤ 60 := Iτ_13.2.1 2
              have : (0 : Int) ≤ (τ_13.2 3).toInt ∧ (τ_13.2 3).toInt ≤ 4 := Iτ_13.2.1 3
              exact (hQ τ_13 (v_14 : Int32) Iτ_13 )
          · have : ¬ (v5_7 : Int32).toInt = (0) := fun z => h_8 (Int32.toInt_inj.mp z)
            exact hs_some (hQ σ1_1 (0 : Int32) Iσ1_1 )
        · exact absurd (by decide) h_6
      · have : ¬ (v8_4 : Int32).toInt = (0) := fun z => h_5 (Int32.toInt_inj.mp z)
        unfold fX10_load_23
        unfold fX10_load_28
        refine hs_th1 Iσ1_1 (hs_any _) (fun r => ⟨hm_Ri (by decide) r.1, ri 0 (by decide) _ _ r.2⟩) (fun σ1_15 eσ1_15 Iσ1_15 => ?_)
        have : (σ1_15.2 0).toInt = (1) := by rw [eσ1_15]; rfl
        have : (σ1_15.2 2).toInt = (σ1_1.2 2).toInt := by rw [eσ1_15]; rfl
        have : (σ1_15.2 3).toInt = (σ1_1.2 3).toInt := by rw [eσ1_15]; rfl
        have : (-2147483648 : Int) ≤ (σ1_15.2 0).toInt ∧ (σ1_15.2 0).toInt ≤ 2147483647 := Iσ1_15.2.1 0
        have : (0 : Int) ≤ (σ1_15.2 2).toInt ∧ (σ1_15.2 2).toInt ≤ 60 := Iσ1_15.2.1 2
        have : (0 : Int) ≤ (σ1_15.2 3).toInt ∧ (σ1_15.2 3).toInt ≤ 4 := Iσ1_15.2.1 3
        refine hs_ite (fun h_16 => ?_) (fun h_16 => ?_)
        · exact absurd h_16 (by decide)
        · skip
          exact hs_some (hQ σ1_15 (0 : Int32) Iσ1_15 )
    · exact absurd (by decide) h_3
  · skip
    refine hs_ite (fun h_17 => ?_) (fun h_17 => ?_)
    · exact absurd h_17 (by decide)
    · skip
      unfold fX10_load_23
      unfold fX10_load_28
      refine hs_th1 Iσ1_1 (hs_any _) (fun r => ⟨hm_Ri (by decide) r.1, ri 0 (by decide) _ _ r.2⟩) (fun σ1_18 eσ1_18 Iσ1_18 => ?_)
      have : (σ1_18.2 0).toInt = (1) := by rw [eσ1_18]; rfl
      have : (σ1_18.2 2).toInt = (σ1_1.2 2).toInt := by rw [eσ1_18]; rfl
      have : (σ1_18.2 3).toInt = (σ1_1.2 3).toInt := by rw [eσ1_18]; rfl
      have : (-2147483648 : Int) ≤ (σ1_18.2 0).toInt ∧ (σ1_18.2 0).toInt ≤ 2147483647 := Iσ1_18.2.1 0
      have : (0 : Int) ≤ (σ1_18.2 2).toInt ∧ (σ1_18.2 2).toInt ≤ 60 := Iσ1_18.2.1 2
      have : (0 : Int) ≤ (σ1_18.2 3).toInt ∧ (σ1_18.2 3).toInt ≤ 4 := Iσ1_18.2.1 3
      refine hs_ite (fun h_19 => ?_) (fun h_19 => ?_)
      · exact absurd h_19 (by decide)
      · skip
        exact hs_some (hQ σ1_18 (0 : Int32) Iσ1_18 )
theorem s_fX10_land {R : hy_S → Prop} (ra : ∀ j, j ∈ ([7, 8, 10] : List Nat) → ∀ (τ : hy_S) (g : Nat → Int32), R τ → R (hy_sc τ j g)) (ri : ∀ j, j ∈ ([0] : List Nat) → ∀ (τ : hy_S) (v : Int32), R τ → R (hy_si τ j v)) (σ : hy_S) (x1 : Int32) (x2 : Int32) {P : hy_S → Int32 → Prop} (I : hm_I R σ) (hQ : ∀ (σ9 : hy_S) (v9 : Int32), hm_I R σ9 → P σ9 v9) : hs_ok2 (fX10_land σ x1 x2) P := by
  unfold fX10_land
  show hs_ok _ _
  have : (-2147483648 : Int) ≤ (σ.2 0).toInt ∧ (σ.2 0).toInt ≤ 2147483647 := I.2.1 0
  have : (0 : Int) ≤ (σ.2 2).toInt ∧ (σ.2 2).toInt ≤ 60 := I.2.1 2
  have : (0 : Int) ≤ (σ.2 3).toInt ∧ (σ.2 3).toInt ≤ 4 := I.2.1 3
  refine hs_pf (v := 0) I (hs_any _) (fun r => ⟨hm_Ri (by decide) r.1, ri 0 (by decide) _ _ r.2⟩) (fun σ1_1 eσ1_1 Iσ1_1 => ?_)
  have : (σ1_1.2 0).toInt = (0) := by rw [eσ1_1]; rfl
  have : (σ1_1.2 2).toInt = (σ.2 2).toInt := by rw [eσ1_1]; rfl
  have : (σ1_1.2 3).toInt = (σ.2 3).toInt := by rw [eσ1_1]; rfl
  have : (-2147483648 : Int) ≤ (σ1_1.2 0).toInt ∧ (σ1_1.2 0).toInt ≤ 2147483647 := Iσ1_1.2.1 0
  have : (0 : Int) ≤ (σ1_1.2 2).toInt ∧ (σ1_1.2 2).toInt ≤ 60 := Iσ1_1.2.1 2
  have : (0 : Int) ≤ (σ1_1.2 3).toInt ∧ (σ1_1.2 3).toInt ≤ 4 := Iσ1_1.2.1 3
  refine hs_bd (s_fX10_noHold σ1_1 x1 x2 Iσ1_1  (fun v4_2 (gv4_2_0 : 0 ≤ v4_2.toInt) (gv4_2_1 : v4_2.toInt ≤ 1) (gv4_2_2 : v4_2.toInt = 1 ∨ (0 ≤ (x1 : Int32).toInt ∧ (x1 : Int32).toInt < (σ1_1.2 3).toInt ∧ 0 ≤ (x2 : Int32).toInt ∧ (x2 : Int32).toInt ≤ 5)) => ?_))
  refine hs_bd (s_fX10_throwsIf (fun j h => ra j (hs_inc (by decide) h)) (fun j h => ri j (hs_inc (by decide) h)) σ1_1 v4_2 (1 : Int32) Iσ1_1 (show 0 ≤ (v4_2 : Int32).toInt by omega) (show (v4_2 : Int32).toInt ≤ 1 by omega) (fun σ6_4 v7_3 Iσ6_4 (gv7_3_0 : v7_3.toInt = (v4_2 : Int32).toInt) (gv7_3_1 : (σ6_4.2 1).toInt = (σ1_1.2 1).toInt) (gv7_3_2 : (σ6_4.2 2).toInt = (σ1_1.2 2).toInt) (gv7_3_3 : (σ6_4.2 3).toInt = (σ1_1.2 3).toInt) (gv7_3_4 : (σ6_4.2 4).toInt = (σ1_1.2 4).toInt) (gv7_3_5 : (σ6_4.2 5).toInt = (σ1_1.2 5).toInt) (gv7_3_6 : (σ6_4.2 6).toInt = (σ1_1.2 6).toInt) (gv7_3_7 : (σ6_4.2 7).toInt = (σ1_1.2 7).toInt) (gv7_3_8 : (σ6_4.2 8).toInt = (σ1_1.2 8).toInt) (gv7_3_9 : (σ6_4.2 9).toInt = (σ1_1.2 9).toInt) (gv7_3_10 : (σ6_4.2 10).toInt = (σ1_1.2 10).toInt) (gv7_3_11 : (σ6_4.2 11).toInt = (σ1_1.2 11).toInt) => ?_))
  have : (-2147483648 : Int) ≤ (σ6_4.2 0).toInt ∧ (σ6_4.2 0).toInt ≤ 2147483647 := Iσ6_4.2.1 0
  have : (0 : Int) ≤ (σ6_4.2 2).toInt ∧ (σ6_4.2 2).toInt ≤ 60 := Iσ6_4.2.1 2
  have : (0 : Int) ≤ (σ6_4.2 3).toInt ∧ (σ6_4.2 3).toInt ≤ 4 := Iσ6_4.2.1 3
  refine hs_ite (fun h_5 => ?_) (fun h_5 => ?_)
  · have : (v7_3 : Int32).toInt = (0) := congrArg Int32.toInt h_5
    obtain ⟨e_6, he_6⟩ : ∃ e9 : Int32, e9 = (6 * x1) := ⟨_, rfl⟩
    try have : e_6.toInt = (6) * (x1 : Int32).toInt := by rw [he_6]; exact hs_mull (6) rfl (by omega) (by omega)
    try rw [← he_6]
    obtain ⟨e_7, he_7⟩ : ∃ e9 : Int32, e9 = (e_6 + x2) := ⟨_, rfl⟩
    try have : e_7.toInt = (e_6 : Int32).toInt + (x2 : Int32).toInt := by rw [he_7]; exact hs_add (by omega) (by omega)
    try rw [← he_7]
    refine hs_ga (j := 10) Iσ6_4 (by omega) (by omega) (fun v10_8 ev10_8 (bv10_8 : (0 : Int) ≤ v10_8.toInt ∧ v10_8.toInt ≤ 10) => ?_)
    have : (σ6_4.1 10 (e_7 : Int32).toNatClampNeg).toInt = v10_8.toInt := by rw [ev10_8]
    refine hs_ite (fun h_9 => ?_) (fun h_9 => ?_)
    · have : (v10_8 : Int32).toInt = (0) := congrArg Int32.toInt h_9
      exact hs_some (hQ σ6_4 ((-1) : Int32) Iσ6_4 )
    · have : ¬ (v10_8 : Int32).toInt = (0) := fun z => h_9 (Int32.toInt_inj.mp z)
      try rw [← he_6]
      try rw [← he_7]
      exact s_land_tail (fun j h => ra j (hs_inc (by decide) h)) σ6_4 e_7 Iσ6_4 (by omega) (by omega) (by omega) hQ
  · have : ¬ (v7_3 : Int32).toInt = (0) := fun z => h_5 (Int32.toInt_inj.mp z)
    exact hs_some (hQ σ6_4 (0 : Int32) Iσ6_4 )
theorem s_fX10_meets_2 {R : hy_S → Prop} (ra : ∀ j, j ∈ ([7, 8, 9, 10, 11] : List Nat) → ∀ (τ : hy_S) (g : Nat → Int32), R τ → R (hy_sc τ j g)) (ri : ∀ j, j ∈ ([] : List Nat) → ∀ (τ : hy_S) (v : Int32), R τ → R (hy_si τ j v)) {Q : hy_S × Int32 → Prop} (hQ : ∀ (σ9 : hy_S) (v9 : Int32), hm_I R σ9 → Q (σ9, v9)) : ∀ (n : Nat) (σ : hy_S) (x1 : Int32) (x2 : Int32) (x3 : Int32), hm_I R σ → 0 ≤ x1.toInt → x1.toInt < 24 → 0 ≤ x3.toInt → x3.toInt ≤ 10 → 10 - x3.toInt < (n : Int) → hs_ok (fX10_meets_2 n σ x1 x2 x3) Q := by
  intro n
  induction n with
  | zero =>
    intro σ x1 x2 x3 I p0 p1 p2 p3  hm
    exact absurd hm (by omega)
  | succ n ih =>
    intro σ x1 x2 x3 I p0 p1 p2 p3  hm
    unfold fX10_meets_2
    refine hs_ga (j := 10) I (by omega) (by omega) (fun v1_1 ev1_1 (bv1_1 : (0 : Int) ≤ v1_1.toInt ∧ v1_1.toInt ≤ 10) => ?_)
    have : (σ.1 10 (x1 : Int32).toNatClampNeg).toInt = v1_1.toInt := by rw [ev1_1]
    refine hs_ite (fun h_2 => ?_) (fun h_2 => ?_)
    · have : (v1_1 : Int32).toInt ≤ (x3 : Int32).toInt := Int32.le_iff_toInt_le.mp h_2
      refine hs_ga (j := 10) I (by omega) (by omega) (fun v5_3 ev5_3 (bv5_3 : (0 : Int) ≤ v5_3.toInt ∧ v5_3.toInt ≤ 10) => ?_)
      have : (σ.1 10 (x1 : Int32).toNatClampNeg).toInt = v5_3.toInt := by rw [ev5_3]
      have hfu : ((hy_fu : Nat) : Int) = 5000 := rfl
      exact s_fX10_meets_87 (fun j h => ra j (hs_inc (by decide) h)) hQ hy_fu σ x1 0 v5_3 0 (hm_box I) (by omega) (by omega) (by decide) (by decide) (show (0 : Int) ≤ v5_3.toInt by omega) (by omega) (s_meets_in I ev5_3) (show v5_3.toInt - 0 < ((hy_fu : Nat) : Int) by rw [hfu]; omega)
    · have : ¬ (v1_1 : Int32).toInt ≤ (x3 : Int32).toInt := fun z => h_2 (Int32.le_iff_toInt_le.mpr z)
      obtain ⟨e_4, he_4⟩ : ∃ e9 : Int32, e9 = (10 * x1) := ⟨_, rfl⟩
      try have : e_4.toInt = (10) * (x1 : Int32).toInt := by rw [he_4]; exact hs_mull (10) rfl (by omega) (by omega)
      try rw [← he_4]
      obtain ⟨e_5, he_5⟩ : ∃ e9 : Int32, e9 = (e_4 + x3) := ⟨_, rfl⟩
      try have : e_5.toInt = (e_4 : Int32).toInt + (x3 : Int32).toInt := by rw [he_5]; exact hs_add (by omega) (by omega)
      try rw [← he_5]
      refine hs_ga (j := 9) I (by omega) (by omega) (fun v8_6 ev8_6 (bv8_6 : (0 : Int) ≤ v8_6.toInt ∧ v8_6.toInt ≤ 59) => ?_)
      refine hs_ga (j := 3) I (by omega) (by omega) (fun v11_7 ev11_7 (bv11_7 : (0 : Int) ≤ v11_7.toInt ∧ v11_7.toInt ≤ 7) => ?_)
      refine hs_ga (j := 2) I (by omega) (by omega) (fun v14_8 ev14_8 (bv14_8 : (-2147483648 : Int) ≤ v14_8.toInt ∧ v14_8.toInt ≤ 2147483647) => ?_)
      refine hs_bd (s_fX10_above σ x1 x3 I (show 0 ≤ (x1 : Int32).toInt by omega) (show (x1 : Int32).toInt < 24 by omega) (show 0 ≤ (x3 : Int32).toInt by omega) (show (x3 : Int32).toInt ≤ 9 by omega) (fun v18_9  => ?_))
      obtain ⟨e_10, he_10⟩ : ∃ e9 : Int32, e9 = (v14_8 * x2) := ⟨_, rfl⟩
      try rw [← he_10]
      obtain ⟨e_11, he_11⟩ : ∃ e9 : Int32, e9 = (e_10 + 99) := ⟨_, rfl⟩
      try have : e_11.toInt = (e_10 : Int32).toInt + (99) := by rw [he_11]; exact hs_addk (99) rfl (by omega) (by omega)
      try rw [← he_11]
      obtain ⟨e_12, he_12⟩ : ∃ e9 : Int32, e9 = (e_11 / 100) := ⟨_, rfl⟩
      try have : e_12.toInt = (e_11 : Int32).toInt / (100) := by rw [he_12]; exact hs_div (100) rfl (by omega) (by omega)
      try rw [← he_12]
      obtain ⟨e_13, he_13⟩ : ∃ e9 : Int32, e9 = (v14_8 - e_12) := ⟨_, rfl⟩
      try have : e_13.toInt = (v14_8 : Int32).toInt - (e_12 : Int32).toInt := by rw [he_13]; exact hs_sub (by omega) (by omega)
      try rw [← he_13]
      refine hs_ite (fun h_14 => ?_) (fun h_14 => ?_)
      · have : (v18_9 : Int32).toInt ≤ (e_13 : Int32).toInt := Int32.le_iff_toInt_le.mp h_14
        unfold fX10_meets_67
        refine hs_pa (idx := x3) (v := _) I (by omega) (by omega) (hs_any _) (fun r => ⟨hm_Ra (by decide) r.1, ra 11 (by decide) _ _ r.2⟩) (fun σ1_15 eσ1_15 Iσ1_15 => ?_)
        have : (σ1_15.1 10 (x1 : Int32).toNatClampNeg).toInt = (σ.1 10 (x1 : Int32).toNatClampNeg).toInt := by rw [eσ1_15]; rfl
        have : (0 : Int) ≤ (σ1_15.1 10 (x1 : Int32).toNatClampNeg).toInt ∧ (σ1_15.1 10 (x1 : Int32).toNatClampNeg).toInt ≤ 10 := Iσ1_15.1 10 _
        obtain ⟨e_16, he_16⟩ : ∃ e9 : Int32, e9 = (x3 + 1) := ⟨_, rfl⟩
        try have : e_16.toInt = (x3 : Int32).toInt + (1) := by rw [he_16]; exact hs_addk (1) rfl (by omega) (by omega)
        try rw [← he_16]
        exact ih σ1_15 (x1 : Int32) (x2 : Int32) (e_16 : Int32) Iσ1_15 (show 0 ≤ (x1 : Int32).toInt by omega) (show (x1 : Int32).toInt < 24 by omega) (show 0 ≤ (e_16 : Int32).toInt by omega) (show (e_16 : Int32).toInt ≤ 10 by omega)  (by omega)
      · have : ¬ (v18_9 : Int32).toInt ≤ (e_13 : Int32).toInt := fun z => h_14 (Int32.le_iff_toInt_le.mpr z)
        unfold fX10_meets_67
        refine hs_pa (idx := x3) (v := _) I (by omega) (by omega) (hs_any _) (fun r => ⟨hm_Ra (by decide) r.1, ra 11 (by decide) _ _ r.2⟩) (fun σ1_17 eσ1_17 Iσ1_17 => ?_)
        have : (σ1_17.1 10 (x1 : Int32).toNatClampNeg).toInt = (σ.1 10 (x1 : Int32).toNatClampNeg).toInt := by rw [eσ1_17]; rfl
        have : (0 : Int) ≤ (σ1_17.1 10 (x1 : Int32).toNatClampNeg).toInt ∧ (σ1_17.1 10 (x1 : Int32).toNatClampNeg).toInt ≤ 10 := Iσ1_17.1 10 _
        obtain ⟨e_18, he_18⟩ : ∃ e9 : Int32, e9 = (x3 + 1) := ⟨_, rfl⟩
        try have : e_18.toInt = (x3 : Int32).toInt + (1) := by rw [he_18]; exact hs_addk (1) rfl (by omega) (by omega)
        try rw [← he_18]
        exact ih σ1_17 (x1 : Int32) (x2 : Int32) (e_18 : Int32) Iσ1_17 (show 0 ≤ (x1 : Int32).toInt by omega) (show (x1 : Int32).toInt < 24 by omega) (show 0 ≤ (e_18 : Int32).toInt by omega) (show (e_18 : Int32).toInt ≤ 10 by omega)  (by omega)
theorem s_fX10_meets {R : hy_S → Prop} (ra : ∀ j, j ∈ ([7, 8, 9, 10, 11] : List Nat) → ∀ (τ : hy_S) (g : Nat → Int32), R τ → R (hy_sc τ j g)) (ri : ∀ j, j ∈ ([] : List Nat) → ∀ (τ : hy_S) (v : Int32), R τ → R (hy_si τ j v)) (σ : hy_S) (x1 : Int32) (x2 : Int32) {P : hy_S → Int32 → Prop} (I : hm_I R σ) (p0 : 0 ≤ x1.toInt) (p1 : x1.toInt < 24) (hQ : ∀ (σ9 : hy_S) (v9 : Int32), hm_I R σ9 → P σ9 v9) : hs_ok2 (fX10_meets σ x1 x2) P := by
  unfold fX10_meets
  show hs_ok _ _
  have hfu : ((hy_fu : Nat) : Int) = 5000 := rfl
  refine s_fX10_meets_2 (fun j h => ra j (hs_inc (by decide) h)) (fun j h => ri j (hs_inc (by decide) h))  (fun τ_1 v_2 Iτ_1  => ?_)  hy_fu σ (x1 : Int32) (x2 : Int32) (0 : Int32) I (show 0 ≤ (x1 : Int32).toInt by omega) (show (x1 : Int32).toInt < 24 by omega) (show 0 ≤ (0) by omega) (show (0) ≤ 10 by omega)  (show 10 - (0) < ((hy_fu : Nat) : Int) by rw [hfu]; omega)
  exact (hQ τ_1 (v_2 : Int32) Iτ_1 )
theorem s_fX10_storm_62 {R : hy_S → Prop} (ra : ∀ j, j ∈ ([7, 8, 9, 10, 11] : List Nat) → ∀ (τ : hy_S) (g : Nat → Int32), R τ → R (hy_sc τ j g)) (ri : ∀ j, j ∈ ([] : List Nat) → ∀ (τ : hy_S) (v : Int32), R τ → R (hy_si τ j v)) {Q : hy_S × Int32 → Prop} (hQ : ∀ (σ9 : hy_S) (v9 : Int32), hm_I R σ9 → Q (σ9, v9)) : ∀ (n : Nat) (σ : hy_S) (x1 : Int32) (x2 : Int32) (x3 : Int32) (x4 : Int32), hm_I R σ → 0 ≤ x1.toInt → x1.toInt ≤ 3 → 0 ≤ x4.toInt → x4.toInt ≤ 6 → 6 - x4.toInt < (n : Int) → hs_ok (fX10_storm_62 n σ x1 x2 x3 x4) Q := by
  intro n
  induction n with
  | zero =>
    intro σ x1 x2 x3 x4 I p0 p1 p2 p3  hm
    exact absurd hm (by omega)
  | succ n ih =>
    intro σ x1 x2 x3 x4 I p0 p1 p2 p3  hm
    unfold fX10_storm_62
    refine hs_ite (fun h_1 => ?_) (fun h_1 => ?_)
    · have : (6) ≤ (x4 : Int32).toInt := Int32.le_iff_toInt_le.mp h_1
      exact hs_some (hQ σ (x3 : Int32) I )
    · have : ¬ (6) ≤ (x4 : Int32).toInt := fun z => h_1 (Int32.le_iff_toInt_le.mpr z)
      obtain ⟨e_2, he_2⟩ : ∃ e9 : Int32, e9 = (6 * x1) := ⟨_, rfl⟩
      try have : e_2.toInt = (6) * (x1 : Int32).toInt := by rw [he_2]; exact hs_mull (6) rfl (by omega) (by omega)
      try rw [← he_2]
      obtain ⟨e_3, he_3⟩ : ∃ e9 : Int32, e9 = (e_2 + x4) := ⟨_, rfl⟩
      try have : e_3.toInt = (e_2 : Int32).toInt + (x4 : Int32).toInt := by rw [he_3]; exact hs_add (by omega) (by omega)
      try rw [← he_3]
      refine hs_bd (s_fX10_meets (fun j h => ra j (hs_inc (by decide) h)) (fun j h => ri j (hs_inc (by decide) h)) σ e_3 x2 I (show 0 ≤ (e_3 : Int32).toInt by omega) (show (e_3 : Int32).toInt < 24 by omega) (fun σ2_5 v3_4 Iσ2_5  => ?_))
      obtain ⟨e_6, he_6⟩ : ∃ e9 : Int32, e9 = (x3 + v3_4) := ⟨_, rfl⟩
      try have : e_6.toInt = (x3 : Int32).toInt + (v3_4 : Int32).toInt := by rw [he_6]; exact hs_add (by omega) (by omega)
      try rw [← he_6]
      obtain ⟨e_7, he_7⟩ : ∃ e9 : Int32, e9 = (x4 + 1) := ⟨_, rfl⟩
      try have : e_7.toInt = (x4 : Int32).toInt + (1) := by rw [he_7]; exact hs_addk (1) rfl (by omega) (by omega)
      try rw [← he_7]
      exact ih σ2_5 (x1 : Int32) (x2 : Int32) (e_6 : Int32) (e_7 : Int32) Iσ2_5 (show 0 ≤ (x1 : Int32).toInt by omega) (show (x1 : Int32).toInt ≤ 3 by omega) (show 0 ≤ (e_7 : Int32).toInt by omega) (show (e_7 : Int32).toInt ≤ 6 by omega)  (by omega)
theorem s_fX10_storm {R : hy_S → Prop} (ra : ∀ j, j ∈ ([7, 8, 9, 10, 11] : List Nat) → ∀ (τ : hy_S) (g : Nat → Int32), R τ → R (hy_sc τ j g)) (ri : ∀ j, j ∈ ([0] : List Nat) → ∀ (τ : hy_S) (v : Int32), R τ → R (hy_si τ j v)) (σ : hy_S) (x1 : Int32) (x2 : Int32) {P : hy_S → Int32 → Prop} (I : hm_I R σ) (hQ : ∀ (σ9 : hy_S) (v9 : Int32), hm_I R σ9 → P σ9 v9) : hs_ok2 (fX10_storm σ x1 x2) P := by
  unfold fX10_storm
  show hs_ok _ _
  have : (-2147483648 : Int) ≤ (σ.2 0).toInt ∧ (σ.2 0).toInt ≤ 2147483647 := I.2.1 0
  have : (0 : Int) ≤ (σ.2 3).toInt ∧ (σ.2 3).toInt ≤ 4 := I.2.1 3
  refine hs_pf (v := 0) I (hs_any _) (fun r => ⟨hm_Ri (by decide) r.1, ri 0 (by decide) _ _ r.2⟩) (fun σ1_1 eσ1_1 Iσ1_1 => ?_)
  have : (σ1_1.2 0).toInt = (0) := by rw [eσ1_1]; rfl
  have : (σ1_1.2 3).toInt = (σ.2 3).toInt := by rw [eσ1_1]; rfl
  have : (-2147483648 : Int) ≤ (σ1_1.2 0).toInt ∧ (σ1_1.2 0).toInt ≤ 2147483647 := Iσ1_1.2.1 0
  have : (0 : Int) ≤ (σ1_1.2 3).toInt ∧ (σ1_1.2 3).toInt ≤ 4 := Iσ1_1.2.1 3
  obtain ⟨e_2, he_2⟩ : ∃ e9 : Int32, e9 = ((σ1_1.2 3) - 1) := ⟨_, rfl⟩
  try have : e_2.toInt = ((σ1_1.2 3) : Int32).toInt - (1) := by rw [he_2]; exact hs_subk (1) rfl (by omega) (by omega)
  try rw [← he_2]
  refine hs_bIn (fun (u_3_0 : (0) ≤ (x1 : Int32).toInt) (u_3_1 : (x1 : Int32).toInt ≤ (e_2 : Int32).toInt) => ?_) (fun (u_3_0 : (x1 : Int32).toInt < (0) ∨ (e_2 : Int32).toInt < (x1 : Int32).toInt) => ?_)
  · skip
    refine hs_ite (fun h_4 => ?_) (fun h_4 => ?_)
    · exact absurd h_4 (by decide)
    · skip
      unfold fX10_storm_25
      refine hs_th0 ?_
      refine hs_ite (fun h_5 => ?_) (fun h_5 => ?_)
      · skip
        refine hs_bIn (fun (u_6_0 : (0) ≤ (x2 : Int32).toInt) (u_6_1 : (x2 : Int32).toInt ≤ (100)) => ?_) (fun (u_6_0 : (x2 : Int32).toInt < (0) ∨ (100) < (x2 : Int32).toInt) => ?_)
        · skip
          refine hs_ite (fun h_7 => ?_) (fun h_7 => ?_)
          · exact absurd h_7 (by decide)
          · skip
            unfold fX10_storm_48
            refine hs_th0 ?_
            refine hs_ite (fun h_8 => ?_) (fun h_8 => ?_)
            · skip
              have hfu : ((hy_fu : Nat) : Int) = 5000 := rfl
              refine s_fX10_storm_62 (fun j h => ra j (hs_inc (by decide) h)) (fun j h => ri j (hs_inc (by decide) h))  (fun τ_9 v_10 Iτ_9  => ?_)  hy_fu σ1_1 (x1 : Int32) (x2 : Int32) (0 : Int32) (0 : Int32) Iσ1_1 (show 0 ≤ (x1 : Int32).toInt by omega) (show (x1 : Int32).toInt ≤ 3 by omega) (show 0 ≤ (0) by omega) (show (0) ≤ 6 by omega)  (show 6 - (0) < ((hy_fu : Nat) : Int) by rw [hfu]; omega)
              have : (-2147483648 : Int) ≤ (τ_9.2 0).toInt ∧ (τ_9.2 0).toInt ≤ 2147483647 := Iτ_9.2.1 0
              have : (0 : Int) ≤ (τ_9.2 3).toInt ∧ (τ_9.2 3).toInt ≤ 4 := Iτ_9.2.1 3
              exact (hQ τ_9 (v_10 : Int32) Iτ_9 )
            · exact absurd (by decide) h_8
        · skip
          refine hs_ite (fun h_11 => ?_) (fun h_11 => ?_)
          · skip
            unfold fX10_storm_48
            refine hs_th1 Iσ1_1 (hs_any _) (fun r => ⟨hm_Ri (by decide) r.1, ri 0 (by decide) _ _ r.2⟩) (fun σ1_12 eσ1_12 Iσ1_12 => ?_)
            have : (σ1_12.2 0).toInt = (2) := by rw [eσ1_12]; rfl
            have : (σ1_12.2 3).toInt = (σ1_1.2 3).toInt := by rw [eσ1_12]; rfl
            have : (-2147483648 : Int) ≤ (σ1_12.2 0).toInt ∧ (σ1_12.2 0).toInt ≤ 2147483647 := Iσ1_12.2.1 0
            have : (0 : Int) ≤ (σ1_12.2 3).toInt ∧ (σ1_12.2 3).toInt ≤ 4 := Iσ1_12.2.1 3
            refine hs_ite (fun h_13 => ?_) (fun h_13 => ?_)
            · exact absurd h_13 (by decide)
            · skip
              exact hs_some (hQ σ1_12 (0 : Int32) Iσ1_12 )
          · exact absurd (by decide) h_11
      · exact absurd (by decide) h_5
  · skip
    refine hs_ite (fun h_14 => ?_) (fun h_14 => ?_)
    · skip
      unfold fX10_storm_25
      refine hs_th1 Iσ1_1 (hs_any _) (fun r => ⟨hm_Ri (by decide) r.1, ri 0 (by decide) _ _ r.2⟩) (fun σ1_15 eσ1_15 Iσ1_15 => ?_)
      have : (σ1_15.2 0).toInt = (1) := by rw [eσ1_15]; rfl
      have : (σ1_15.2 3).toInt = (σ1_1.2 3).toInt := by rw [eσ1_15]; rfl
      have : (-2147483648 : Int) ≤ (σ1_15.2 0).toInt ∧ (σ1_15.2 0).toInt ≤ 2147483647 := Iσ1_15.2.1 0
      have : (0 : Int) ≤ (σ1_15.2 3).toInt ∧ (σ1_15.2 3).toInt ≤ 4 := Iσ1_15.2.1 3
      refine hs_ite (fun h_16 => ?_) (fun h_16 => ?_)
      · exact absurd h_16 (by decide)
      · skip
        exact hs_some (hQ σ1_15 (0 : Int32) Iσ1_15 )
    · exact absurd (by decide) h_14
