/-! What a run of the pure functions that has ended says of its steps. -/
theorem hi_pr {α β : Type} {p : α × β} {a : α} {b : β} (h : some (a, b) = some p) : p.1 = a ∧ p.2 = b := by
  have := Option.some.inj h
  rw [← this]
  exact ⟨rfl, rfl⟩
section HI
variable {σ : hy_S} {x y z : Int32} {k : hy_S → Int32 → Option hy_O} {o : hy_O}
theorem hi_ix (h : hy_bt (fX9_needIndex σ x y) some k = some o) : (0 ≤ x.toInt ∧ x.toInt < y.toInt ∧ k σ 0 = some o) ∨ ((x.toInt < 0 ∨ y.toInt ≤ x.toInt) ∧ o = (σ, 0, 1)) := by
  unfold fX9_needIndex fX9_needIndex_9 at h
  by_cases c1 : x < 0
  · rw [if_pos c1] at h
    exact Or.inr ⟨Or.inl (Int32.lt_iff_toInt_lt.mp c1), (Option.some.inj h).symm⟩
  · rw [if_neg c1] at h
    have a1 : ¬ x.toInt < 0 := fun q => c1 (Int32.lt_iff_toInt_lt.mpr q)
    by_cases c2 : x < y
    · rw [if_pos c2] at h
      exact Or.inl ⟨by omega, Int32.lt_iff_toInt_lt.mp c2, h⟩
    · rw [if_neg c2] at h
      have a2 : ¬ x.toInt < y.toInt := fun q => c2 (Int32.lt_iff_toInt_lt.mpr q)
      exact Or.inr ⟨Or.inr (by omega), (Option.some.inj h).symm⟩
theorem hi_nm (h : hy_bt (fX9_needNumber σ x y z) some k = some o) : (y.toInt ≤ x.toInt ∧ x.toInt ≤ z.toInt ∧ k σ 0 = some o) ∨ ((x.toInt < y.toInt ∨ z.toInt < x.toInt) ∧ o = (σ, 0, 2)) := by
  unfold fX9_needNumber fX9_needNumber_10 at h
  by_cases c1 : x < y
  · rw [if_pos c1] at h
    exact Or.inr ⟨Or.inl (Int32.lt_iff_toInt_lt.mp c1), (Option.some.inj h).symm⟩
  · rw [if_neg c1] at h
    have a1 : ¬ x.toInt < y.toInt := fun q => c1 (Int32.lt_iff_toInt_lt.mpr q)
    by_cases c2 : x ≤ z
    · rw [if_pos c2] at h
      exact Or.inl ⟨by omega, Int32.le_iff_toInt_le.mp c2, h⟩
    · rw [if_neg c2] at h
      have a2 : ¬ x.toInt ≤ z.toInt := fun q => c2 (Int32.le_iff_toInt_le.mpr q)
      exact Or.inr ⟨Or.inr (by omega), (Option.some.inj h).symm⟩
theorem hi_pl (h : hy_bt (fX9_needPlace σ x y) some k = some o) : (x.toInt < y.toInt ∧ k σ 0 = some o) ∨ (y.toInt ≤ x.toInt ∧ o = (σ, 0, 3)) := by
  unfold fX9_needPlace at h
  by_cases c1 : x < y
  · rw [if_pos c1] at h
    exact Or.inl ⟨Int32.lt_iff_toInt_lt.mp c1, h⟩
  · rw [if_neg c1] at h
    have a1 : ¬ x.toInt < y.toInt := fun q => c1 (Int32.lt_iff_toInt_lt.mpr q)
    exact Or.inr ⟨by omega, (Option.some.inj h).symm⟩
theorem hi_ho (h : hy_bt (fX9_needHold σ x y) some k = some o) : (0 ≤ x.toInt ∧ x.toInt < (σ.2 5).toInt ∧ 0 ≤ y.toInt ∧ y.toInt < 6 ∧ k σ 0 = some o) ∨ ((x.toInt < 0 ∨ (σ.2 5).toInt ≤ x.toInt ∨ y.toInt < 0 ∨ 6 ≤ y.toInt) ∧ o = (σ, 0, 1)) := by
  unfold fX9_needHold fX9_needIndex fX9_needIndex_9 at h
  by_cases c1 : x < 0
  · rw [if_pos c1] at h
    exact Or.inr ⟨Or.inl (Int32.lt_iff_toInt_lt.mp c1), (Option.some.inj h).symm⟩
  · rw [if_neg c1] at h
    have a1 : ¬ x.toInt < 0 := fun q => c1 (Int32.lt_iff_toInt_lt.mpr q)
    by_cases c2 : x < σ.2 5
    · rw [if_pos c2] at h
      have h : hy_bt (hy_bt (if y < 0 then some (σ, 0, 1) else if y < 6 then some (σ, 0, 0) else some (σ, 0, 1)) some (fun σ5 v6 => some (σ5, 0, 0))) some k = some o := h
      by_cases c3 : y < 0
      · rw [if_pos c3] at h
        exact Or.inr ⟨Or.inr (Or.inr (Or.inl (Int32.lt_iff_toInt_lt.mp c3))), (Option.some.inj h).symm⟩
      · rw [if_neg c3] at h
        have a3 : ¬ y.toInt < 0 := fun q => c3 (Int32.lt_iff_toInt_lt.mpr q)
        by_cases c4 : y < 6
        · rw [if_pos c4] at h
          exact Or.inl ⟨by omega, Int32.lt_iff_toInt_lt.mp c2, by omega, Int32.lt_iff_toInt_lt.mp c4, h⟩
        · rw [if_neg c4] at h
          have a4 : ¬ y.toInt < 6 := fun q => c4 (Int32.lt_iff_toInt_lt.mpr q)
          exact Or.inr ⟨Or.inr (Or.inr (Or.inr (by omega))), (Option.some.inj h).symm⟩
    · rw [if_neg c2] at h
      have a2 : ¬ x.toInt < (σ.2 5).toInt := fun q => c2 (Int32.lt_iff_toInt_lt.mpr q)
      exact Or.inr ⟨Or.inr (Or.inl (by omega)), (Option.some.inj h).symm⟩
theorem hi_sn (h : hy_bt (fX9_needStampOrNone σ x) some k = some o) : ((x.toInt = -1 ∨ (0 ≤ x.toInt ∧ x.toInt < 12)) ∧ k σ 0 = some o) ∨ ((¬ x.toInt = -1 ∧ (x.toInt < 0 ∨ 12 ≤ x.toInt)) ∧ o = (σ, 0, 1)) := by
  unfold fX9_needStampOrNone fX9_needIndex fX9_needIndex_9 at h
  by_cases c0 : x = -1
  · rw [if_pos c0] at h
    exact Or.inl ⟨Or.inl (congrArg Int32.toInt c0), h⟩
  · rw [if_neg c0] at h
    have a0 : ¬ x.toInt = -1 := fun q => c0 (Int32.toInt_inj.mp q)
    by_cases c1 : x < 0
    · rw [if_pos c1] at h
      exact Or.inr ⟨⟨a0, Or.inl (Int32.lt_iff_toInt_lt.mp c1)⟩, (Option.some.inj h).symm⟩
    · rw [if_neg c1] at h
      have a1 : ¬ x.toInt < 0 := fun q => c1 (Int32.lt_iff_toInt_lt.mpr q)
      by_cases c2 : x < 12
      · rw [if_pos c2] at h
        exact Or.inl ⟨Or.inr ⟨by omega, Int32.lt_iff_toInt_lt.mp c2⟩, h⟩
      · rw [if_neg c2] at h
        have a2 : ¬ x.toInt < 12 := fun q => c2 (Int32.lt_iff_toInt_lt.mpr q)
        exact Or.inr ⟨⟨a0, Or.inr (by omega)⟩, (Option.some.inj h).symm⟩
end HI
section HIM
variable {μ : hy_S} {x y z : Int32} {k : hy_S → Int32 → Option (hy_S × Int32)} {o : hy_S × Int32}
theorem hi_in (h : hy_bd (fX10_in μ x y z) k = some o) : (y.toInt ≤ x.toInt ∧ x.toInt ≤ z.toInt ∧ k μ 1 = some o) ∨ ((x.toInt < y.toInt ∨ z.toInt < x.toInt) ∧ k μ 0 = some o) := by
  unfold fX10_in at h
  by_cases c1 : x < y
  · rw [if_pos c1] at h
    exact Or.inr ⟨Or.inl (Int32.lt_iff_toInt_lt.mp c1), h⟩
  · rw [if_neg c1] at h
    have a1 : ¬ x.toInt < y.toInt := fun q => c1 (Int32.lt_iff_toInt_lt.mpr q)
    by_cases c2 : z < x
    · rw [if_pos c2] at h
      exact Or.inr ⟨Or.inr (Int32.lt_iff_toInt_lt.mp c2), h⟩
    · rw [if_neg c2] at h
      have a2 : ¬ z.toInt < x.toInt := fun q => c2 (Int32.lt_iff_toInt_lt.mpr q)
      exact Or.inl ⟨by omega, by omega, h⟩
theorem hi_t0 (h : hy_bd (fX10_throwsIf μ 0 x) k = some o) : k μ 0 = some o := by
  have e : fX10_throwsIf μ 0 x = some (μ, 0) := by
    unfold fX10_throwsIf fX10_throwsIf_9 hy_ck
    rw [if_pos rfl, if_pos (Or.inl rfl)]
  rw [e] at h
  exact h
theorem hi_t1 (h : hy_bd (fX10_throwsIf μ 1 x) k = some o) : k (hy_si μ 0 x) 1 = some o := by
  have e : fX10_throwsIf μ 1 x = some (hy_si μ 0 x, 1) := by
    unfold fX10_throwsIf fX10_throwsIf_9 hy_ck
    rw [if_neg (by decide)]
    show (if (1 : Int32) = 0 ∨ (1 : Int32) = 1 then some (hy_si μ 0 x, (1 : Int32)) else none) = _
    rw [if_pos (Or.inr rfl)]
  rw [e] at h
  exact h
theorem hi_no {f : Option (hy_S × Int32)} {n : Int} (hz : z.toInt = n - 1) (hf : f = hy_bd (fX10_in μ x 0 z) (fun σ1 v2 => if v2 = 0 then some (σ1, 1) else some (σ1, 0))) (h : hy_bd f k = some o) : (0 ≤ x.toInt ∧ x.toInt < n ∧ k μ 0 = some o) ∨ ((x.toInt < 0 ∨ n ≤ x.toInt) ∧ k μ 1 = some o) := by
  rw [hf] at h
  unfold fX10_in at h
  by_cases c1 : x < 0
  · rw [if_pos c1] at h
    exact Or.inr ⟨Or.inl (Int32.lt_iff_toInt_lt.mp c1), h⟩
  · rw [if_neg c1] at h
    have a1 : ¬ x.toInt < 0 := fun q => c1 (Int32.lt_iff_toInt_lt.mpr q)
    by_cases c2 : z < x
    · rw [if_pos c2] at h
      have a2 := Int32.lt_iff_toInt_lt.mp c2
      exact Or.inr ⟨Or.inr (by omega), h⟩
    · rw [if_neg c2] at h
      have a2 : ¬ z.toInt < x.toInt := fun q => c2 (Int32.lt_iff_toInt_lt.mpr q)
      exact Or.inl ⟨by omega, by omega, h⟩
theorem hi_nj (hb : 0 ≤ (μ.2 2).toInt) (h : hy_bd (fX10_noJar μ x) k = some o) : (0 ≤ x.toInt ∧ x.toInt < (μ.2 2).toInt ∧ k μ 0 = some o) ∨ ((x.toInt < 0 ∨ (μ.2 2).toInt ≤ x.toInt) ∧ k μ 1 = some o) :=
  hi_no (hs_subk 1 rfl (by omega) (by have := hs_any (μ.2 2); omega)) rfl h
theorem hi_ns (hb : 0 ≤ (μ.2 9).toInt) (h : hy_bd (fX10_noSherd μ x) k = some o) : (0 ≤ x.toInt ∧ x.toInt < (μ.2 9).toInt ∧ k μ 0 = some o) ∨ ((x.toInt < 0 ∨ (μ.2 9).toInt ≤ x.toInt) ∧ k μ 1 = some o) :=
  hi_no (hs_subk 1 rfl (by omega) (by have := hs_any (μ.2 9); omega)) rfl h
theorem hi_nt (h : hy_bd (fX10_noStamp μ x) k = some o) : (0 ≤ x.toInt ∧ x.toInt < 12 ∧ k μ 0 = some o) ∨ ((x.toInt < 0 ∨ 12 ≤ x.toInt) ∧ k μ 1 = some o) :=
  hi_no (z := 11) (n := 12) rfl rfl h
theorem hi_nh (hb : 0 ≤ (μ.2 3).toInt) (h : hy_bd (fX10_noHold μ x y) k = some o) : (0 ≤ x.toInt ∧ x.toInt < (μ.2 3).toInt ∧ 0 ≤ y.toInt ∧ y.toInt < 6 ∧ k μ 0 = some o) ∨ ((x.toInt < 0 ∨ (μ.2 3).toInt ≤ x.toInt ∨ y.toInt < 0 ∨ 6 ≤ y.toInt) ∧ k μ 1 = some o) := by
  have hz : (μ.2 3 - 1).toInt = (μ.2 3).toInt - 1 := hs_subk 1 rfl (by omega) (by have := hs_any (μ.2 3); omega)
  obtain ⟨τ, v, e, h⟩ := hy_bd_some h
  unfold fX10_noHold fX10_noHold_23 at e
  rcases hi_in e with ⟨a, b, e⟩ | ⟨a, e⟩
  · rw [if_neg (by decide)] at e
    rcases hi_in e with ⟨c, d, e⟩ | ⟨c, e⟩
    · rw [if_neg (by decide)] at e
      rw [show τ = μ from (hi_pr e).1, show v = 0 from (hi_pr e).2] at h
      have a0 : (0 : Int) ≤ x.toInt := a
      have c0 : (0 : Int) ≤ y.toInt := c
      have d0 : y.toInt ≤ 5 := d
      exact Or.inl ⟨a0, by omega, c0, by omega, h⟩
    · rw [if_pos rfl] at e
      rw [show τ = μ from (hi_pr e).1, show v = 1 from (hi_pr e).2] at h
      refine Or.inr ⟨Or.inr (Or.inr ?_), h⟩
      rcases c with c | c
      · exact Or.inl c
      · have c0 : (5 : Int) < y.toInt := c
        exact Or.inr (by omega)
  · rw [if_pos rfl] at e
    rw [show τ = μ from (hi_pr e).1, show v = 1 from (hi_pr e).2] at h
    refine Or.inr ⟨?_, h⟩
    rcases a with a | a
    · exact Or.inl a
    · exact Or.inr (Or.inl (by omega))
end HIM
theorem hi_le {x y : Int32} : x ≤ y ↔ x.toInt ≤ y.toInt := Int32.le_iff_toInt_le
theorem hi_nle {x y : Int32} (h : ¬ x ≤ y) : ¬ x.toInt ≤ y.toInt := fun q => h (Int32.le_iff_toInt_le.mpr q)
theorem hi_nlt {x y : Int32} (h : ¬ x < y) : ¬ x.toInt < y.toInt := fun q => h (Int32.lt_iff_toInt_lt.mpr q)
theorem hi_ne {x y : Int32} (h : ¬ x = y) : ¬ x.toInt = y.toInt := fun q => h (Int32.toInt_inj.mp q)
theorem hi_upn {f : Nat → Int32} {k : Nat} {v : Int32} (h : f k = v) : upd f k v = f := by
  funext q
  by_cases e : q = k
  · rw [e, hs_upds, h]
  · rw [hs_upd e]
theorem hj_p1 {i : Int32} (h0 : 0 ≤ i.toInt) (h1 : i.toInt ≤ 5000) : (i + 1).toInt = i.toInt + 1 ∧ (i + 1).toNatClampNeg = i.toNatClampNeg + 1 := by
  have g1 : (i + 1).toInt = i.toInt + 1 := hs_addk 1 rfl (by omega) (by omega)
  refine ⟨g1, ?_⟩
  have n := hs_tn h0
  have m := hs_tn (x := i + 1) (by rw [g1]; omega)
  rw [g1] at m
  omega
noncomputable abbrev hv_i (r : Nat) : Int32 := Int32.ofNat r
theorem hv_ii {r : Nat} (h : r < 4096) : (hv_i r).toInt = (r : Int) := Int32.toInt_ofNat_of_lt (by omega)
theorem hv_iN {r : Nat} (h : r < 4096) : (hv_i r).toNatClampNeg = r := Int32.toNatClampNeg_ofNat_of_lt (by omega)
theorem hv_inj {a b : Nat} (ha : a < 4096) (hb : b < 4096) (h : hv_i a = hv_i b) : a = b := by
  have := congrArg Int32.toInt h
  rw [hv_ii ha, hv_ii hb] at this
  omega
theorem hv_of {x : Int32} (h0 : 0 ≤ x.toInt) (h1 : x.toInt < 4096) : x = hv_i x.toNatClampNeg := by
  have := hs_tn h0
  exact Int32.toInt_inj.mp (by rw [hv_ii (by omega)]; omega)
theorem hn_i1' {r : Nat} (h : r < 4000) : hv_i r + 1 = hv_i (r + 1) := Int32.toInt_inj.mp (by
  have e := hv_ii (r := r) (by omega)
  rw [hv_ii (by omega), (hj_p1 (i := hv_i r) (by omega) (by omega)).1, e]
  omega)
