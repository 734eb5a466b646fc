/-! The yard on both sides: weights, sums from above, loading. -/
noncomputable def hj_T (w : Nat → Int32) (t : Nat) : Nat → Int32
  | 0 => 0
  | d + 1 => hj_T w t d + w (t - 1 - d)
noncomputable def hj_W (ke kd oi : Nat → Int32) (j : Nat) : Int32 := ke (kd j).toNatClampNeg + oi j
noncomputable def hj_B (kb kd : Nat → Int32) (j : Nat) : Int32 := kb (kd j).toNatClampNeg
noncomputable def hj_w (ke kd oi st : Nat → Int32) (h k : Nat) : Int32 := hj_W ke kd oi (st (10 * h + k)).toNatClampNeg
noncomputable def hj_b (kb kd st : Nat → Int32) (h k : Nat) : Int32 := hj_B kb kd (st (10 * h + k)).toNatClampNeg
theorem hj_wc {σ : hy_S} {x : Int32} {o : hy_S × Int32} (h : fX1_weight σ x = some o) : o = (σ, hj_W (σ.1 2) (σ.1 5) (σ.1 8) x.toNatClampNeg) := by
  unfold fX1_weight at h
  obtain ⟨_, v1, e1, h⟩ := hy_ga_some h
  obtain ⟨_, v4, e4, h⟩ := hy_ga_some h
  obtain ⟨_, v7, e7, h⟩ := hy_ga_some h
  subst e1
  subst e4
  subst e7
  exact (Option.some.inj h).symm
theorem hj_bc {σ : hy_S} {x : Int32} {o : hy_S × Int32} (h : fX1_bears σ x = some o) : o = (σ, hj_B (σ.1 4) (σ.1 5) x.toNatClampNeg) := by
  unfold fX1_bears at h
  obtain ⟨_, v1, e1, h⟩ := hy_ga_some h
  obtain ⟨_, v4, e4, h⟩ := hy_ga_some h
  subst e1
  subst e4
  exact (Option.some.inj h).symm
theorem hj_wm {μ : hy_S} {x : Int32} {o : hy_S × Int32} (h : fX10_weight μ x = some o) : o = (μ, hj_W (μ.1 0) (μ.1 3) (μ.1 6) x.toNatClampNeg) := by
  unfold fX10_weight at h
  obtain ⟨_, v1, e1, h⟩ := hy_ga_some h
  obtain ⟨_, v4, e4, h⟩ := hy_ga_some h
  obtain ⟨_, v7, e7, h⟩ := hy_ga_some h
  subst e1
  subst e4
  subst e7
  exact (Option.some.inj h).symm
theorem hj_ix {x y : Int32} (h0 : 0 ≤ x.toInt) (h1 : x.toInt < 24) (h2 : 0 ≤ y.toInt) (h3 : y.toInt ≤ 10) : (10 * x + y).toNatClampNeg = 10 * x.toNatClampNeg + y.toNatClampNeg ∧ (x * 10 + y).toNatClampNeg = 10 * x.toNatClampNeg + y.toNatClampNeg := by
  have e : x * 10 = 10 * x := Int32.mul_comm _ _
  have f2 : (10 * x).toInt = 10 * x.toInt := hs_mull 10 rfl (by omega) (by omega)
  have f3 : (10 * x + y).toInt = 10 * x.toInt + y.toInt := by rw [hs_add (by rw [f2]; omega) (by rw [f2]; omega), f2]
  rw [e]
  obtain ⟨q, hq⟩ : ∃ q, q = 10 * x + y := ⟨_, rfl⟩
  rw [← hq] at f3 ⊢
  have n := hs_tn h0
  have m := hs_tn h2
  have k := hs_tn (x := q) (by rw [f3]; omega)
  exact ⟨by omega, by omega⟩
theorem hj_ab {μ : hy_S} {x1 : Int32} (p0 : 0 ≤ x1.toInt) (p1 : x1.toInt < 24) {t : Nat} (ht : (μ.1 10 x1.toNatClampNeg).toInt = (t : Int)) (t10 : t ≤ 10) {w : Nat → Int32} (hw : w = hj_w (μ.1 0) (μ.1 3) (μ.1 6) (μ.1 9) x1.toNatClampNeg) : ∀ (n : Nat) (a i : Int32) (o : hy_S × Int32), 0 ≤ i.toInt → i.toInt ≤ 10 → fX10_above_7 n μ x1 a i = some o → o = (μ, a + hj_T w t (t - i.toNatClampNeg)) := by
  intro n
  induction n with
  | zero => intro a i o h0 h1 h; cases h
  | succ n ih =>
    intro a i o h0 h1 h
    unfold fX10_above_7 at h
    obtain ⟨_, v1, e1, h⟩ := hy_ga_some h
    have hv : v1.toInt = (t : Int) := by rw [e1]; exact ht
    have ni := hs_tn h0
    by_cases c : v1 ≤ i
    · rw [if_pos c] at h
      have c1 : v1.toInt ≤ i.toInt := hi_le.mp c
      have e0 : t - i.toNatClampNeg = 0 := by omega
      rw [e0, ← Option.some.inj h]
      show (μ, a) = (μ, a + 0)
      rw [Int32.add_zero]
    · rw [if_neg c] at h
      have c1 := hi_nle c
      obtain ⟨_, v5, e5, h⟩ := hy_ga_some h
      obtain ⟨σ8, v9, e9, h⟩ := hy_bd_some h
      have e10 := hj_wm e9
      have e11 : σ8 = μ := congrArg Prod.fst e10
      have e12 : v9 = hj_W (μ.1 0) (μ.1 3) (μ.1 6) v5.toNatClampNeg := congrArg Prod.snd e10
      rw [e11] at h
      obtain ⟨g1, g2⟩ := hj_p1 h0 (by omega)
      have e13 := ih (a + v9) (i + 1) o (by rw [g1]; omega) (by rw [g1]; omega) h
      have e15 : v9 = w i.toNatClampNeg := by
        rw [e12, e5, (hj_ix p0 p1 h0 h1).1, hw]
        rfl
      rw [e13, g2]
      have e16 : t - i.toNatClampNeg = (t - (i.toNatClampNeg + 1)) + 1 := by omega
      have e17 : t - 1 - (t - (i.toNatClampNeg + 1)) = i.toNatClampNeg := by omega
      rw [e16]
      show (μ, a + v9 + hj_T w t (t - (i.toNatClampNeg + 1))) = (μ, a + (hj_T w t (t - (i.toNatClampNeg + 1)) + w (t - 1 - (t - (i.toNatClampNeg + 1)))))
      rw [e17, ← e15, Int32.add_assoc, Int32.add_comm v9]
theorem hj_abv {μ : hy_S} {x1 x2 : Int32} (p0 : 0 ≤ x1.toInt) (p1 : x1.toInt < 24) {t : Nat} (ht : (μ.1 10 x1.toNatClampNeg).toInt = (t : Int)) (t10 : t ≤ 10) {w : Nat → Int32} (hw : w = hj_w (μ.1 0) (μ.1 3) (μ.1 6) (μ.1 9) x1.toNatClampNeg) {o : hy_S × Int32} (h0 : 0 ≤ x2.toInt) (h1 : x2.toInt ≤ 9) (h : fX10_above μ x1 x2 = some o) : o = (μ, hj_T w t (t - 1 - x2.toNatClampNeg)) := by
  unfold fX10_above at h
  obtain ⟨g1, g2⟩ := hj_p1 h0 (by omega)
  have e := hj_ab p0 p1 ht t10 hw hy_fu 0 (x2 + 1) o (by rw [g1]; omega) (by rw [g1]; omega) h
  rw [e, g2, Int32.zero_add]
  have e2 : t - (x2.toNatClampNeg + 1) = t - 1 - x2.toNatClampNeg := by omega
  rw [e2]
theorem hj_cb {σ : hy_S} {x1 : Int32} (p0 : 0 ≤ x1.toInt) (p1 : x1.toInt < 24) {t : Nat} (t10 : t ≤ 10) {w b : Nat → Int32} (hw : w = hj_w (σ.1 2) (σ.1 5) (σ.1 8) (σ.1 11) x1.toNatClampNeg) (hb : b = hj_b (σ.1 4) (σ.1 5) (σ.1 11) x1.toNatClampNeg) (a : Int32) : ∀ (n : Nat) (x3 x4 : Int32) (d : Nat) (o : hy_S × Int32), -1 ≤ x4.toInt → x4.toInt + 1 + (d : Int) = (t : Int) → x3 = a + hj_T w t d → fX0_canBear_19 n σ x1 x3 x4 = some o → o.1 = σ ∧ ((o.2 = 1 ∧ ∀ k : Nat, k + d < t → a + hj_T w t (t - 1 - k) ≤ b k) ∨ (o.2 = 0 ∧ ∃ k : Nat, k + d < t ∧ ¬ a + hj_T w t (t - 1 - k) ≤ b k)) := by
  intro n
  induction n with
  | zero => intro x3 x4 d o h0 h1 h2 h; cases h
  | succ n ih =>
    intro x3 x4 d o h0 h1 h2 h
    unfold fX0_canBear_19 at h
    by_cases c : x4 < 0
    · rw [if_pos c] at h
      have c1 : x4.toInt < 0 := Int32.lt_iff_toInt_lt.mp c
      obtain ⟨q1, q2⟩ := hi_pr h
      exact ⟨q1, Or.inl ⟨q2, fun k hk => absurd hk (by omega)⟩⟩
    · rw [if_neg c] at h
      have c1 : ¬ x4.toInt < 0 := hi_nlt c
      have h0' : 0 ≤ x4.toInt := by omega
      have nx := hs_tn h0'
      obtain ⟨_, v2, e2, h⟩ := hy_ga_some h
      rw [(hj_ix p0 p1 h0' (by omega)).2] at e2
      obtain ⟨σ5, v6, e6, h⟩ := hy_bd_some h
      have e7 := hj_bc e6
      have e8 : σ5 = σ := congrArg Prod.fst e7
      have e9 : v6 = b x4.toNatClampNeg := by
        rw [show v6 = hj_B (σ.1 4) (σ.1 5) v2.toNatClampNeg from congrArg Prod.snd e7, e2, hb]
        rfl
      have ed : t - 1 - x4.toNatClampNeg = d := by omega
      rw [e8] at h
      by_cases c2 : x3 ≤ v6
      · rw [if_pos c2] at h
        obtain ⟨σ9, v10, e10, h⟩ := hy_bd_some h
        have e11 := hj_wc e10
        have e12 : σ9 = σ := congrArg Prod.fst e11
        have e13 : v10 = w x4.toNatClampNeg := by
          rw [show v10 = hj_W (σ.1 2) (σ.1 5) (σ.1 8) v2.toNatClampNeg from congrArg Prod.snd e11, e2, hw]
          rfl
        rw [e12] at h
        have g1 : (x4 + (-1)).toInt = x4.toInt + (-1) := hs_addk (-1) rfl (by omega) (by omega)
        have e14 : x3 + v10 = a + hj_T w t (d + 1) := by
          show x3 + v10 = a + (hj_T w t d + w (t - 1 - d))
          rw [show t - 1 - d = x4.toNatClampNeg by omega, ← e13, h2, Int32.add_assoc]
        obtain ⟨q1, q2⟩ := ih (x3 + v10) (x4 + (-1)) (d + 1) o (by rw [g1]; omega) (by rw [g1]; omega) e14 h
        refine ⟨q1, ?_⟩
        rcases q2 with ⟨f1, f2⟩ | ⟨f1, k, hk, f2⟩
        · refine Or.inl ⟨f1, fun k hk => ?_⟩
          by_cases ek : k = x4.toNatClampNeg
          · rw [ek, ed, ← e9, ← h2]
            exact c2
          · exact f2 k (by omega)
        · exact Or.inr ⟨f1, k, by omega, f2⟩
      · rw [if_neg c2] at h
        obtain ⟨q1, q2⟩ := hi_pr h
        refine ⟨q1, Or.inr ⟨q2, x4.toNatClampNeg, by omega, ?_⟩⟩
        rw [ed, ← e9, ← h2]
        exact c2
/-- the place of a jar, its pile, the stacks and their heights belong together -/
noncomputable def hj_P (pl pi st ht : Nat → Int32) : Prop := (∀ p k : Nat, p < 24 → (k : Int) < (ht p).toInt → pl (st (10 * p + k)).toNatClampNeg = 1 ∧ (pi (st (10 * p + k)).toNatClampNeg).toInt = (p : Int)) ∧ (∀ p k q : Nat, p < 24 → k < q → (q : Int) < (ht p).toInt → (st (10 * p + k)).toNatClampNeg ≠ (st (10 * p + q)).toNatClampNeg)
theorem hj_Pload {pl pi st ht : Nat → Int32} (hP : hj_P pl pi st ht) (h10 : ∀ p, (ht p).toInt ≤ 10) {j h : Int32} {t : Nat} (h0 : 0 ≤ h.toInt) (h1 : h.toInt < 24) (ht' : (ht h.toNatClampNeg).toInt = (t : Int)) (t9 : t < 10) (hj : pl j.toNatClampNeg = 0) : hj_P (upd pl j.toNatClampNeg 1) (upd pi j.toNatClampNeg h) (upd st (10 * h.toNatClampNeg + t) j) (upd ht h.toNatClampNeg (ht h.toNatClampNeg + 1)) := by
  have nh := hs_tn h0
  have g1 : (ht h.toNatClampNeg + 1).toInt = (t : Int) + 1 := by rw [hs_addk 1 rfl (by omega) (by omega), ht']
  have old : ∀ p k : Nat, p < 24 → (k : Int) < (ht p).toInt → (st (10 * p + k)).toNatClampNeg ≠ j.toNatClampNeg := by
    intro p k hp hk e
    have := (hP.1 p k hp hk).1
    rw [e, hj] at this
    exact absurd this (by decide)
  have cell : ∀ p k : Nat, p < 24 → (k : Int) < (ht p).toInt → upd st (10 * h.toNatClampNeg + t) j (10 * p + k) = st (10 * p + k) := by
    intro p k hp hk
    have := h10 p
    refine hs_upd ?_
    by_cases e : p = h.toNatClampNeg
    · subst e
      omega
    · omega
  have split : ∀ p k : Nat, p < 24 → (k : Int) < (upd ht h.toNatClampNeg (ht h.toNatClampNeg + 1) p).toInt → (k : Int) < (ht p).toInt ∨ (p = h.toNatClampNeg ∧ k = t) := by
    intro p k hp hk
    by_cases e : p = h.toNatClampNeg
    · subst e
      rw [hs_upds, g1] at hk
      by_cases e2 : k = t
      · exact Or.inr ⟨rfl, e2⟩
      · exact Or.inl (by omega)
    · rw [hs_upd e] at hk
      exact Or.inl hk
  refine ⟨fun p k hp hk => ?_, fun p k q hp hkq hq => ?_⟩
  · rcases split p k hp hk with hk | ⟨e1, e2⟩
    · rw [cell p k hp hk, hs_upd (old p k hp hk), hs_upd (old p k hp hk)]
      exact hP.1 p k hp hk
    · subst e1
      subst e2
      rw [hs_upds, hs_upds, hs_upds]
      exact ⟨rfl, nh.symm⟩
  · rcases split p q hp hq with hq | ⟨e1, e2⟩
    · rw [cell p k hp (by omega), cell p q hp hq]
      exact hP.2 p k q hp hkq hq
    · subst e1
      subst e2
      have hk : (k : Int) < (ht h.toNatClampNeg).toInt := by omega
      rw [cell _ k hp hk, hs_upds]
      exact old _ k hp hk
theorem hj_Pland {pl pi st ht : Nat → Int32} (hP : hj_P pl pi st ht) {h : Nat} {t : Nat} (h1 : h < 24) (ht' : (ht h).toInt = (t : Int) + 1) {v : Int32} (hv : v.toInt = (t : Int)) {j : Nat} (hj : (st (10 * h + t)).toNatClampNeg = j) : hj_P (upd pl j 2) (upd pi j (-1)) st (upd ht h v) := by
  have split : ∀ p k : Nat, p < 24 → (k : Int) < (upd ht h v p).toInt → (k : Int) < (ht p).toInt ∧ (st (10 * p + k)).toNatClampNeg ≠ j := by
    intro p k hp hk
    by_cases e : p = h
    · subst e
      rw [hs_upds, hv] at hk
      refine ⟨by omega, ?_⟩
      rw [← hj]
      exact hP.2 p k t hp (by omega) (by omega)
    · rw [hs_upd e] at hk
      refine ⟨hk, fun e2 => ?_⟩
      have a := (hP.1 p k hp hk).2
      have b := (hP.1 h t h1 (by omega)).2
      rw [e2] at a
      rw [hj] at b
      omega
  refine ⟨fun p k hp hk => ?_, fun p k q hp hkq hq => ?_⟩
  · obtain ⟨a, b⟩ := split p k hp hk
    rw [hs_upd b, hs_upd b]
    exact hP.1 p k hp a
  · exact hP.2 p k q hp hkq (split p q hp hq).1
