/-! The ports of both sides: rates, notes counted, and what a check answers. -/
noncomputable def hu_R (σ μ : hy_S) : Prop := σ.1 15 = μ.1 14 ∧ σ.1 16 = μ.1 15 ∧ σ.1 17 = μ.1 16
theorem hu_keep {σ μ τ ν : hy_S} (a : ∀ j ∈ ([15, 16, 17] : List Nat), τ.1 j = σ.1 j) (b : ∀ j ∈ ([] : List Nat), τ.2 j = σ.2 j) (c : ∀ j ∈ ([14, 15, 16] : List Nat), ν.1 j = μ.1 j) (d : ∀ j ∈ ([] : List Nat), ν.2 j = μ.2 j) (hR : hu_R σ μ) : hu_R τ ν := by
  unfold hu_R
  rw [a 15 (by decide), a 16 (by decide), a 17 (by decide), c 14 (by decide), c 15 (by decide), c 16 (by decide)]
  exact hR
theorem hu_fa {τ ν : hy_S} {x1 f g : Int32} (hb : 0 ≤ (ν.2 2).toInt) (r8 : τ.1 8 = ν.1 6) (r9 : τ.1 9 = ν.1 7) (r6 : τ.1 6 = ν.1 4) (r7 : τ.1 7 = ν.1 5) (r4 : τ.2 4 = ν.2 2) (r15 : τ.1 15 = ν.1 14) (hk : ∀ k, k < 5 → τ.1 1 k = ν.1 19 k) (h : fX9_falsehoodAt τ x1 = some (τ, f)) (h2 : fX10_isFalse ν x1 = some (ν, g)) : f = g ∧ (f = 0 ∨ 0 < f.toInt) := by
  have n4 : (τ.2 4).toInt = (ν.2 2).toInt := by rw [r4]
  unfold fX9_falsehoodAt at h
  unfold fX10_isFalse at h2
  obtain ⟨_, v1, e1, h⟩ := hy_ga_some h
  obtain ⟨_, w1, d1, h2⟩ := hy_ga_some h2
  have q1 : w1 = v1 := by rw [d1, e1]; exact (hk 0 (by omega)).symm
  rw [q1] at h2
  have one : ∀ {k : Int32}, 0 < k.toInt → some (τ, k) = some (τ, f) → some (ν, k) = some (ν, g) → f = g ∧ (f = 0 ∨ 0 < f.toInt) := by
    intro k hk z1 z2
    have a := (hi_pr z1).2
    have b := (hi_pr z2).2
    have a : f = k := a
    have b : g = k := b
    rw [a, b]
    exact ⟨rfl, Or.inr hk⟩
  by_cases c : τ.2 4 ≤ v1
  · rw [if_pos c] at h
    have c1 : (τ.2 4).toInt ≤ v1.toInt := hi_le.mp c
    rcases hi_nj hb h2 with ⟨_, c2, h2⟩ | ⟨_, h2⟩
    · exfalso
      omega
    · rw [if_neg (by decide)] at h2
      exact one (by decide) h h2
  · rw [if_neg c] at h
    have c1 := hi_nle c
    obtain ⟨vin, v5, e5, h⟩ := hy_ga_some h
    have v0 : 0 ≤ v1.toInt := by
      by_cases z : v1 < 0
      · exact absurd (Or.inl z) vin
      · have := hi_nlt z
        have : ¬ v1.toInt < 0 := this
        omega
    rcases hi_nj hb h2 with ⟨_, _, h2⟩ | ⟨c2, h2⟩
    · rw [if_pos rfl] at h2
      obtain ⟨_, w5, d5, h2⟩ := hy_ga_some h2
      have q5 : w5 = v5 := by rw [d5, e5, r9]
      rw [q5] at h2
      by_cases c5 : v5 = 1
      · rw [if_pos c5] at h h2
        obtain ⟨_, v9, e9, h⟩ := hy_ga_some h
        obtain ⟨_, v12, e12, h⟩ := hy_ga_some h
        obtain ⟨_, w9, d9, h2⟩ := hy_ga_some h2
        obtain ⟨_, w12, d12, h2⟩ := hy_ga_some h2
        have q9 : w9 = v9 := by rw [d9, e9]; exact (hk 1 (by omega)).symm
        have q12 : w12 = v12 := by rw [d12, e12, r8]
        rw [q9, q12] at h2
        by_cases c9 : v9 = v12
        · rw [if_pos c9] at h h2
          obtain ⟨_, v16, e16, h⟩ := hy_ga_some h
          obtain ⟨_, v19, e19, h⟩ := hy_ga_some h
          obtain ⟨_, w16, d16, h2⟩ := hy_ga_some h2
          obtain ⟨_, w19, d19, h2⟩ := hy_ga_some h2
          have q16 : w16 = v16 := by rw [d16, e16]; exact (hk 2 (by omega)).symm
          have q19 : w19 = v19 := by rw [d19, e19, r6]
          rw [q16, q19] at h2
          by_cases c16 : v16 = v19
          · rw [if_pos c16] at h h2
            obtain ⟨_, v23, e23, h⟩ := hy_ga_some h
            obtain ⟨_, v26, e26, h⟩ := hy_ga_some h
            obtain ⟨_, w23, d23, h2⟩ := hy_ga_some h2
            obtain ⟨_, w26, d26, h2⟩ := hy_ga_some h2
            have q23 : w23 = v23 := by rw [d23, e23]; exact (hk 3 (by omega)).symm
            have q26 : w26 = v26 := by rw [d26, e26, r7]
            rw [q23, q26] at h2
            by_cases c23 : v23 = v26
            · rw [if_pos c23] at h h2
              obtain ⟨_, v30, e30, h⟩ := hy_ga_some h
              obtain ⟨_, v33, e33, h⟩ := hy_ga_some h
              obtain ⟨_, w30, d30, h2⟩ := hy_ga_some h2
              obtain ⟨_, w33, d33, h2⟩ := hy_ga_some h2
              obtain ⟨_, w39, d39, h2⟩ := hy_ga_some h2
              have q30 : w30 = v30 := by rw [d30, e30]; exact (hk 4 (by omega)).symm
              have q33 : w33 = v33 := by rw [d33, e33, r8]
              obtain ⟨σ36, v37, e36, h⟩ := hy_bd_some h
              unfold fX4_due at e36
              obtain ⟨_, u, ue, e36⟩ := hy_ga_some e36
              have q37 : v37 = (v33 * u + 9) / 10 := (hi_pr e36).2
              have q39 : w39 = u := by rw [d39, ue, r15]
              rw [show σ36 = τ from (hi_pr e36).1, q37] at h
              rw [q30, q33, q39] at h2
              by_cases c30 : v30 = (v33 * u + 9) / 10
              · rw [if_pos c30] at h h2
                have a : f = 0 := (hi_pr h).2
                have b : g = 0 := (hi_pr h2).2
                rw [a, b]
                exact ⟨rfl, Or.inl rfl⟩
              · rw [if_neg c30] at h h2
                exact one (by decide) h h2
            · rw [if_neg c23] at h h2
              exact one (by decide) h h2
          · rw [if_neg c16] at h h2
            exact one (by decide) h h2
        · rw [if_neg c9] at h h2
          exact one (by decide) h h2
      · rw [if_neg c5] at h h2
        exact one (by decide) h h2
    · exfalso
      omega
theorem hu_check {R S : hy_S → Prop} {σ μ : hy_S} {x1 : Int32} {o : hy_O} {o2 : hy_S × Int32} (hC : hc_I R σ) (hM : hm_I S μ) (hJ : hj_R σ μ) (hT : hn_R σ μ) (hR : hu_R σ μ) (h1 : fX9_check σ x1 = some o) (h2 : fX10_check μ x1 = some o2) : hu_R o.1 o2.1 ∧ ((o.2.2 = 0 ∧ o2.1.2 0 = 0) ∨ (o.2.2 = 1 ∧ o2.1.2 0 = 1) ∨ (o.2.2 = 2 ∧ o2.1.2 0 = 2)) ∧ (o.2.2 = 0 → o2.2 = o.2.1) := by
  have m2 : (0 : Int) ≤ (μ.2 2).toInt ∧ (μ.2 2).toInt ≤ 60 := hM.2.1 2
  rcases (hn_ck hC hM hT h1 h2).2 with ⟨_, b1, b2, b3, b4⟩ | ⟨_, _, b1, b2, b3, b4⟩ | ⟨_, _, b1, b2, τ, ν, f, g, t1, t2, t3, t4, t5, t6, t7, t8, t9, t10, t11, t12, t13, t14, t15⟩
  · refine ⟨?_, Or.inr (Or.inl ⟨b1, b2⟩), fun z => absurd (b1.symm.trans z) (by decide)⟩
    unfold hu_R
    rw [b3 15 (by decide), b3 16 (by decide), b3 17 (by decide), b4 14 (by decide), b4 15 (by decide), b4 16 (by decide)]
    exact hR
  · refine ⟨?_, Or.inr (Or.inr ⟨b1, b2⟩), fun z => absurd (b1.symm.trans z) (by decide)⟩
    unfold hu_R
    rw [b3 15 (by decide), b3 16 (by decide), b3 17 (by decide), b4 14 (by decide), b4 15 (by decide), b4 16 (by decide)]
    exact hR
  · have n2 : ν.2 2 = μ.2 2 := t4 2 (by decide) (by decide) (by decide) (by decide) (by decide) (by decide)
    obtain ⟨fg, f0⟩ := hu_fa (by rw [n2]; exact m2.1) (by rw [t1 8 (by decide), t3 6 (by decide)]; exact hJ.2.2.1.1) (by rw [t1 9 (by decide), t3 7 (by decide)]; exact hJ.2.2.1.2.1) (by rw [t1 6 (by decide), t3 4 (by decide)]; exact hJ.2.1.2.1) (by rw [t1 7 (by decide), t3 5 (by decide)]; exact hJ.2.1.2.2) (by rw [t2 4 (by decide) (by decide), n2]; exact hJ.2.2.2.1.2.1) (by rw [t1 15 (by decide), t3 14 (by decide)]; exact hR.1) t5 t6 t7
    refine ⟨⟨?_, ?_, ?_⟩, Or.inl ⟨b1, b2⟩, fun _ => by rw [t8, t9, fg]⟩
    · rw [t10 15 (by decide) (by decide), t1 15 (by decide), t11 14 (by decide) (by decide), t3 14 (by decide)]
      exact hR.1
    · rw [t12, t14, t1 16 (by decide), t3 15 (by decide), hR.2.1]
    · rw [t13, t15, t1 17 (by decide), t3 16 (by decide), hR.2.2, ← fg]
      rcases f0 with z | z
      · rw [z, if_pos rfl, if_pos (by decide), Int32.add_zero]
        exact (hi_upn rfl).symm
      · have n0 : ¬ f = 0 := fun y => by
          rw [y] at z
          exact absurd z (by decide)
        have n1 : ¬ f ≤ 0 := fun y => by
          have y : f.toInt ≤ 0 := hi_le.mp y
          omega
        rw [if_neg n0, if_neg n1]
theorem hu_rate {σ μ : hy_S} {x1 x2 : Int32} {o : hy_O} {o2 : hy_S × Int32} (hR : hu_R σ μ) (h1 : fX9_rate σ x1 x2 = some o) (h2 : fX10_rate μ x1 x2 = some o2) : hu_R o.1 o2.1 := by
  have same : ∀ {k : Int32}, hu_R σ (hy_si (hy_si μ 0 0) 0 k) := ⟨hR.1, hR.2.1, hR.2.2⟩
  unfold fX9_rate at h1
  unfold fX10_rate at h2
  obtain ⟨ν, eν, h2⟩ := hy_pf_some h2
  rcases hi_in h2 with ⟨c1, c2, h2⟩ | ⟨c1, h2⟩
  · have c1 : (0 : Int) ≤ x1.toInt := c1
    have c2 : x1.toInt ≤ (7 : Int) := c2
    rw [if_neg (by decide)] at h2
    unfold fX10_rate_21 at h2
    have h2 := hi_t0 h2
    rw [if_pos rfl] at h2
    rcases hi_ix h1 with ⟨a1, a2, h1⟩ | ⟨a1, h1⟩
    · rcases hi_in h2 with ⟨c3, c4, h2⟩ | ⟨c3, h2⟩
      · rw [if_neg (by decide)] at h2
        unfold fX10_rate_45 at h2
        have h2 := hi_t0 h2
        rw [if_pos rfl] at h2
        rcases hi_nm h1 with ⟨a3, a4, h1⟩ | ⟨a3, h1⟩
        · obtain ⟨_, τ, e, h1⟩ := hy_pa_some h1
          obtain ⟨_, ν2, f, h2⟩ := hy_pa_some h2
          rw [(hi_pr h1).1, e, (hi_pr h2).1, f, eν]
          refine ⟨?_, hR.2.1, hR.2.2⟩
          show upd (σ.1 15) x1.toNatClampNeg x2 = upd (μ.1 14) x1.toNatClampNeg x2
          rw [hR.1]
        · exfalso
          omega
      · rw [if_pos rfl] at h2
        unfold fX10_rate_45 at h2
        have h2 := hi_t1 h2
        rw [if_neg (by decide)] at h2
        rcases hi_nm h1 with ⟨a3, a4, h1⟩ | ⟨a3, h1⟩
        · exfalso
          omega
        · rw [h1, (hi_pr h2).1, eν]
          exact same
    · exfalso
      have a1 : x1.toInt < (0 : Int) ∨ (8 : Int) ≤ x1.toInt := a1
      omega
  · have c1 : x1.toInt < (0 : Int) ∨ (7 : Int) < x1.toInt := c1
    rw [if_pos rfl] at h2
    unfold fX10_rate_21 at h2
    have h2 := hi_t1 h2
    rw [if_neg (by decide)] at h2
    rcases hi_ix h1 with ⟨a1, a2, h1⟩ | ⟨a1, h1⟩
    · exfalso
      have a2 : x1.toInt < (8 : Int) := a2
      omega
    · rw [h1, (hi_pr h2).1, eν]
      exact same
theorem hu_notes {σ μ : hy_S} {x1 x2 : Int32} {o : hy_O} {o2 : hy_S × Int32} (hR : hu_R σ μ) (h1 : fX9_notes σ x1 x2 = some o) (h2 : fX10_notes μ x1 x2 = some o2) : hu_R o.1 o2.1 ∧ ((o.2.2 = 0 ∧ o2.1.2 0 = 0) ∨ (o.2.2 = 1 ∧ o2.1.2 0 = 1)) ∧ (o.2.2 = 0 → o2.2 = o.2.1) := by
  unfold fX9_notes at h1
  unfold fX10_notes at h2
  obtain ⟨ν, eν, h2⟩ := hy_pf_some h2
  rcases hi_in h2 with ⟨c1, c2, h2⟩ | ⟨c1, h2⟩
  · have c1 : (0 : Int) ≤ x1.toInt := c1
    have c2 : x1.toInt ≤ (7 : Int) := c2
    rw [if_neg (by decide)] at h2
    unfold fX10_notes_21 at h2
    have h2 := hi_t0 h2
    rw [if_pos rfl] at h2
    rcases hi_ix h1 with ⟨a1, a2, h1⟩ | ⟨a1, h1⟩
    · have row : ∀ {j q : Nat}, σ.1 j = ν.1 q → hy_ga σ j 8 x1 (fun v => some (σ, v, 0)) = some o → hy_ga ν q 8 x1 (fun v => some (ν, v)) = some o2 → hu_R o.1 o2.1 ∧ ((o.2.2 = 0 ∧ o2.1.2 0 = 0) ∨ (o.2.2 = 1 ∧ o2.1.2 0 = 1)) ∧ (o.2.2 = 0 → o2.2 = o.2.1) := by
        intro j q e z1 z2
        obtain ⟨_, v, f, z1⟩ := hy_ga_some z1
        obtain ⟨_, w, g, z2⟩ := hy_ga_some z2
        rw [← e, ← f] at g
        rw [← Option.some.inj z1, ← Option.some.inj z2, g, eν]
        exact ⟨⟨hR.1, hR.2.1, hR.2.2⟩, Or.inl ⟨rfl, rfl⟩, fun _ => rfl⟩
      by_cases c : x2 = 0
      · rw [if_pos c] at h1 h2
        exact row (by rw [eν]; exact hR.2.1) h1 h2
      · rw [if_neg c] at h1 h2
        exact row (by rw [eν]; exact hR.2.2) h1 h2
    · exfalso
      have a1 : x1.toInt < (0 : Int) ∨ (8 : Int) ≤ x1.toInt := a1
      omega
  · have c1 : x1.toInt < (0 : Int) ∨ (7 : Int) < x1.toInt := c1
    rw [if_pos rfl] at h2
    unfold fX10_notes_21 at h2
    have h2 := hi_t1 h2
    rw [if_neg (by decide)] at h2
    rcases hi_ix h1 with ⟨a1, a2, h1⟩ | ⟨a1, h1⟩
    · exfalso
      have a2 : x1.toInt < (8 : Int) := a2
      omega
    · rw [h1, (hi_pr h2).1, eν]
      exact ⟨⟨hR.1, hR.2.1, hR.2.2⟩, Or.inr ⟨rfl, rfl⟩, fun z => absurd z (Nat.succ_ne_zero _)⟩
