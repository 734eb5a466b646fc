/-! A storm over a ship; what is counted; what is seen of a jar. -/
theorem hj_cI {σ τ : hy_S} {x1 x2 v : Int32} (hC : hc_I (fun _ => True) σ) (p0 : 0 ≤ x1.toInt) (p1 : x1.toInt < 24) (h : fX0_breakWeak σ x1 x2 = some (τ, v)) : hc_I (fun _ => True) τ := by
  obtain ⟨o, e, i⟩ := s_fX0_breakWeak (R := fun _ => True) (fun _ _ _ _ _ => trivial) (fun _ _ _ _ _ => trivial) σ x1 x2 (P := fun τ _ => hc_I (fun _ => True) τ) hC p0 p1 (fun _ _ h => h)
  rw [h] at e
  have e2 := Option.some.inj e
  rw [← e2] at i
  exact i
theorem hj_cI2 {σ τ : hy_S} {x1 v : Int32} (hC : hc_I (fun _ => True) σ) (p0 : 0 ≤ x1.toInt) (p1 : x1.toInt < 24) (h : fX0_closeGaps σ x1 = some (τ, v)) : hc_I (fun _ => True) τ := by
  obtain ⟨o, e, i⟩ := s_fX0_closeGaps (R := fun _ => True) (fun _ _ _ _ _ => trivial) (fun _ _ _ _ _ => trivial) σ x1 (P := fun τ _ => hc_I (fun _ => True) τ) hC p0 p1 (fun _ _ h => h)
  rw [h] at e
  have e2 := Option.some.inj e
  rw [← e2] at i
  exact i
theorem hj_sh {x1 x2 : Int32} (h0 : 0 ≤ x1.toInt) (h1 : x1.toInt < 4) : ∀ (n : Nat) (σ μ : hy_S) (x3 x4 : Int32) (o o2 : hy_S × Int32), hc_I (fun _ => True) σ → hj_R σ μ → 0 ≤ x4.toInt → x4.toInt ≤ 6 → fX0_shake_5 n σ x1 x2 x3 x4 = some o → fX10_storm_62 n μ x1 x2 x3 x4 = some o2 → hj_R o.1 o2.1 ∧ o2.2 = o.2 ∧ o2.1.2 = μ.2 := by
  intro n
  induction n with
  | zero => intro σ μ x3 x4 o o2 hC hR a0 a1 h; cases h
  | succ n ih =>
    intro σ μ x3 x4 o o2 hC hR a0 a1 h h2
    unfold fX0_shake_5 at h
    unfold fX10_storm_62 at h2
    by_cases c : 6 ≤ x4
    · rw [if_pos c] at h h2
      rw [← Option.some.inj h, ← Option.some.inj h2]
      exact ⟨hR, rfl, rfl⟩
    · rw [if_neg c] at h h2
      have c1 : ¬ (6 : Int) ≤ x4.toInt := hi_nle c
      obtain ⟨pe, pp0, pp1⟩ := hj_pile (Int.le_refl 4) h0 h1 a0 (by omega)
      rw [pe] at h2
      obtain ⟨σ2, v3, e2, h⟩ := hy_bd_some h
      unfold fX0_pileOf at e2
      have u1 : σ2 = σ := (hi_pr e2).1
      have u2 : v3 = x1 * 6 + x4 := (hi_pr e2).2
      rw [u1, u2] at h
      obtain ⟨P, eP⟩ : ∃ P, P = x1 * 6 + x4 := ⟨_, rfl⟩
      rw [← eP] at h h2 pp0 pp1
      obtain ⟨_, v5, e5, h⟩ := hy_ga_some h
      obtain ⟨σ8, v9, e8, h⟩ := hy_bd_some h
      obtain ⟨σ11, v12, e11, h⟩ := hy_bd_some h
      obtain ⟨_, v14, e14, h⟩ := hy_ga_some h
      obtain ⟨μ2, y3, f2, h2⟩ := hy_bd_some h2
      obtain ⟨m1, m2, m3⟩ := hj_meet hC hR pp0 pp1 e8 e11 f2
      have m2 : y3 = v5 - v14 := by rw [e5, e14]; exact m2
      rw [m2] at h2
      obtain ⟨g1, g2⟩ := hj_p1 a0 (by omega)
      obtain ⟨r1, r2, r3⟩ := ih σ11 μ2 (x3 + (v5 - v14)) (x4 + 1) o o2 (hj_cI2 (hj_cI hC pp0 pp1 e8) pp0 pp1 e11) m1 (by rw [g1]; omega) (by rw [g1]; omega) h h2
      exact ⟨r1, r2, r3.trans m3⟩
theorem hj_storm {σ μ : hy_S} {x1 x2 : Int32} {o : hy_O} {o2 : hy_S × Int32} (hC : hc_I (fun _ => True) σ) (hR : hj_R σ μ) (h1 : fX9_storm σ x1 x2 = some o) (h2 : fX10_storm μ x1 x2 = some o2) : hj_R o.1 o2.1 ∧ ((o.2.2 = 0 ∧ o2.1.2 0 = 0) ∨ (o.2.2 = 1 ∧ o2.1.2 0 = 1) ∨ (o.2.2 = 2 ∧ o2.1.2 0 = 2)) ∧ (o.2.2 = 0 → o2.2 = o.2.1) := by
  have hN := hR.2.2.2.1
  have i5 : (0 : Int) ≤ (σ.2 5).toInt ∧ (σ.2 5).toInt ≤ 4 := hC.2.1 5
  have n5 : (σ.2 5).toInt = (μ.2 3).toInt := by rw [hN.2.2]
  unfold fX9_storm at h1
  unfold fX10_storm at h2
  obtain ⟨ν, eν, h2⟩ := hy_pf_some h2
  have b3 : ν.2 3 = μ.2 3 := by rw [eν]; rfl
  have hz : (ν.2 3 - 1).toInt = (μ.2 3).toInt - 1 := by rw [b3]; exact hs_subk 1 rfl (by omega) (by omega)
  rcases hi_in h2 with ⟨c1, c2, h2⟩ | ⟨c1, h2⟩
  · rw [if_neg (by decide)] at h2
    unfold fX10_storm_25 at h2
    have h2 := hi_t0 h2
    rw [if_pos rfl] at h2
    rw [hz] at c2
    have c1 : (0 : Int) ≤ x1.toInt := c1
    rcases hi_ix h1 with ⟨a1, a2, h1⟩ | ⟨a1, h1⟩
    · rcases hi_in h2 with ⟨c3, c4, h2⟩ | ⟨c3, h2⟩
      · rw [if_neg (by decide)] at h2
        unfold fX10_storm_48 at h2
        have h2 := hi_t0 h2
        rw [if_pos rfl] at h2
        have c3 : (0 : Int) ≤ x2.toInt := c3
        have c4 : x2.toInt ≤ (100 : Int) := c4
        rcases hi_nm h1 with ⟨a3, a4, h1⟩ | ⟨a3, h1⟩
        · obtain ⟨σ9, v10, e9, h1⟩ := hy_bd_some h1
          obtain ⟨p1, p2⟩ := hi_pr h1
          have p3 : o.2.1 = v10 := congrArg Prod.fst p2
          have p4 : o.2.2 = 0 := congrArg Prod.snd p2
          unfold fX0_shake at e9
          rw [eν] at h2
          obtain ⟨r1, r2, r3⟩ := hj_sh a1 (by omega) hy_fu σ (hy_si μ 0 0) 0 0 (σ9, v10) o2 hC (hj_t1 hR) (by decide) (by decide) e9 h2
          refine ⟨?_, Or.inl ⟨p4, by rw [r3]; rfl⟩, fun _ => by rw [r2, p3]⟩
          rw [p1]
          exact r1
        · exfalso
          have a3 : x2.toInt < (0 : Int) ∨ (100 : Int) < x2.toInt := a3
          omega
      · rw [if_pos rfl] at h2
        unfold fX10_storm_48 at h2
        have h2 := hi_t1 h2
        rw [if_neg (by decide)] at h2
        have c3 : x2.toInt < (0 : Int) ∨ (100 : Int) < x2.toInt := c3
        obtain ⟨s1, s2⟩ := hi_pr h2
        rcases hi_nm h1 with ⟨a3, a4, h1⟩ | ⟨a3, h1⟩
        · exfalso
          have a3 : (0 : Int) ≤ x2.toInt := a3
          have a4 : x2.toInt ≤ (100 : Int) := a4
          omega
        · refine ⟨?_, Or.inr (Or.inr ⟨by rw [h1], by rw [s1]; rfl⟩), fun z => ?_⟩
          · rw [s1, h1, eν]
            exact hj_t2 hR
          · rw [h1] at z
            exact absurd z (Nat.succ_ne_zero _)
    · exfalso
      omega
  · rw [if_pos rfl] at h2
    unfold fX10_storm_25 at h2
    have h2 := hi_t1 h2
    rw [if_neg (by decide)] at h2
    rw [hz] at c1
    have c1 : x1.toInt < (0 : Int) ∨ (μ.2 3).toInt - 1 < x1.toInt := c1
    obtain ⟨s1, s2⟩ := hi_pr h2
    rcases hi_ix h1 with ⟨a1, a2, h1⟩ | ⟨a1, h1⟩
    · exfalso
      omega
    · refine ⟨?_, Or.inr (Or.inl ⟨by rw [h1], by rw [s1]; rfl⟩), fun z => ?_⟩
      · rw [s1, h1, eν]
        exact hj_t2 hR
      · rw [h1] at z
        exact absurd z (Nat.succ_ne_zero _)
theorem hj_cn {σ μ : hy_S} {a x : Int32} (ha : x - 2 = a) (h9 : σ.1 9 = μ.1 7) (h4 : σ.2 4 = μ.2 2) : ∀ (n : Nat) (b i : Int32) (o o2 : hy_S × Int32), fX1_countIn_4 n σ a b i = some o → fX10_count_76 n μ x b i = some o2 → o.1 = σ ∧ o2.1 = μ ∧ o.2 = o2.2 := by
  intro n
  induction n with
  | zero => intro b i o o2 h; cases h
  | succ n ih =>
    intro b i o o2 h h2
    unfold fX1_countIn_4 at h
    unfold fX10_count_76 at h2
    rw [← h4] at h2
    by_cases c : σ.2 4 ≤ i
    · rw [if_pos c] at h h2
      rw [← Option.some.inj h, ← Option.some.inj h2]
      exact ⟨rfl, rfl, rfl⟩
    · rw [if_neg c] at h h2
      obtain ⟨_, v2, e2, h⟩ := hy_ga_some h
      obtain ⟨_, w2, f2, h2⟩ := hy_ga_some h2
      have q : w2 = v2 := by rw [f2, e2, h9]
      rw [q, ha] at h2
      by_cases c2 : v2 = a
      · rw [if_pos c2] at h h2
        unfold fX1_countIn_25 at h
        unfold fX10_count_102 at h2
        exact ih (b + 1) (i + 1) o o2 h h2
      · rw [if_neg c2] at h h2
        unfold fX1_countIn_25 at h
        unfold fX10_count_102 at h2
        rw [Int32.add_zero] at h2
        exact ih b (i + 1) o o2 h h2
theorem hj_co {σ μ : hy_S} (h9 : σ.1 9 = μ.1 7) (h8 : σ.1 8 = μ.1 6) (h4 : σ.2 4 = μ.2 2) : ∀ (n : Nat) (b i : Int32) (o o2 : hy_S × Int32), fX1_oilUnbroken_4 n σ b i = some o → fX10_count_114 n μ b i = some o2 → o.1 = σ ∧ o2.1 = μ ∧ o.2 = o2.2 := by
  intro n
  induction n with
  | zero => intro b i o o2 h; cases h
  | succ n ih =>
    intro b i o o2 h h2
    unfold fX1_oilUnbroken_4 at h
    unfold fX10_count_114 at h2
    rw [← h4] at h2
    by_cases c : σ.2 4 ≤ i
    · rw [if_pos c] at h h2
      rw [← Option.some.inj h, ← Option.some.inj h2]
      exact ⟨rfl, rfl, rfl⟩
    · rw [if_neg c] at h h2
      obtain ⟨_, v2, e2, h⟩ := hy_ga_some h
      obtain ⟨_, w2, f2, h2⟩ := hy_ga_some h2
      have q : w2 = v2 := by rw [f2, e2, h9]
      rw [q] at h2
      by_cases c2 : v2 = 3
      · rw [if_pos c2] at h h2
        unfold fX1_oilUnbroken_31 at h
        unfold fX10_count_143 at h2
        rw [Int32.add_zero] at h2
        exact ih b (i + 1) o o2 h h2
      · rw [if_neg c2] at h h2
        obtain ⟨_, v6, e6, h⟩ := hy_ga_some h
        obtain ⟨_, w6, f6, h2⟩ := hy_ga_some h2
        have q6 : w6 = v6 := by rw [f6, e6, h8]
        rw [q6] at h2
        unfold fX1_oilUnbroken_31 at h
        unfold fX10_count_143 at h2
        exact ih (b + v6) (i + 1) o o2 h h2
theorem hj_count {σ μ : hy_S} {x1 : Int32} {o o2 : hy_S × Int32} (hR : hj_R σ μ) (r7 : σ.2 7 = μ.2 9) (r8 : σ.2 8 = μ.2 10) (r1 : σ.2 1 = μ.2 11) (h1 : fX9_count σ x1 = some o) (h2 : fX10_count μ x1 = some o2) : o.1 = σ ∧ o2.1 = hy_si μ 0 0 ∧ o.2 = o2.2 := by
  have hD := hR.2.2.1
  have hN := hR.2.2.2.1
  unfold fX9_count at h1
  unfold fX10_count at h2
  obtain ⟨ν, eν, h2⟩ := hy_pf_some h2
  have cn : ∀ {x a : Int32}, x - 2 = a → hy_bd (fX1_countIn σ a) (fun τ v => some (τ, v)) = some o → fX10_count_76 hy_fu ν x 0 0 = some o2 → o.1 = σ ∧ o2.1 = hy_si μ 0 0 ∧ o.2 = o2.2 := by
    intro x a ha z1 z2
    obtain ⟨τ, v, e, z1⟩ := hy_bd_some z1
    unfold fX1_countIn at e
    obtain ⟨q1, q2, q3⟩ := hj_cn (σ := σ) (μ := ν) ha (by rw [eν]; exact hD.2.1) (by rw [eν]; exact hN.2.1) hy_fu 0 0 _ _ e z2
    rw [← Option.some.inj z1, q2, eν]
    exact ⟨q1, rfl, q3⟩
  by_cases c0 : x1 = 0
  · rw [if_pos c0] at h1 h2
    rw [← Option.some.inj h1, ← Option.some.inj h2, eν]
    exact ⟨rfl, rfl, hN.1⟩
  · rw [if_neg c0] at h1 h2
    by_cases c1 : x1 = 1
    · rw [if_pos c1] at h1 h2
      rw [← Option.some.inj h1, ← Option.some.inj h2, eν]
      exact ⟨rfl, rfl, hN.2.1⟩
    · rw [if_neg c1] at h1 h2
      by_cases c2 : x1 = 2
      · rw [if_pos c2] at h1 h2
        exact cn (by rw [c2]; rfl) h1 h2
      · rw [if_neg c2] at h1 h2
        by_cases c3 : x1 = 3
        · rw [if_pos c3] at h1 h2
          exact cn (by rw [c3]; rfl) h1 h2
        · rw [if_neg c3] at h1 h2
          by_cases c4 : x1 = 4
          · rw [if_pos c4] at h1 h2
            exact cn (by rw [c4]; rfl) h1 h2
          · rw [if_neg c4] at h1 h2
            by_cases c5 : x1 = 5
            · rw [if_pos c5] at h1 h2
              exact cn (by rw [c5]; rfl) h1 h2
            · rw [if_neg c5] at h1 h2
              by_cases c6 : x1 = 6
              · rw [if_pos c6] at h1 h2
                obtain ⟨τ, v, e, h1⟩ := hy_bd_some h1
                unfold fX1_oilUnbroken at e
                obtain ⟨q1, q2, q3⟩ := hj_co (σ := σ) (μ := ν) (by rw [eν]; exact hD.2.1) (by rw [eν]; exact hD.1) (by rw [eν]; exact hN.2.1) hy_fu 0 0 _ _ e h2
                rw [← Option.some.inj h1, q2, eν]
                exact ⟨q1, rfl, q3⟩
              · rw [if_neg c6] at h1 h2
                by_cases c7 : x1 = 7
                · rw [if_pos c7] at h1 h2
                  rw [← Option.some.inj h1, ← Option.some.inj h2, eν]
                  exact ⟨rfl, rfl, r7⟩
                · rw [if_neg c7] at h1 h2
                  by_cases c8 : x1 = 8
                  · rw [if_pos c8] at h1 h2
                    rw [← Option.some.inj h1, ← Option.some.inj h2, eν]
                    exact ⟨rfl, rfl, r8⟩
                  · rw [if_neg c8] at h1 h2
                    by_cases c9 : x1 = 9
                    · rw [if_pos c9] at h1 h2
                      rw [← Option.some.inj h1, ← Option.some.inj h2, eν]
                      exact ⟨rfl, rfl, r1⟩
                    · rw [if_neg c9] at h1 h2
                      rw [← Option.some.inj h1, ← Option.some.inj h2, eν]
                      exact ⟨rfl, rfl, rfl⟩
