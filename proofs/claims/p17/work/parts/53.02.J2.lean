/-! What the yard of one side has to do with that of the other. -/
noncomputable def hj_A (σ μ : hy_S) : Prop := σ.1 2 = μ.1 0 ∧ σ.1 3 = μ.1 1 ∧ σ.1 4 = μ.1 2
noncomputable def hj_F (σ μ : hy_S) : Prop := σ.1 5 = μ.1 3 ∧ σ.1 6 = μ.1 4 ∧ σ.1 7 = μ.1 5
noncomputable def hj_D (σ μ : hy_S) : Prop := σ.1 8 = μ.1 6 ∧ σ.1 9 = μ.1 7 ∧ σ.1 10 = μ.1 8 ∧ σ.1 11 = μ.1 9 ∧ σ.1 12 = μ.1 10
noncomputable def hj_N (σ μ : hy_S) : Prop := σ.2 3 = μ.2 1 ∧ σ.2 4 = μ.2 2 ∧ σ.2 5 = μ.2 3
noncomputable def hj_Z (σ : hy_S) : Prop := ∀ k : Nat, (σ.2 4).toInt ≤ (k : Int) → σ.1 8 k = 0 ∧ σ.1 9 k = 0
noncomputable def hj_R (σ μ : hy_S) : Prop := hj_A σ μ ∧ hj_F σ μ ∧ hj_D σ μ ∧ hj_N σ μ ∧ hj_Z σ ∧ hj_P (σ.1 9) (σ.1 10) (σ.1 11) (σ.1 12)
theorem hj_t1 {σ μ : hy_S} {a : Int32} (hR : hj_R σ μ) : hj_R σ (hy_si μ 0 a) := ⟨hR.1, hR.2.1, hR.2.2.1, hR.2.2.2.1, hR.2.2.2.2⟩
theorem hj_t2 {σ μ : hy_S} {a b : Int32} (hR : hj_R σ μ) : hj_R σ (hy_si (hy_si μ 0 a) 0 b) := ⟨hR.1, hR.2.1, hR.2.2.1, hR.2.2.2.1, hR.2.2.2.2⟩
theorem hj_keep {σ μ τ ν : hy_S} (a : ∀ j ∈ ([2, 3, 4, 5, 6, 7, 8, 9, 10, 11, 12] : List Nat), τ.1 j = σ.1 j) (b : ∀ j ∈ ([3, 4, 5] : List Nat), τ.2 j = σ.2 j) (c : ∀ j ∈ ([0, 1, 2, 3, 4, 5, 6, 7, 8, 9, 10] : List Nat), ν.1 j = μ.1 j) (d : ∀ j ∈ ([1, 2, 3] : List Nat), ν.2 j = μ.2 j) (hR : hj_R σ μ) : hj_R τ ν := by
  unfold hj_R hj_A hj_F hj_D hj_N hj_Z
  rw [a 2 (by decide), a 3 (by decide), a 4 (by decide), a 5 (by decide), a 6 (by decide), a 7 (by decide), a 8 (by decide), a 9 (by decide), a 10 (by decide), a 11 (by decide), a 12 (by decide), b 3 (by decide), b 4 (by decide), b 5 (by decide)]
  rw [c 0 (by decide), c 1 (by decide), c 2 (by decide), c 3 (by decide), c 4 (by decide), c 5 (by decide), c 6 (by decide), c 7 (by decide), c 8 (by decide), c 9 (by decide), c 10 (by decide), d 1 (by decide), d 2 (by decide), d 3 (by decide)]
  exact hR
theorem hj_fill {σ μ : hy_S} {x1 x2 : Int32} {o : hy_O} {o2 : hy_S × Int32} (hb : 0 ≤ (μ.2 2).toInt) (hR : hj_R σ μ) (h1 : fX9_fill σ x1 x2 = some o) (h2 : fX10_fill μ x1 x2 = some o2) : hj_R o.1 o2.1 ∧ ((o.2.2 = 0 ∧ o2.1.2 0 = 0) ∨ (o.2.2 = 1 ∧ o2.1.2 0 = 1) ∨ (o.2.2 = 2 ∧ o2.1.2 0 = 2)) ∧ (o.2.2 = 0 → o2.2 = o.2.1) := by
  have hA := hR.1
  have hF := hR.2.1
  have hD := hR.2.2.1
  have n4 : (σ.2 4).toInt = (μ.2 2).toInt := by rw [hR.2.2.2.1.2.1]
  unfold fX9_fill at h1
  unfold fX10_fill at h2
  obtain ⟨ν, eν, h2⟩ := hy_pf_some h2
  have b2 : ν.2 2 = μ.2 2 := by rw [eν]; rfl
  rcases hi_nj (by rw [b2]; exact hb) h2 with ⟨c1, c2, h2⟩ | ⟨c1, h2⟩
  · have h2 := hi_t0 h2
    rw [if_pos rfl] at h2
    rw [b2] at c2
    rcases hi_ix h1 with ⟨a1, a2, h1⟩ | ⟨a1, h1⟩
    · rcases hi_nm h1 with ⟨a3, a4, h1⟩ | ⟨a3, h1⟩
      · have a3 : (1 : Int) ≤ x2.toInt := a3
        have a4 : x2.toInt ≤ (200 : Int) := a4
        rcases hi_in h2 with ⟨c3, c4, h2⟩ | ⟨c3, h2⟩
        · rw [if_neg (by decide)] at h2
          unfold fX10_fill_35 at h2
          have h2 := hi_t0 h2
          rw [if_pos rfl] at h2
          obtain ⟨σ9, v10, e1, h1⟩ := hy_bd_some h1
          obtain ⟨p1, p2⟩ := hi_pr h1
          have p3 : o.2.1 = v10 := congrArg Prod.fst p2
          have p4 : o.2.2 = 0 := congrArg Prod.snd p2
          unfold fX1_pour at e1
          obtain ⟨_, v1, f1, e1⟩ := hy_ga_some e1
          obtain ⟨_, w1, g1, h2⟩ := hy_ga_some h2
          have q1 : w1 = v1 := by rw [f1, g1, eν, hD.2.1]; rfl
          rw [q1] at h2
          by_cases d1 : v1 = 0
          · rw [if_pos d1] at e1 h2
            obtain ⟨_, v5, f5, e1⟩ := hy_ga_some e1
            obtain ⟨_, v8, f8, e1⟩ := hy_ga_some e1
            obtain ⟨_, v11, f11, e1⟩ := hy_ga_some e1
            obtain ⟨_, w9, g9, h2⟩ := hy_ga_some h2
            obtain ⟨_, w12, g12, h2⟩ := hy_ga_some h2
            obtain ⟨_, w15, g15, h2⟩ := hy_ga_some h2
            have q5 : w9 = v5 := by rw [f5, g9, eν, hD.1]; rfl
            have q8 : w12 = v8 := by rw [f8, g12, eν, hF.1]; rfl
            have q11 : w15 = v11 := by rw [f11, g15, q8, eν, hA.2.1]; rfl
            rw [q5, q11] at h2
            by_cases d2 : v5 + x2 ≤ v11
            · rw [if_pos d2] at e1 h2
              obtain ⟨_, v15, f15, e1⟩ := hy_ga_some e1
              obtain ⟨_, σ18, f18, e1⟩ := hy_pa_some e1
              obtain ⟨_, v21, f21, e1⟩ := hy_ga_some e1
              obtain ⟨_, w19, g19, h2⟩ := hy_ga_some h2
              obtain ⟨_, ν22, g22, h2⟩ := hy_pa_some h2
              obtain ⟨_, w25, g25, h2⟩ := hy_ga_some h2
              obtain ⟨r1, r2⟩ := hi_pr e1
              obtain ⟨s1, s2⟩ := hi_pr h2
              have q15 : w19 = v15 := by rw [f15, g19, eν, hD.1]; rfl
              have t1 : o.1 = hy_sc σ 8 (upd (σ.1 8) x1.toNatClampNeg (v15 + x2)) := by rw [p1, show σ9 = σ18 from r1, f18]
              have t2 : o2.1 = hy_sc (hy_si μ 0 0) 6 (upd (μ.1 6) x1.toNatClampNeg (v15 + x2)) := by
                rw [s1, g22, q15, eν]
                rfl
              have t3 : o.2.1 = v15 + x2 := by
                rw [p3, show v10 = v21 from r2, f21, f18]
                exact Int32.toInt_inj.mp (hs_same _ _ _ _)
              have t4 : o2.2 = v15 + x2 := by
                rw [s2, g25, g22, q15]
                exact Int32.toInt_inj.mp (hs_same _ _ _ _)
              have nx := hs_tn c1
              refine ⟨?_, Or.inl ⟨p4, by rw [t2]; rfl⟩, fun _ => by rw [t3, t4]⟩
              rw [t1, t2]
              refine ⟨hR.1, hR.2.1, ⟨?_, hD.2.1, hD.2.2.1, hD.2.2.2.1, hD.2.2.2.2⟩, hR.2.2.2.1, fun k hk => ?_, hR.2.2.2.2.2⟩
              · show upd (σ.1 8) x1.toNatClampNeg (v15 + x2) = upd (μ.1 6) x1.toNatClampNeg (v15 + x2)
                rw [hD.1]
              · have hk : (σ.2 4).toInt ≤ (k : Int) := hk
                have hz := hR.2.2.2.2.1 k hk
                refine ⟨?_, hz.2⟩
                show upd (σ.1 8) x1.toNatClampNeg (v15 + x2) k = 0
                rw [hs_upd (by omega)]
                exact hz.1
            · rw [if_neg d2] at e1 h2
              obtain ⟨r1, r2⟩ := hi_pr e1
              obtain ⟨s1, s2⟩ := hi_pr h2
              refine ⟨?_, Or.inl ⟨p4, by rw [s1, eν]; rfl⟩, fun _ => by rw [p3, s2]; exact r2.symm⟩
              rw [p1, s1, show σ9 = σ from r1, eν]
              exact hj_t1 hR
          · rw [if_neg d1] at e1 h2
            obtain ⟨r1, r2⟩ := hi_pr e1
            obtain ⟨s1, s2⟩ := hi_pr h2
            refine ⟨?_, Or.inl ⟨p4, by rw [s1, eν]; rfl⟩, fun _ => by rw [p3, s2]; exact r2.symm⟩
            rw [p1, s1, show σ9 = σ from r1, eν]
            exact hj_t1 hR
        · exfalso
          have c3 : x2.toInt < (1 : Int) ∨ (200 : Int) < x2.toInt := c3
          omega
      · have a3 : x2.toInt < (1 : Int) ∨ (200 : Int) < x2.toInt := a3
        rcases hi_in h2 with ⟨c3, c4, h2⟩ | ⟨c3, h2⟩
        · exfalso
          have c3 : (1 : Int) ≤ x2.toInt := c3
          have c4 : x2.toInt ≤ (200 : Int) := c4
          omega
        · rw [if_pos rfl] at h2
          unfold fX10_fill_35 at h2
          have h2 := hi_t1 h2
          rw [if_neg (by decide)] at h2
          obtain ⟨s1, s2⟩ := hi_pr h2
          refine ⟨?_, Or.inr (Or.inr ⟨by rw [h1], by rw [s1]; rfl⟩), fun z => ?_⟩
          · rw [s1, h1, eν]
            exact hj_t2 hR
          · rw [h1] at z
            exact absurd z (Nat.succ_ne_zero _)
    · exfalso
      omega
  · have h2 := hi_t1 h2
    rw [if_neg (by decide)] at h2
    rw [b2] at c1
    rcases hi_ix h1 with ⟨a1, a2, h1⟩ | ⟨a1, h1⟩
    · exfalso
      omega
    · obtain ⟨s1, s2⟩ := hi_pr h2
      refine ⟨?_, Or.inr (Or.inl ⟨by rw [h1], by rw [s1]; rfl⟩), fun z => ?_⟩
      · rw [s1, h1, eν]
        exact hj_t2 hR
      · rw [h1] at z
        exact absurd z (Nat.succ_ne_zero _)
