/-! The tellings on both sides. -/
noncomputable def ht_E (σ : hy_S) : Prop := (∀ k : Nat, σ.1 26 k = -1 ∨ 0 ≤ (σ.1 26 k).toInt) ∧ ∀ k : Nat, (k : Int) < (σ.2 8).toInt → ¬ σ.1 22 k = σ.1 23 k ∧ -1000 ≤ (σ.1 24 k).toInt ∧ (σ.1 24 k).toInt ≤ 1000
noncomputable def ht_A (σ μ : hy_S) : Prop := σ.1 22 = μ.1 23 ∧ σ.1 23 = μ.1 24 ∧ σ.1 24 = μ.1 25 ∧ σ.1 25 = μ.1 26 ∧ σ.1 26 = μ.1 27
noncomputable def ht_N (σ μ : hy_S) : Prop := σ.2 8 = μ.2 10 ∧ σ.2 1 = μ.2 11
noncomputable def ht_R (σ μ : hy_S) : Prop := ht_A σ μ ∧ ht_N σ μ ∧ ht_E σ
theorem ht_t1 {σ μ : hy_S} {a : Int32} (hR : ht_R σ μ) : ht_R σ (hy_si μ 0 a) := ⟨hR.1, hR.2.1, hR.2.2⟩
theorem ht_t2 {σ μ : hy_S} {a b : Int32} (hR : ht_R σ μ) : ht_R σ (hy_si (hy_si μ 0 a) 0 b) := ⟨hR.1, hR.2.1, hR.2.2⟩
theorem ht_keep {σ μ τ ν : hy_S} (a : ∀ j ∈ ([22, 23, 24, 25, 26] : List Nat), τ.1 j = σ.1 j) (b : ∀ j ∈ ([1, 8] : List Nat), τ.2 j = σ.2 j) (c : ∀ j ∈ ([23, 24, 25, 26, 27] : List Nat), ν.1 j = μ.1 j) (d : ∀ j ∈ ([10, 11] : List Nat), ν.2 j = μ.2 j) (hR : ht_R σ μ) : ht_R τ ν := by
  unfold ht_R ht_A ht_N ht_E
  rw [a 22 (by decide), a 23 (by decide), a 24 (by decide), a 25 (by decide), a 26 (by decide), b 1 (by decide), b 8 (by decide)]
  rw [c 23 (by decide), c 24 (by decide), c 25 (by decide), c 26 (by decide), c 27 (by decide), d 10 (by decide), d 11 (by decide)]
  exact hR
theorem ht_start {σ μ : hy_S} (a : ∀ j, ¬ j = 15 → ∀ k, σ.1 j k = 0) (b : ∀ j, ¬ j = 0 → σ.2 j = 0) (c : ∀ j, ¬ j = 14 → ∀ k, μ.1 j k = 0) (d : ∀ j, ¬ j = 8 → μ.2 j = 0) : ht_R σ μ := by
  have ea : ∀ j q, ¬ j = 15 → ¬ q = 14 → σ.1 j = μ.1 q := fun j q hj hq => funext (fun k => by rw [a j hj k, c q hq k])
  have ei : ∀ j q, ¬ j = 0 → ¬ q = 8 → σ.2 j = μ.2 q := fun j q hj hq => by rw [b j hj, d q hq]
  refine ⟨⟨ea _ _ (by decide) (by decide), ea _ _ (by decide) (by decide), ea _ _ (by decide) (by decide), ea _ _ (by decide) (by decide), ea _ _ (by decide) (by decide)⟩, ⟨ei _ _ (by decide) (by decide), ei _ _ (by decide) (by decide)⟩, fun k => ?_, fun k hk => ?_⟩
  · rw [a 26 (by decide) k]
    exact Or.inr (by decide)
  · rw [b 8 (by decide)] at hk
    exact absurd (show (k : Int) < 0 from hk) (by omega)
noncomputable abbrev ht_σ (σ : hy_S) (a b c d : Int32) : hy_S := hy_si (hy_sc (hy_sc (hy_sc (hy_sc (hy_sc σ 22 (upd (σ.1 22) (σ.2 8).toNatClampNeg a)) 23 (upd (σ.1 23) (σ.2 8).toNatClampNeg b)) 24 (upd (σ.1 24) (σ.2 8).toNatClampNeg c)) 25 (upd (σ.1 25) (σ.2 8).toNatClampNeg d)) 26 (upd (σ.1 26) (σ.2 8).toNatClampNeg (-1))) 8 (σ.2 8 + 1)
noncomputable abbrev ht_μ (μ : hy_S) (a b c : Int32) : hy_S := hy_si (hy_sc (hy_sc (hy_sc (hy_sc (hy_sc μ 23 (upd (μ.1 23) (μ.2 10).toNatClampNeg a)) 24 (upd (μ.1 24) (μ.2 10).toNatClampNeg b)) 25 (upd (μ.1 25) (μ.2 10).toNatClampNeg c)) 26 (upd (μ.1 26) (μ.2 10).toNatClampNeg (μ.2 11))) 27 (upd (μ.1 27) (μ.2 10).toNatClampNeg (-1))) 10 (μ.2 10 + 1)
theorem ht_add {σ : hy_S} {a b c d : Int32} {o : hy_S × Int32} (h : fX8_add σ a b c d = some o) : o.1 = ht_σ σ a b c d := by
  unfold fX8_add at h
  obtain ⟨_, τ1, e1, h⟩ := hy_pa_some h
  obtain ⟨_, τ2, e2, h⟩ := hy_pa_some h
  obtain ⟨_, τ3, e3, h⟩ := hy_pa_some h
  obtain ⟨_, τ4, e4, h⟩ := hy_pa_some h
  obtain ⟨_, τ5, e5, h⟩ := hy_pa_some h
  obtain ⟨τ6, e6, h⟩ := hy_pf_some h
  rw [(hi_pr h).1, e6, e5, e4, e3, e2, e1]
  rfl
theorem ht_tells {μ : hy_S} {a b c : Int32} {o : hy_S × Int32} (h : fX10_tells μ a b c = some o) : ((μ.2 10).toInt = 60 ∧ o.1 = hy_si μ 0 3) ∨ (¬ (μ.2 10).toInt = 60 ∧ o.1 = ht_μ μ a b c) := by
  unfold fX10_tells at h
  by_cases q : μ.2 10 = 60
  · rw [if_pos q] at h
    unfold fX10_tells_15 at h
    have h := hi_t1 h
    rw [if_neg (by decide)] at h
    exact Or.inl ⟨by rw [q]; rfl, (hi_pr h).1⟩
  · rw [if_neg q] at h
    unfold fX10_tells_15 at h
    have h := hi_t0 h
    rw [if_pos rfl] at h
    obtain ⟨_, τ1, e1, h⟩ := hy_pa_some h
    obtain ⟨_, τ2, e2, h⟩ := hy_pa_some h
    obtain ⟨_, τ3, e3, h⟩ := hy_pa_some h
    obtain ⟨_, τ4, e4, h⟩ := hy_pa_some h
    obtain ⟨_, τ5, e5, h⟩ := hy_pa_some h
    obtain ⟨τ6, e6, h⟩ := hy_pf_some h
    refine Or.inr ⟨hi_ne q, ?_⟩
    rw [(hi_pr h).1, e6, e5, e4, e3, e2, e1]
    rfl
theorem ht_new {R : hy_S → Prop} {σ μ : hy_S} {a b c : Int32} (hC : hc_I R σ) (hR : ht_R σ μ) (h8 : (σ.2 8).toInt < 60) (hab : ¬ a = b) (hc : -1000 ≤ c.toInt ∧ c.toInt ≤ 1000) : ht_R (ht_σ σ a b c (σ.2 1)) (ht_μ (hy_si μ 0 0) a b c) := by
  obtain ⟨⟨A1, A2, A3, A4, A5⟩, ⟨N1, N2⟩, E1, E2⟩ := hR
  have i8 : (0 : Int) ≤ (σ.2 8).toInt ∧ (σ.2 8).toInt ≤ 60 := hC.2.1 8
  have ns := hs_tn i8.1
  have g : (σ.2 8 + 1).toInt = (σ.2 8).toInt + 1 := hs_addk 1 rfl (by omega) (by omega)
  refine ⟨⟨?_, ?_, ?_, ?_, ?_⟩, ⟨?_, N2⟩, fun k => ?_, fun k hk => ?_⟩
  · show upd (σ.1 22) (σ.2 8).toNatClampNeg a = upd (μ.1 23) (μ.2 10).toNatClampNeg a
    rw [A1, N1]
  · show upd (σ.1 23) (σ.2 8).toNatClampNeg b = upd (μ.1 24) (μ.2 10).toNatClampNeg b
    rw [A2, N1]
  · show upd (σ.1 24) (σ.2 8).toNatClampNeg c = upd (μ.1 25) (μ.2 10).toNatClampNeg c
    rw [A3, N1]
  · show upd (σ.1 25) (σ.2 8).toNatClampNeg (σ.2 1) = upd (μ.1 26) (μ.2 10).toNatClampNeg (μ.2 11)
    rw [A4, N1, N2]
  · show upd (σ.1 26) (σ.2 8).toNatClampNeg (-1) = upd (μ.1 27) (μ.2 10).toNatClampNeg (-1)
    rw [A5, N1]
  · show σ.2 8 + 1 = μ.2 10 + 1
    rw [N1]
  · show upd (σ.1 26) (σ.2 8).toNatClampNeg (-1) k = -1 ∨ 0 ≤ (upd (σ.1 26) (σ.2 8).toNatClampNeg (-1) k).toInt
    by_cases e : k = (σ.2 8).toNatClampNeg
    · rw [e, hs_upds]
      exact Or.inl rfl
    · rw [hs_upd e]
      exact E1 k
  · have hk : (k : Int) < (σ.2 8 + 1).toInt := hk
    rw [g] at hk
    show ¬ upd (σ.1 22) (σ.2 8).toNatClampNeg a k = upd (σ.1 23) (σ.2 8).toNatClampNeg b k ∧ -1000 ≤ (upd (σ.1 24) (σ.2 8).toNatClampNeg c k).toInt ∧ (upd (σ.1 24) (σ.2 8).toNatClampNeg c k).toInt ≤ 1000
    by_cases e : k = (σ.2 8).toNatClampNeg
    · rw [e, hs_upds, hs_upds, hs_upds]
      exact ⟨hab, hc⟩
    · rw [hs_upd e, hs_upd e, hs_upd e]
      exact E2 k (by omega)
theorem ht_tell {R : hy_S → Prop} {σ μ : hy_S} {x1 x2 x3 : Int32} {o : hy_O} {o2 : hy_S × Int32} (hC : hc_I R σ) (hR : ht_R σ μ) (h1 : fX9_tell σ x1 x2 x3 = some o) (h2 : fX10_tell μ x1 x2 x3 = some o2) : ht_R o.1 o2.1 := by
  have hN := hR.2.1
  have i8 : (0 : Int) ≤ (σ.2 8).toInt ∧ (σ.2 8).toInt ≤ 60 := hC.2.1 8
  have n8 : (σ.2 8).toInt = (μ.2 10).toInt := by rw [hN.1]
  have A : ((x1.toInt < 0 ∨ 12 ≤ x1.toInt ∨ x2.toInt < 0 ∨ 12 ≤ x2.toInt ∨ x1.toInt = x2.toInt ∨ x3.toInt < -500 ∨ 500 < x3.toInt ∨ 60 ≤ (σ.2 8).toInt) ∧ o.1 = σ) ∨ ((0 ≤ x1.toInt ∧ x1.toInt < 12 ∧ 0 ≤ x2.toInt ∧ x2.toInt < 12 ∧ ¬ x1.toInt = x2.toInt ∧ -500 ≤ x3.toInt ∧ x3.toInt ≤ 500 ∧ (σ.2 8).toInt < 60) ∧ o.1 = ht_σ σ x1 x2 x3 (σ.2 1)) := by
    unfold fX9_tell at h1
    rcases hi_ix h1 with ⟨a1, a2, h1⟩ | ⟨a1, h1⟩
    · have a2 : x1.toInt < (12 : Int) := a2
      rcases hi_ix h1 with ⟨a3, a4, h1⟩ | ⟨a3, h1⟩
      · have a4 : x2.toInt < (12 : Int) := a4
        by_cases c : x1 = x2
        · rw [if_pos c] at h1
          exact Or.inl ⟨by rw [c]; omega, (hi_pr h1).1⟩
        · rw [if_neg c] at h1
          have c9 := hi_ne c
          rcases hi_nm h1 with ⟨a5, a6, h1⟩ | ⟨a5, h1⟩
          · have a5 : (-500 : Int) ≤ x3.toInt := a5
            have a6 : x3.toInt ≤ (500 : Int) := a6
            rcases hi_pl h1 with ⟨a7, h1⟩ | ⟨a7, h1⟩
            · have a7 : (σ.2 8).toInt < (60 : Int) := a7
              obtain ⟨τ, v, e, h1⟩ := hy_bd_some h1
              refine Or.inr ⟨⟨a1, a2, a3, a4, c9, a5, a6, a7⟩, ?_⟩
              rw [(hi_pr h1).1]
              exact ht_add e
            · have a7 : (60 : Int) ≤ (σ.2 8).toInt := a7
              exact Or.inl ⟨by omega, by rw [h1]⟩
          · have a5 : x3.toInt < (-500 : Int) ∨ (500 : Int) < x3.toInt := a5
            exact Or.inl ⟨by omega, by rw [h1]⟩
      · have a3 : x2.toInt < (0 : Int) ∨ (12 : Int) ≤ x2.toInt := a3
        exact Or.inl ⟨by omega, by rw [h1]⟩
    · have a1 : x1.toInt < (0 : Int) ∨ (12 : Int) ≤ x1.toInt := a1
      exact Or.inl ⟨by omega, by rw [h1]⟩
  have B : ((x1.toInt < 0 ∨ 12 ≤ x1.toInt ∨ x2.toInt < 0 ∨ 12 ≤ x2.toInt ∨ x1.toInt = x2.toInt ∨ x3.toInt < -500 ∨ 500 < x3.toInt ∨ (μ.2 10).toInt = 60) ∧ ∃ k : Int32, o2.1 = hy_si (hy_si μ 0 0) 0 k) ∨ ((0 ≤ x1.toInt ∧ x1.toInt < 12 ∧ 0 ≤ x2.toInt ∧ x2.toInt < 12 ∧ ¬ x1.toInt = x2.toInt ∧ -500 ≤ x3.toInt ∧ x3.toInt ≤ 500 ∧ ¬ (μ.2 10).toInt = 60) ∧ o2.1 = ht_μ (hy_si μ 0 0) x1 x2 x3) := by
    unfold fX10_tell at h2
    obtain ⟨ν, eν, h2⟩ := hy_pf_some h2
    have thr : fX10_tell_20 ν x1 x2 x3 = some o2 → ∃ k : Int32, o2.1 = hy_si (hy_si μ 0 0) 0 k := by
      intro h
      unfold fX10_tell_20 fX10_tell_25 at h
      have h := hi_t1 h
      rw [if_neg (by decide)] at h
      exact ⟨1, by rw [(hi_pr h).1, eν]⟩
    have thr2 : fX10_tell_51 ν x1 x2 x3 = some o2 → ∃ k : Int32, o2.1 = hy_si (hy_si μ 0 0) 0 k := by
      intro h
      unfold fX10_tell_51 fX10_tell_56 at h
      have h := hi_t1 h
      rw [if_neg (by decide)] at h
      exact ⟨2, by rw [(hi_pr h).1, eν]⟩
    rcases hi_nt h2 with ⟨a1, a2, h2⟩ | ⟨a1, h2⟩
    · rw [if_pos rfl] at h2
      rcases hi_nt h2 with ⟨a3, a4, h2⟩ | ⟨a3, h2⟩
      · rw [if_pos rfl] at h2
        unfold fX10_tell_25 at h2
        have h2 := hi_t0 h2
        rw [if_pos rfl] at h2
        by_cases c : x1 = x2
        · rw [if_pos c] at h2
          exact Or.inl ⟨by rw [c]; omega, thr2 h2⟩
        · rw [if_neg c] at h2
          have c9 := hi_ne c
          rcases hi_in h2 with ⟨a5, a6, h2⟩ | ⟨a5, h2⟩
          · have a5 : (-500 : Int) ≤ x3.toInt := a5
            have a6 : x3.toInt ≤ (500 : Int) := a6
            rw [if_neg (by decide)] at h2
            unfold fX10_tell_56 at h2
            have h2 := hi_t0 h2
            rw [if_pos rfl] at h2
            obtain ⟨τ, v, e, h2⟩ := hy_bd_some h2
            have q := ht_tells e
            rw [eν] at q
            rw [(hi_pr h2).1]
            rcases q with ⟨q1, q2⟩ | ⟨q1, q2⟩
            · have q1 : (μ.2 10).toInt = 60 := q1
              exact Or.inl ⟨by omega, 3, q2⟩
            · have q1 : ¬ (μ.2 10).toInt = 60 := q1
              exact Or.inr ⟨⟨a1, a2, a3, a4, c9, a5, a6, q1⟩, q2⟩
          · have a5 : x3.toInt < (-500 : Int) ∨ (500 : Int) < x3.toInt := a5
            rw [if_pos rfl] at h2
            exact Or.inl ⟨by omega, thr2 h2⟩
      · rw [if_neg (by decide)] at h2
        exact Or.inl ⟨by omega, thr h2⟩
    · rw [if_neg (by decide)] at h2
      exact Or.inl ⟨by omega, thr h2⟩
  rcases A with ⟨A1, A2⟩ | ⟨A1, A2⟩
  · rcases B with ⟨B1, k, B2⟩ | ⟨B1, B2⟩
    · rw [A2, B2]
      exact ht_t2 hR
    · exfalso
      omega
  · rcases B with ⟨B1, k, B2⟩ | ⟨B1, B2⟩
    · exfalso
      omega
    · rw [A2, B2]
      exact ht_new hC hR A1.2.2.2.2.2.2.2 (fun e => A1.2.2.2.2.1 (by rw [e])) ⟨by omega, by omega⟩
theorem ht_bound {R : hy_S → Prop} {σ μ : hy_S} {x1 x2 x3 : Int32} {o : hy_O} {o2 : hy_S × Int32} (hC : hc_I R σ) (hR : ht_R σ μ) (h1 : fX9_bound σ x1 x2 x3 = some o) (h2 : fX10_bound μ x1 x2 x3 = some o2) : ht_R o.1 o2.1 := by
  have hN := hR.2.1
  have i8 : (0 : Int) ≤ (σ.2 8).toInt ∧ (σ.2 8).toInt ≤ 60 := hC.2.1 8
  have n8 : (σ.2 8).toInt = (μ.2 10).toInt := by rw [hN.1]
  have A : ((x1.toInt < 0 ∨ 12 ≤ x1.toInt ∨ x2.toInt < 0 ∨ 1000 < x2.toInt ∨ 60 ≤ (σ.2 8).toInt) ∧ o.1 = σ) ∨ ((0 ≤ x1.toInt ∧ x1.toInt < 12 ∧ 0 ≤ x2.toInt ∧ x2.toInt ≤ 1000 ∧ (σ.2 8).toInt < 60) ∧ ((x3 = 0 ∧ o.1 = ht_σ σ 12 x1 x2 (σ.2 1)) ∨ (¬ x3 = 0 ∧ o.1 = ht_σ σ x1 12 (-x2) (σ.2 1)))) := by
    unfold fX9_bound at h1
    rcases hi_ix h1 with ⟨a1, a2, h1⟩ | ⟨a1, h1⟩
    · have a2 : x1.toInt < (12 : Int) := a2
      rcases hi_nm h1 with ⟨a5, a6, h1⟩ | ⟨a5, h1⟩
      · have a5 : (0 : Int) ≤ x2.toInt := a5
        have a6 : x2.toInt ≤ (1000 : Int) := a6
        rcases hi_pl h1 with ⟨a7, h1⟩ | ⟨a7, h1⟩
        · have a7 : (σ.2 8).toInt < (60 : Int) := a7
          refine Or.inr ⟨⟨a1, a2, a5, a6, a7⟩, ?_⟩
          by_cases c : x3 = 0
          · rw [if_pos c] at h1
            obtain ⟨τ, v, e, h1⟩ := hy_bd_some h1
            rw [(hi_pr h1).1]
            exact Or.inl ⟨c, ht_add e⟩
          · rw [if_neg c] at h1
            obtain ⟨τ, v, e, h1⟩ := hy_bd_some h1
            rw [(hi_pr h1).1]
            exact Or.inr ⟨c, ht_add e⟩
        · have a7 : (60 : Int) ≤ (σ.2 8).toInt := a7
          exact Or.inl ⟨by omega, by rw [h1]⟩
      · have a5 : x2.toInt < (0 : Int) ∨ (1000 : Int) < x2.toInt := a5
        exact Or.inl ⟨by omega, by rw [h1]⟩
    · have a1 : x1.toInt < (0 : Int) ∨ (12 : Int) ≤ x1.toInt := a1
      exact Or.inl ⟨by omega, by rw [h1]⟩
  have B : ((x1.toInt < 0 ∨ 12 ≤ x1.toInt ∨ x2.toInt < 0 ∨ 1000 < x2.toInt ∨ (μ.2 10).toInt = 60) ∧ ∃ k : Int32, o2.1 = hy_si (hy_si μ 0 0) 0 k) ∨ ((0 ≤ x1.toInt ∧ x1.toInt < 12 ∧ 0 ≤ x2.toInt ∧ x2.toInt ≤ 1000 ∧ ¬ (μ.2 10).toInt = 60) ∧ ((x3 = 0 ∧ o2.1 = ht_μ (hy_si μ 0 0) 12 x1 x2) ∨ (¬ x3 = 0 ∧ o2.1 = ht_μ (hy_si μ 0 0) x1 12 (-x2)))) := by
    unfold fX10_bound at h2
    obtain ⟨ν, eν, h2⟩ := hy_pf_some h2
    rcases hi_nt h2 with ⟨a1, a2, h2⟩ | ⟨a1, h2⟩
    · have h2 := hi_t0 h2
      rw [if_pos rfl] at h2
      rcases hi_in h2 with ⟨a5, a6, h2⟩ | ⟨a5, h2⟩
      · have a5 : (0 : Int) ≤ x2.toInt := a5
        have a6 : x2.toInt ≤ (1000 : Int) := a6
        rw [if_neg (by decide)] at h2
        unfold fX10_bound_34 at h2
        have h2 := hi_t0 h2
        rw [if_pos rfl] at h2
        by_cases c : x3 = 0
        · rw [if_pos c] at h2
          obtain ⟨τ, v, e, h2⟩ := hy_bd_some h2
          have q := ht_tells e
          rw [eν] at q
          rw [(hi_pr h2).1]
          rcases q with ⟨q1, q2⟩ | ⟨q1, q2⟩
          · have q1 : (μ.2 10).toInt = 60 := q1
            exact Or.inl ⟨by omega, 3, q2⟩
          · exact Or.inr ⟨⟨a1, a2, a5, a6, q1⟩, Or.inl ⟨c, q2⟩⟩
        · rw [if_neg c] at h2
          obtain ⟨τ, v, e, h2⟩ := hy_bd_some h2
          have q := ht_tells e
          rw [eν] at q
          rw [(hi_pr h2).1]
          rcases q with ⟨q1, q2⟩ | ⟨q1, q2⟩
          · have q1 : (μ.2 10).toInt = 60 := q1
            exact Or.inl ⟨by omega, 3, q2⟩
          · exact Or.inr ⟨⟨a1, a2, a5, a6, q1⟩, Or.inr ⟨c, q2⟩⟩
      · have a5 : x2.toInt < (0 : Int) ∨ (1000 : Int) < x2.toInt := a5
        rw [if_pos rfl] at h2
        unfold fX10_bound_34 at h2
        have h2 := hi_t1 h2
        rw [if_neg (by decide)] at h2
        exact Or.inl ⟨by omega, 2, by rw [(hi_pr h2).1, eν]⟩
    · have h2 := hi_t1 h2
      rw [if_neg (by decide)] at h2
      exact Or.inl ⟨by omega, 1, by rw [(hi_pr h2).1, eν]⟩
  rcases A with ⟨A1, A2⟩ | ⟨A1, A2⟩
  · rcases B with ⟨B1, k, B2⟩ | ⟨B1, B2⟩
    · rw [A2, B2]
      exact ht_t2 hR
    · exfalso
      omega
  · rcases B with ⟨B1, k, B2⟩ | ⟨B1, B2⟩
    · exfalso
      omega
    · have ne : ¬ x1 = 12 := fun e => by
        have : x1.toInt = 12 := by rw [e]; rfl
        omega
      have gn : (-x2).toInt = -x2.toInt := hs_neg (by omega) (by omega)
      rcases A2 with ⟨c, A2⟩ | ⟨c, A2⟩
      · rcases B2 with ⟨d, B2⟩ | ⟨d, B2⟩
        · rw [A2, B2]
          exact ht_new hC hR A1.2.2.2.2 (fun e => ne e.symm) ⟨by omega, by omega⟩
        · exact absurd c d
      · rcases B2 with ⟨d, B2⟩ | ⟨d, B2⟩
        · exact absurd d c
        · rw [A2, B2]
          exact ht_new hC hR A1.2.2.2.2 ne ⟨by rw [gn]; omega, by rw [gn]; omega⟩
theorem ht_days {σ μ : hy_S} {x1 : Int32} {o : hy_O} {o2 : hy_S × Int32} (hR : ht_R σ μ) (h1 : fX9_days σ x1 = some o) (h2 : fX10_days μ x1 = some o2) : ht_R o.1 o2.1 := by
  have hN := hR.2.1
  unfold fX9_days at h1
  unfold fX10_days at h2
  obtain ⟨ν, eν, h2⟩ := hy_pf_some h2
  rcases hi_in h2 with ⟨c1, c2, h2⟩ | ⟨c1, h2⟩
  · rw [if_neg (by decide)] at h2
    unfold fX10_days_22 at h2
    have h2 := hi_t0 h2
    rw [if_pos rfl] at h2
    obtain ⟨ν2, f2, h2⟩ := hy_pf_some h2
    rcases hi_nm h1 with ⟨a1, a2, h1⟩ | ⟨a1, h1⟩
    · obtain ⟨τ, e, h1⟩ := hy_pf_some h1
      rw [(hi_pr h1).1, e, (hi_pr h2).1, f2, eν]
      refine ⟨hR.1, ⟨hN.1, ?_⟩, hR.2.2⟩
      show σ.2 1 + x1 = μ.2 11 + x1
      rw [hN.2]
    · exfalso
      omega
  · rw [if_pos rfl] at h2
    unfold fX10_days_22 at h2
    have h2 := hi_t1 h2
    rw [if_neg (by decide)] at h2
    rcases hi_nm h1 with ⟨a1, a2, h1⟩ | ⟨a1, h1⟩
    · exfalso
      omega
    · rw [h1, (hi_pr h2).1, eν]
      exact ht_t2 hR
theorem ht_undo {R : hy_S → Prop} {σ μ : hy_S} {x1 : Int32} {o : hy_O} {o2 : hy_S × Int32} (hC : hc_I R σ) (t0 : 0 ≤ (σ.2 1).toInt) (hR : ht_R σ μ) (h1 : fX9_undo σ x1 = some o) (h2 : fX10_undo μ x1 = some o2) : ht_R o.1 o2.1 ∧ ((o.2.2 = 0 ∧ o2.1.2 0 = 0) ∨ (o.2.2 = 1 ∧ o2.1.2 0 = 1)) ∧ (o.2.2 = 0 → o2.2 = o.2.1) := by
  have hA := hR.1
  have hN := hR.2.1
  have i8 : (0 : Int) ≤ (σ.2 8).toInt ∧ (σ.2 8).toInt ≤ 60 := hC.2.1 8
  have n8 : (σ.2 8).toInt = (μ.2 10).toInt := by rw [hN.1]
  unfold fX9_undo at h1
  unfold fX10_undo at h2
  obtain ⟨ν, eν, h2⟩ := hy_pf_some h2
  have b10 : ν.2 10 = μ.2 10 := by rw [eν]; rfl
  have hz : (ν.2 10 - 1).toInt = (μ.2 10).toInt - 1 := by rw [b10]; exact hs_subk 1 rfl (by omega) (by omega)
  rcases hi_in h2 with ⟨c1, c2, h2⟩ | ⟨c1, h2⟩
  · have c1 : (0 : Int) ≤ x1.toInt := c1
    rw [hz] at c2
    rw [if_neg (by decide)] at h2
    unfold fX10_undo_25 at h2
    have h2 := hi_t0 h2
    rw [if_pos rfl] at h2
    rcases hi_ix h1 with ⟨a1, a2, h1⟩ | ⟨a1, h1⟩
    · obtain ⟨τ, v, e, h1⟩ := hy_bd_some h1
      obtain ⟨_, h1⟩ := hy_ck_some h1
      obtain ⟨p1, p2⟩ := hi_pr h1
      have p3 : o.2.1 = v := congrArg Prod.fst p2
      have p4 : o.2.2 = 0 := congrArg Prod.snd p2
      unfold fX8_takeBack at e
      obtain ⟨_, v1, f1, e⟩ := hy_ga_some e
      obtain ⟨_, w1, g1, h2⟩ := hy_ga_some h2
      have q1 : w1 = v1 := by rw [f1, g1, eν, hA.2.2.2.2]; rfl
      rw [q1] at h2
      have ev := hR.2.2.1 x1.toNatClampNeg
      rw [← f1] at ev
      by_cases d : v1 = -1
      · rw [if_pos d] at e
        have d2 : v1 < 0 := by rw [d]; decide
        rw [if_pos d2] at h2
        obtain ⟨_, τ2, e2, e⟩ := hy_pa_some e
        obtain ⟨_, ν2, g2, h2⟩ := hy_pa_some h2
        have b11 : ν.2 11 = σ.2 1 := by rw [eν, hN.2]; rfl
        rw [b11] at g2
        refine ⟨?_, Or.inl ⟨p4, by rw [(hi_pr h2).1, g2, eν]; rfl⟩, fun _ => by rw [p3, show v = 1 from (hi_pr e).2, (hi_pr h2).2]⟩
        rw [p1, show τ = τ2 from (hi_pr e).1, e2, (hi_pr h2).1, g2, eν]
        refine ⟨⟨hA.1, hA.2.1, hA.2.2.1, hA.2.2.2.1, ?_⟩, hN, fun k => ?_, hR.2.2.2⟩
        · show upd (σ.1 26) x1.toNatClampNeg (σ.2 1) = upd (μ.1 27) x1.toNatClampNeg (σ.2 1)
          rw [hA.2.2.2.2]
        · show upd (σ.1 26) x1.toNatClampNeg (σ.2 1) k = -1 ∨ 0 ≤ (upd (σ.1 26) x1.toNatClampNeg (σ.2 1) k).toInt
          by_cases ek : k = x1.toNatClampNeg
          · rw [ek, hs_upds]
            exact Or.inr t0
          · rw [hs_upd ek]
            exact hR.2.2.1 k
      · rw [if_neg d] at e
        have d2 : ¬ v1 < 0 := fun z => by
          have z : v1.toInt < 0 := Int32.lt_iff_toInt_lt.mp z
          rcases ev with ev | ev
          · exact d ev
          · omega
        rw [if_neg d2] at h2
        refine ⟨?_, Or.inl ⟨p4, by rw [(hi_pr h2).1, eν]; rfl⟩, fun _ => by rw [p3, show v = 0 from (hi_pr e).2, (hi_pr h2).2]⟩
        rw [p1, show τ = σ from (hi_pr e).1, (hi_pr h2).1, eν]
        exact ht_t1 hR
    · exfalso
      omega
  · have c1 : x1.toInt < (0 : Int) ∨ (ν.2 10 - 1).toInt < x1.toInt := c1
    rw [hz] at c1
    rw [if_pos rfl] at h2
    unfold fX10_undo_25 at h2
    have h2 := hi_t1 h2
    rw [if_neg (by decide)] at h2
    rcases hi_ix h1 with ⟨a1, a2, h1⟩ | ⟨a1, h1⟩
    · exfalso
      omega
    · obtain ⟨s1, s2⟩ := hi_pr h2
      refine ⟨?_, Or.inr ⟨by rw [h1], by rw [s1]; rfl⟩, fun z => ?_⟩
      · rw [s1, h1, eν]
        exact ht_t2 hR
      · rw [h1] at z
        exact absurd z (Nat.succ_ne_zero _)
