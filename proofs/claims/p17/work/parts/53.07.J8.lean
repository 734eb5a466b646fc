/-! New kinds, jars and ships keep the two yards alike. -/
theorem hj_kind {R : hy_S → Prop} {σ μ : hy_S} {x1 x2 x3 : Int32} {o : hy_O} {o2 : hy_S × Int32} (hC : hc_I R σ) (hR : hj_R σ μ) (h1 : fX9_kind σ x1 x2 x3 = some o) (h2 : fX10_kind μ x1 x2 x3 = some o2) : hj_R o.1 o2.1 := by
  have hA := hR.1
  have hN := hR.2.2.2.1
  have i3 : (0 : Int) ≤ (σ.2 3).toInt ∧ (σ.2 3).toInt ≤ 8 := hC.2.1 3
  have A : ((x1.toInt < 1 ∨ 100 < x1.toInt ∨ x2.toInt < 1 ∨ 200 < x2.toInt ∨ x3.toInt < 0 ∨ 5000 < x3.toInt ∨ 8 ≤ (σ.2 3).toInt) ∧ o.1 = σ) ∨ ((1 ≤ x1.toInt ∧ x1.toInt ≤ 100 ∧ 1 ≤ x2.toInt ∧ x2.toInt ≤ 200 ∧ 0 ≤ x3.toInt ∧ x3.toInt ≤ 5000 ∧ (σ.2 3).toInt < 8) ∧ o.1 = hy_si (hy_sc (hy_sc (hy_sc σ 2 (upd (σ.1 2) (σ.2 3).toNatClampNeg x1)) 3 (upd (σ.1 3) (σ.2 3).toNatClampNeg x2)) 4 (upd (σ.1 4) (σ.2 3).toNatClampNeg x3)) 3 (σ.2 3 + 1)) := by
    unfold fX9_kind at h1
    rcases hi_nm h1 with ⟨a1, a2, h1⟩ | ⟨a1, h1⟩
    · have a1 : (1 : Int) ≤ x1.toInt := a1
      have a2 : x1.toInt ≤ (100 : Int) := a2
      rcases hi_nm h1 with ⟨a3, a4, h1⟩ | ⟨a3, h1⟩
      · have a3 : (1 : Int) ≤ x2.toInt := a3
        have a4 : x2.toInt ≤ (200 : Int) := a4
        rcases hi_nm h1 with ⟨a5, a6, h1⟩ | ⟨a5, h1⟩
        · have a5 : (0 : Int) ≤ x3.toInt := a5
          have a6 : x3.toInt ≤ (5000 : Int) := a6
          rcases hi_pl h1 with ⟨a7, h1⟩ | ⟨a7, h1⟩
          · have a7 : (σ.2 3).toInt < (8 : Int) := a7
            refine Or.inr ⟨⟨a1, a2, a3, a4, a5, a6, a7⟩, ?_⟩
            obtain ⟨τ, v, e, h1⟩ := hy_bd_some h1
            unfold fX2_add at e
            obtain ⟨_, τ1, e1, e⟩ := hy_pa_some e
            obtain ⟨_, τ2, e2, e⟩ := hy_pa_some e
            obtain ⟨_, τ3, e3, e⟩ := hy_pa_some e
            obtain ⟨τ4, e4, e⟩ := hy_pf_some e
            rw [(hi_pr h1).1, show τ = τ4 from (hi_pr e).1, e4, e3, e2, e1]
            rfl
          · have a7 : (8 : Int) ≤ (σ.2 3).toInt := a7
            exact Or.inl ⟨by omega, by rw [h1]⟩
        · have a5 : x3.toInt < (0 : Int) ∨ (5000 : Int) < x3.toInt := a5
          exact Or.inl ⟨by omega, by rw [h1]⟩
      · have a3 : x2.toInt < (1 : Int) ∨ (200 : Int) < x2.toInt := a3
        exact Or.inl ⟨by omega, by rw [h1]⟩
    · have a1 : x1.toInt < (1 : Int) ∨ (100 : Int) < x1.toInt := a1
      exact Or.inl ⟨by omega, by rw [h1]⟩
  have B : ((x1.toInt < 1 ∨ 100 < x1.toInt ∨ x2.toInt < 1 ∨ 200 < x2.toInt ∨ x3.toInt < 0 ∨ 5000 < x3.toInt ∨ 8 ≤ (μ.2 1).toInt) ∧ ∃ k : Int32, o2.1 = hy_si (hy_si μ 0 0) 0 k) ∨ ((1 ≤ x1.toInt ∧ x1.toInt ≤ 100 ∧ 1 ≤ x2.toInt ∧ x2.toInt ≤ 200 ∧ 0 ≤ x3.toInt ∧ x3.toInt ≤ 5000 ∧ ¬ (μ.2 1).toInt = 8) ∧ o2.1 = hy_si (hy_sc (hy_sc (hy_sc (hy_si μ 0 0) 0 (upd (μ.1 0) (μ.2 1).toNatClampNeg x1)) 1 (upd (μ.1 1) (μ.2 1).toNatClampNeg x2)) 2 (upd (μ.1 2) (μ.2 1).toNatClampNeg x3)) 1 (μ.2 1 + 1)) := by
    unfold fX10_kind at h2
    obtain ⟨ν, eν, h2⟩ := hy_pf_some h2
    have thr : fX10_kind_38 ν x1 x2 x3 = some o2 → ∃ k : Int32, o2.1 = hy_si (hy_si μ 0 0) 0 k := by
      intro h
      unfold fX10_kind_38 fX10_kind_43 at h
      have h := hi_t1 h
      rw [if_neg (by decide)] at h
      exact ⟨1, by rw [(hi_pr h).1, eν]⟩
    rcases hi_in h2 with ⟨a1, a2, h2⟩ | ⟨a1, h2⟩
    · have a1 : (1 : Int) ≤ x1.toInt := a1
      have a2 : x1.toInt ≤ (100 : Int) := a2
      rw [if_neg (by decide)] at h2
      rcases hi_in h2 with ⟨a3, a4, h2⟩ | ⟨a3, h2⟩
      · have a3 : (1 : Int) ≤ x2.toInt := a3
        have a4 : x2.toInt ≤ (200 : Int) := a4
        rw [if_neg (by decide)] at h2
        rcases hi_in h2 with ⟨a5, a6, h2⟩ | ⟨a5, h2⟩
        · have a5 : (0 : Int) ≤ x3.toInt := a5
          have a6 : x3.toInt ≤ (5000 : Int) := a6
          rw [if_neg (by decide)] at h2
          unfold fX10_kind_43 at h2
          have h2 := hi_t0 h2
          rw [if_pos rfl] at h2
          have b1 : ν.2 1 = μ.2 1 := by rw [eν]; rfl
          rw [b1] at h2
          by_cases c : μ.2 1 = 8
          · rw [if_pos c] at h2
            unfold fX10_kind_65 at h2
            have h2 := hi_t1 h2
            rw [if_neg (by decide)] at h2
            have c8 : (μ.2 1).toInt = 8 := by rw [c]; rfl
            exact Or.inl ⟨by omega, 2, by rw [(hi_pr h2).1, eν]⟩
          · rw [if_neg c] at h2
            unfold fX10_kind_65 at h2
            have h2 := hi_t0 h2
            rw [if_pos rfl] at h2
            obtain ⟨_, τ1, e1, h2⟩ := hy_pa_some h2
            obtain ⟨_, τ2, e2, h2⟩ := hy_pa_some h2
            obtain ⟨_, τ3, e3, h2⟩ := hy_pa_some h2
            obtain ⟨τ4, e4, h2⟩ := hy_pf_some h2
            refine Or.inr ⟨⟨a1, a2, a3, a4, a5, a6, hi_ne c⟩, ?_⟩
            rw [(hi_pr h2).1, e4, e3, e2, e1, eν]
            rfl
        · have a5 : x3.toInt < (0 : Int) ∨ (5000 : Int) < x3.toInt := a5
          rw [if_pos rfl] at h2
          exact Or.inl ⟨by omega, thr h2⟩
      · have a3 : x2.toInt < (1 : Int) ∨ (200 : Int) < x2.toInt := a3
        rw [if_pos rfl] at h2
        exact Or.inl ⟨by omega, thr h2⟩
    · have a1 : x1.toInt < (1 : Int) ∨ (100 : Int) < x1.toInt := a1
      rw [if_pos rfl] at h2
      exact Or.inl ⟨by omega, thr h2⟩
  have n3 : (σ.2 3).toInt = (μ.2 1).toInt := by rw [hN.1]
  rcases A with ⟨A1, A2⟩ | ⟨A1, A2⟩
  · rcases B with ⟨B1, k, B2⟩ | ⟨B1, B2⟩
    · rw [A2, B2]
      exact hj_t2 hR
    · exfalso
      omega
  · rcases B with ⟨B1, k, B2⟩ | ⟨B1, B2⟩
    · exfalso
      omega
    · rw [A2, B2]
      refine ⟨⟨?_, ?_, ?_⟩, hR.2.1, hR.2.2.1, ⟨?_, hN.2.1, hN.2.2⟩, hR.2.2.2.2⟩
      · show upd (σ.1 2) (σ.2 3).toNatClampNeg x1 = upd (μ.1 0) (μ.2 1).toNatClampNeg x1
        rw [hA.1, hN.1]
      · show upd (σ.1 3) (σ.2 3).toNatClampNeg x2 = upd (μ.1 1) (μ.2 1).toNatClampNeg x2
        rw [hA.2.1, hN.1]
      · show upd (σ.1 4) (σ.2 3).toNatClampNeg x3 = upd (μ.1 2) (μ.2 1).toNatClampNeg x3
        rw [hA.2.2, hN.1]
      · show σ.2 3 + 1 = μ.2 1 + 1
        rw [hN.1]
theorem hj_fire {R : hy_S → Prop} {σ μ : hy_S} {x1 x2 x3 : Int32} {o : hy_O} {o2 : hy_S × Int32} (hC : hc_I R σ) (hR : hj_R σ μ) (h1 : fX9_fire σ x1 x2 x3 = some o) (h2 : fX10_fire μ x1 x2 x3 = some o2) : hj_R o.1 o2.1 := by
  have hF := hR.2.1
  have hD := hR.2.2.1
  have hN := hR.2.2.2.1
  have hZ := hR.2.2.2.2.1
  have i3 : (0 : Int) ≤ (σ.2 3).toInt ∧ (σ.2 3).toInt ≤ 8 := hC.2.1 3
  have i4 : (0 : Int) ≤ (σ.2 4).toInt ∧ (σ.2 4).toInt ≤ 60 := hC.2.1 4
  have n3 : (σ.2 3).toInt = (μ.2 1).toInt := by rw [hN.1]
  have n4 : (σ.2 4).toInt = (μ.2 2).toInt := by rw [hN.2.1]
  have A : ((x1.toInt < 0 ∨ (σ.2 3).toInt ≤ x1.toInt ∨ x2.toInt < 0 ∨ 15 < x2.toInt ∨ x3.toInt < 1 ∨ 300 < x3.toInt ∨ 60 ≤ (σ.2 4).toInt) ∧ o.1 = σ) ∨ ((0 ≤ x1.toInt ∧ x1.toInt < (σ.2 3).toInt ∧ 0 ≤ x2.toInt ∧ x2.toInt ≤ 15 ∧ 1 ≤ x3.toInt ∧ x3.toInt ≤ 300 ∧ (σ.2 4).toInt < 60) ∧ o.1 = hy_si (hy_sc (hy_sc (hy_sc (hy_sc (hy_sc (hy_sc σ 5 (upd (σ.1 5) (σ.2 4).toNatClampNeg x1)) 6 (upd (σ.1 6) (σ.2 4).toNatClampNeg x2)) 7 (upd (σ.1 7) (σ.2 4).toNatClampNeg x3)) 8 (upd (σ.1 8) (σ.2 4).toNatClampNeg 0)) 9 (upd (σ.1 9) (σ.2 4).toNatClampNeg 0)) 10 (upd (σ.1 10) (σ.2 4).toNatClampNeg (-1))) 4 (σ.2 4 + 1)) := by
    unfold fX9_fire at h1
    rcases hi_ix h1 with ⟨a1, a2, h1⟩ | ⟨a1, h1⟩
    · rcases hi_nm h1 with ⟨a3, a4, h1⟩ | ⟨a3, h1⟩
      · have a3 : (0 : Int) ≤ x2.toInt := a3
        have a4 : x2.toInt ≤ (15 : Int) := a4
        rcases hi_nm h1 with ⟨a5, a6, h1⟩ | ⟨a5, h1⟩
        · have a5 : (1 : Int) ≤ x3.toInt := a5
          have a6 : x3.toInt ≤ (300 : Int) := a6
          rcases hi_pl h1 with ⟨a7, h1⟩ | ⟨a7, h1⟩
          · have a7 : (σ.2 4).toInt < (60 : Int) := a7
            refine Or.inr ⟨⟨a1, a2, a3, a4, a5, a6, a7⟩, ?_⟩
            obtain ⟨τ, v, e, h1⟩ := hy_bd_some h1
            unfold fX1_add at e
            obtain ⟨_, τ1, e1, e⟩ := hy_pa_some e
            obtain ⟨_, τ2, e2, e⟩ := hy_pa_some e
            obtain ⟨_, τ3, e3, e⟩ := hy_pa_some e
            obtain ⟨_, τ4, e4, e⟩ := hy_pa_some e
            obtain ⟨_, τ5, e5, e⟩ := hy_pa_some e
            obtain ⟨_, τ6, e6, e⟩ := hy_pa_some e
            obtain ⟨τ7, e7, e⟩ := hy_pf_some e
            rw [(hi_pr h1).1, show τ = τ7 from (hi_pr e).1, e7, e6, e5, e4, e3, e2, e1]
            rfl
          · have a7 : (60 : Int) ≤ (σ.2 4).toInt := a7
            exact Or.inl ⟨by omega, by rw [h1]⟩
        · have a5 : x3.toInt < (1 : Int) ∨ (300 : Int) < x3.toInt := a5
          exact Or.inl ⟨by omega, by rw [h1]⟩
      · have a3 : x2.toInt < (0 : Int) ∨ (15 : Int) < x2.toInt := a3
        exact Or.inl ⟨by omega, by rw [h1]⟩
    · exact Or.inl ⟨by omega, by rw [h1]⟩
  have B : ((x1.toInt < 0 ∨ (μ.2 1).toInt ≤ x1.toInt ∨ x2.toInt < 0 ∨ 15 < x2.toInt ∨ x3.toInt < 1 ∨ 300 < x3.toInt ∨ 60 ≤ (μ.2 2).toInt) ∧ ∃ k : Int32, o2.1 = hy_si (hy_si μ 0 0) 0 k) ∨ ((0 ≤ x1.toInt ∧ x1.toInt < (μ.2 1).toInt ∧ 0 ≤ x2.toInt ∧ x2.toInt ≤ 15 ∧ 1 ≤ x3.toInt ∧ x3.toInt ≤ 300 ∧ ¬ (μ.2 2).toInt = 60) ∧ o2.1 = hy_si (hy_sc (hy_sc (hy_sc (hy_sc (hy_si μ 0 0) 3 (upd (μ.1 3) (μ.2 2).toNatClampNeg x1)) 4 (upd (μ.1 4) (μ.2 2).toNatClampNeg x2)) 5 (upd (μ.1 5) (μ.2 2).toNatClampNeg x3)) 8 (upd (μ.1 8) (μ.2 2).toNatClampNeg (-1))) 2 (μ.2 2 + 1)) := by
    unfold fX10_fire at h2
    obtain ⟨ν, eν, h2⟩ := hy_pf_some h2
    have b1 : ν.2 1 = μ.2 1 := by rw [eν]; rfl
    have b2 : ν.2 2 = μ.2 2 := by rw [eν]; rfl
    have hz : (ν.2 1 - 1).toInt = (μ.2 1).toInt - 1 := by rw [b1]; exact hs_subk 1 rfl (by omega) (by omega)
    have thr : fX10_fire_54 ν x1 x2 x3 = some o2 → ∃ k : Int32, o2.1 = hy_si (hy_si μ 0 0) 0 k := by
      intro h
      unfold fX10_fire_54 fX10_fire_59 at h
      have h := hi_t1 h
      rw [if_neg (by decide)] at h
      exact ⟨2, by rw [(hi_pr h).1, eν]⟩
    rcases hi_in h2 with ⟨a1, a2, h2⟩ | ⟨a1, h2⟩
    · have a1 : (0 : Int) ≤ x1.toInt := a1
      rw [hz] at a2
      rw [if_neg (by decide)] at h2
      unfold fX10_fire_25 at h2
      have h2 := hi_t0 h2
      rw [if_pos rfl] at h2
      rcases hi_in h2 with ⟨a3, a4, h2⟩ | ⟨a3, h2⟩
      · have a3 : (0 : Int) ≤ x2.toInt := a3
        have a4 : x2.toInt ≤ (15 : Int) := a4
        rw [if_neg (by decide)] at h2
        rcases hi_in h2 with ⟨a5, a6, h2⟩ | ⟨a5, h2⟩
        · have a5 : (1 : Int) ≤ x3.toInt := a5
          have a6 : x3.toInt ≤ (300 : Int) := a6
          rw [if_neg (by decide)] at h2
          unfold fX10_fire_59 at h2
          have h2 := hi_t0 h2
          rw [if_pos rfl, b2] at h2
          by_cases c : μ.2 2 = 60
          · rw [if_pos c] at h2
            unfold fX10_fire_81 at h2
            have h2 := hi_t1 h2
            rw [if_neg (by decide)] at h2
            have c8 : (μ.2 2).toInt = 60 := by rw [c]; rfl
            exact Or.inl ⟨by omega, 3, by rw [(hi_pr h2).1, eν]⟩
          · rw [if_neg c] at h2
            unfold fX10_fire_81 at h2
            have h2 := hi_t0 h2
            rw [if_pos rfl] at h2
            obtain ⟨_, τ1, e1, h2⟩ := hy_pa_some h2
            obtain ⟨_, τ2, e2, h2⟩ := hy_pa_some h2
            obtain ⟨_, τ3, e3, h2⟩ := hy_pa_some h2
            obtain ⟨_, τ4, e4, h2⟩ := hy_pa_some h2
            obtain ⟨τ5, e5, h2⟩ := hy_pf_some h2
            refine Or.inr ⟨⟨a1, by omega, a3, a4, a5, a6, hi_ne c⟩, ?_⟩
            rw [(hi_pr h2).1, e5, e4, e3, e2, e1, eν]
            rfl
        · have a5 : x3.toInt < (1 : Int) ∨ (300 : Int) < x3.toInt := a5
          rw [if_pos rfl] at h2
          exact Or.inl ⟨by omega, thr h2⟩
      · have a3 : x2.toInt < (0 : Int) ∨ (15 : Int) < x2.toInt := a3
        rw [if_pos rfl] at h2
        exact Or.inl ⟨by omega, thr h2⟩
    · rw [hz] at a1
      have a1 : x1.toInt < (0 : Int) ∨ (μ.2 1).toInt - 1 < x1.toInt := a1
      rw [if_pos rfl] at h2
      unfold fX10_fire_25 at h2
      have h2 := hi_t1 h2
      rw [if_neg (by decide)] at h2
      exact Or.inl ⟨by omega, 1, by rw [(hi_pr h2).1, eν]⟩
  rcases A with ⟨A1, A2⟩ | ⟨A1, A2⟩
  · rcases B with ⟨B1, k, B2⟩ | ⟨B1, B2⟩
    · rw [A2, B2]
      exact hj_t2 hR
    · exfalso
      omega
  · rcases B with ⟨B1, k, B2⟩ | ⟨B1, B2⟩
    · exfalso
      omega
    · have ns := hs_tn i4.1
      have z := hZ (σ.2 4).toNatClampNeg (by omega)
      have u8 : upd (σ.1 8) (σ.2 4).toNatClampNeg 0 = σ.1 8 := hi_upn z.1
      have u9 : upd (σ.1 9) (σ.2 4).toNatClampNeg 0 = σ.1 9 := hi_upn z.2
      have g4 : (σ.2 4 + 1).toInt = (σ.2 4).toInt + 1 := hs_addk 1 rfl (by omega) (by omega)
      rw [A2, B2]
      refine ⟨hR.1, ⟨?_, ?_, ?_⟩, ⟨?_, ?_, ?_, hD.2.2.2.1, hD.2.2.2.2⟩, ⟨hN.1, ?_, hN.2.2⟩, fun k hk => ?_, ?_⟩
      · show upd (σ.1 5) (σ.2 4).toNatClampNeg x1 = upd (μ.1 3) (μ.2 2).toNatClampNeg x1
        rw [hF.1, hN.2.1]
      · show upd (σ.1 6) (σ.2 4).toNatClampNeg x2 = upd (μ.1 4) (μ.2 2).toNatClampNeg x2
        rw [hF.2.1, hN.2.1]
      · show upd (σ.1 7) (σ.2 4).toNatClampNeg x3 = upd (μ.1 5) (μ.2 2).toNatClampNeg x3
        rw [hF.2.2, hN.2.1]
      · show upd (σ.1 8) (σ.2 4).toNatClampNeg 0 = μ.1 6
        rw [u8]
        exact hD.1
      · show upd (σ.1 9) (σ.2 4).toNatClampNeg 0 = μ.1 7
        rw [u9]
        exact hD.2.1
      · show upd (σ.1 10) (σ.2 4).toNatClampNeg (-1) = upd (μ.1 8) (μ.2 2).toNatClampNeg (-1)
        rw [hD.2.2.1, hN.2.1]
      · show σ.2 4 + 1 = μ.2 2 + 1
        rw [hN.2.1]
      · have hk : (σ.2 4 + 1).toInt ≤ (k : Int) := hk
        show upd (σ.1 8) (σ.2 4).toNatClampNeg 0 k = 0 ∧ upd (σ.1 9) (σ.2 4).toNatClampNeg 0 k = 0
        rw [u8, u9]
        exact hZ k (by omega)
      · show hj_P (upd (σ.1 9) (σ.2 4).toNatClampNeg 0) (upd (σ.1 10) (σ.2 4).toNatClampNeg (-1)) (σ.1 11) (σ.1 12)
        rw [u9]
        have hP := hR.2.2.2.2.2
        refine ⟨fun p k hp hk => ?_, hP.2⟩
        have q := hP.1 p k hp hk
        rw [hs_upd ?_]
        · exact q
        · intro e
          rw [e, z.2] at q
          exact absurd q.1 (by decide)
theorem hj_ship {R : hy_S → Prop} {σ μ : hy_S} {o : hy_O} {o2 : hy_S × Int32} (hC : hc_I R σ) (hR : hj_R σ μ) (h1 : fX9_ship σ = some o) (h2 : fX10_ship μ = some o2) : hj_R o.1 o2.1 := by
  have hN := hR.2.2.2.1
  have i5 : (0 : Int) ≤ (σ.2 5).toInt ∧ (σ.2 5).toInt ≤ 4 := hC.2.1 5
  have n5 : (σ.2 5).toInt = (μ.2 3).toInt := by rw [hN.2.2]
  unfold fX9_ship at h1
  unfold fX10_ship at h2
  obtain ⟨ν, eν, h2⟩ := hy_pf_some h2
  have b3 : ν.2 3 = μ.2 3 := by rw [eν]; rfl
  rw [b3] at h2
  by_cases c : μ.2 3 = 4
  · rw [if_pos c] at h2
    have c8 : (μ.2 3).toInt = 4 := by rw [c]; rfl
    unfold fX10_ship_19 at h2
    have h2 := hi_t1 h2
    rw [if_neg (by decide)] at h2
    rcases hi_pl h1 with ⟨a1, h1⟩ | ⟨a1, h1⟩
    · exfalso
      have a1 : (σ.2 5).toInt < (4 : Int) := a1
      omega
    · rw [h1, (hi_pr h2).1, eν]
      exact hj_t2 hR
  · rw [if_neg c] at h2
    have c8 : ¬ (μ.2 3).toInt = 4 := hi_ne c
    unfold fX10_ship_19 at h2
    have h2 := hi_t0 h2
    rw [if_pos rfl] at h2
    rcases hi_pl h1 with ⟨a1, h1⟩ | ⟨a1, h1⟩
    · obtain ⟨τ, v, e, h1⟩ := hy_bd_some h1
      unfold fX0_add at e
      obtain ⟨τ1, e1, e⟩ := hy_pf_some e
      obtain ⟨ν1, f1, h2⟩ := hy_pf_some h2
      rw [(hi_pr h1).1, show τ = τ1 from (hi_pr e).1, e1, (hi_pr h2).1, f1, b3, eν]
      refine ⟨hR.1, hR.2.1, hR.2.2.1, ⟨hN.1, hN.2.1, ?_⟩, hR.2.2.2.2⟩
      show σ.2 5 + 1 = μ.2 3 + 1
      rw [hN.2.2]
    · exfalso
      have a1 : (4 : Int) ≤ (σ.2 5).toInt := a1
      omega
theorem hj_start {σ μ : hy_S} (a : ∀ j, ¬ j = 15 → ∀ k, σ.1 j k = 0) (b : ∀ j, ¬ j = 0 → σ.2 j = 0) (c : ∀ j, ¬ j = 14 → ∀ k, μ.1 j k = 0) (d : ∀ j, ¬ j = 8 → μ.2 j = 0) : hj_R σ μ := by
  have ea : ∀ j q, ¬ j = 15 → ¬ q = 14 → σ.1 j = μ.1 q := fun j q hj hq => funext (fun k => by rw [a j hj k, c q hq k])
  have ei : ∀ j q, ¬ j = 0 → ¬ q = 8 → σ.2 j = μ.2 q := fun j q hj hq => by rw [b j hj, d q hq]
  refine ⟨⟨ea _ _ (by decide) (by decide), ea _ _ (by decide) (by decide), ea _ _ (by decide) (by decide)⟩, ⟨ea _ _ (by decide) (by decide), ea _ _ (by decide) (by decide), ea _ _ (by decide) (by decide)⟩, ⟨ea _ _ (by decide) (by decide), ea _ _ (by decide) (by decide), ea _ _ (by decide) (by decide), ea _ _ (by decide) (by decide), ea _ _ (by decide) (by decide)⟩, ⟨ei _ _ (by decide) (by decide), ei _ _ (by decide) (by decide), ei _ _ (by decide) (by decide)⟩, fun k _ => ⟨a 8 (by decide) k, a 9 (by decide) k⟩, fun p k _ hk => ?_, fun p k q _ _ hq => ?_⟩
  · rw [a 12 (by decide) p] at hk
    exact absurd (show (k : Int) < 0 from hk) (by omega)
  · rw [a 12 (by decide) p] at hq
    exact absurd (show (q : Int) < 0 from hq) (by omega)
