/-! The sherds of both sides. -/
noncomputable def hv_A (σ μ : hy_S) : Prop := σ.1 18 = μ.1 22 ∧ σ.1 20 = μ.1 20 ∧ σ.2 7 = μ.2 9
noncomputable def hv_R (σ μ : hy_S) : Prop := hv_A σ μ ∧ hv_E (σ.1 18) (σ.1 19) (σ.1 20) (σ.1 21) (μ.1 21) (σ.2 7).toNatClampNeg
theorem hv_t1 {σ μ : hy_S} {a : Int32} (hR : hv_R σ μ) : hv_R σ (hy_si μ 0 a) := ⟨hR.1, hR.2⟩
theorem hv_t2 {σ μ : hy_S} {a b : Int32} (hR : hv_R σ μ) : hv_R σ (hy_si (hy_si μ 0 a) 0 b) := ⟨hR.1, hR.2⟩
theorem hv_keep {σ μ τ ν : hy_S} (a : ∀ j ∈ ([18, 19, 20, 21] : List Nat), τ.1 j = σ.1 j) (b : ∀ j ∈ ([7] : List Nat), τ.2 j = σ.2 j) (c : ∀ j ∈ ([20, 21, 22] : List Nat), ν.1 j = μ.1 j) (d : ∀ j ∈ ([9] : List Nat), ν.2 j = μ.2 j) (hR : hv_R σ μ) : hv_R τ ν := by
  unfold hv_R hv_A
  rw [a 18 (by decide), a 19 (by decide), a 20 (by decide), a 21 (by decide), b 7 (by decide), c 20 (by decide), c 21 (by decide), c 22 (by decide), d 9 (by decide)]
  exact hR
theorem hv_start {σ μ : hy_S} (a : ∀ j, ¬ j = 15 → ∀ k, σ.1 j k = 0) (b : ∀ j, ¬ j = 0 → σ.2 j = 0) (c : ∀ j, ¬ j = 14 → ∀ k, μ.1 j k = 0) (d : ∀ j, ¬ j = 8 → μ.2 j = 0) : hv_R σ μ := by
  have ea : ∀ j q, ¬ j = 15 → ¬ q = 14 → σ.1 j = μ.1 q := fun j q hj hq => funext (fun k => by rw [a j hj k, c q hq k])
  have ei : ∀ j q, ¬ j = 0 → ¬ q = 8 → σ.2 j = μ.2 q := fun j q hj hq => by rw [b j hj, d q hq]
  have n0 : (σ.2 7).toNatClampNeg = 0 := by rw [b 7 (by decide)]; rfl
  refine ⟨⟨ea _ _ (by decide) (by decide), ea _ _ (by decide) (by decide), ei _ _ (by decide) (by decide)⟩, ?_⟩
  rw [n0]
  exact ⟨fun k hk => absurd hk (Nat.not_lt_zero _), fun k r hk => absurd hk (Nat.not_lt_zero _), fun r hr => absurd hr (Nat.not_lt_zero _), fun r hr => absurd hr (Nat.not_lt_zero _)⟩
theorem hv_so {μ : hy_S} {x1 : Int32} {n : Nat} (hn : (μ.2 9).toInt = (n : Int)) (n60 : n ≤ 60) : ∀ (u : Nat) (x2 x3 : Int32) (o : hy_S × Int32), 0 ≤ x3.toInt → x3.toInt ≤ 60 → fX10_stampOf_4 u μ x1 x2 x3 = some o → o.1 = μ ∧ ((o.2 = x2 ∧ ∀ k : Nat, x3.toNatClampNeg ≤ k → k < n → μ.1 22 k = x1 → (μ.1 21 k).toInt < 0) ∨ (∃ k : Nat, x3.toNatClampNeg ≤ k ∧ k < n ∧ μ.1 22 k = x1 ∧ 0 ≤ (μ.1 21 k).toInt ∧ o.2 = μ.1 21 k)) := by
  intro u
  induction u with
  | zero => intro x2 x3 o h0 h1 h; cases h
  | succ u ih =>
    intro x2 x3 o h0 h1 h
    have nx := hs_tn h0
    unfold fX10_stampOf_4 at h
    by_cases c : μ.2 9 ≤ x3
    · rw [if_pos c] at h
      have c1 : (μ.2 9).toInt ≤ x3.toInt := hi_le.mp c
      obtain ⟨s1, s2⟩ := hi_pr h
      exact ⟨s1, Or.inl ⟨s2, fun k k1 k2 => absurd k2 (by omega)⟩⟩
    · rw [if_neg c] at h
      have c1 := hi_nle c
      obtain ⟨g1, g2⟩ := hj_p1 h0 (by omega)
      obtain ⟨_, v2, e2, h⟩ := hy_ga_some h
      have rest : ∀ y : Int32, (y = x2 ∧ ((μ.1 22 x3.toNatClampNeg = x1 → (μ.1 21 x3.toNatClampNeg).toInt < 0))) ∨ (μ.1 22 x3.toNatClampNeg = x1 ∧ 0 ≤ (μ.1 21 x3.toNatClampNeg).toInt ∧ y = μ.1 21 x3.toNatClampNeg) → fX10_stampOf_4 u μ x1 y (x3 + 1) = some o → o.1 = μ ∧ ((o.2 = x2 ∧ ∀ k : Nat, x3.toNatClampNeg ≤ k → k < n → μ.1 22 k = x1 → (μ.1 21 k).toInt < 0) ∨ (∃ k : Nat, x3.toNatClampNeg ≤ k ∧ k < n ∧ μ.1 22 k = x1 ∧ 0 ≤ (μ.1 21 k).toInt ∧ o.2 = μ.1 21 k)) := by
        intro y hy h
        obtain ⟨i1, i2⟩ := ih y (x3 + 1) o (by rw [g1]; omega) (by rw [g1]; omega) h
        rw [g2] at i2
        refine ⟨i1, ?_⟩
        rcases i2 with ⟨j1, j2⟩ | ⟨k, k1, k2⟩
        · rcases hy with ⟨y1, y2⟩ | ⟨y1, y2, y3⟩
          · refine Or.inl ⟨j1.trans y1, fun k k1 k2 k3 => ?_⟩
            by_cases e : k = x3.toNatClampNeg
            · rw [e] at k3 ⊢
              exact y2 k3
            · exact j2 k (by omega) k2 k3
          · exact Or.inr ⟨x3.toNatClampNeg, Nat.le_refl _, by omega, y1, y2, j1.trans y3⟩
        · exact Or.inr ⟨k, by omega, k2⟩
      by_cases c2 : v2 = x1
      · rw [if_pos c2] at h
        obtain ⟨_, v6, e6, h⟩ := hy_ga_some h
        by_cases c3 : v6 < 0
        · rw [if_pos c3] at h
          unfold fX10_stampOf_38 at h
          refine rest x2 (Or.inl ⟨rfl, fun _ => ?_⟩) h
          rw [← e6]
          exact Int32.lt_iff_toInt_lt.mp c3
        · rw [if_neg c3] at h
          have c4 : ¬ v6.toInt < 0 := hi_nlt c3
          obtain ⟨_, v10, e10, h⟩ := hy_ga_some h
          unfold fX10_stampOf_38 at h
          exact rest v10 (Or.inr ⟨by rw [← e2]; exact c2, by rw [← e6]; omega, e10⟩) h
      · rw [if_neg c2] at h
        unfold fX10_stampOf_38 at h
        exact rest x2 (Or.inl ⟨rfl, fun z => absurd (by rw [e2]; exact z) c2⟩) h
theorem hv_st {R : hy_S → Prop} {σ μ : hy_S} (hC : hc_I R σ) (hR : hv_R σ μ) {r : Nat} (hr : r < (σ.2 7).toNatClampNeg) (fr : σ.1 18 r = hv_i r) {o : hy_S × Int32} (h : fX10_stampOf μ (hv_i r) = some o) : o.1 = μ ∧ o.2 = σ.1 21 r := by
  have i7 : (0 : Int) ≤ (σ.2 7).toInt ∧ (σ.2 7).toInt ≤ 60 := hC.2.1 7
  have ns := hs_tn i7.1
  unfold fX10_stampOf at h
  obtain ⟨q1, q2⟩ := hv_so (n := (σ.2 7).toNatClampNeg) (by rw [← hR.1.2.2]; omega) (by omega) hy_fu (-1) 0 o (by decide) (by decide) h
  refine ⟨q1, ?_⟩
  obtain ⟨a1, a2, a3⟩ := hR.2.2.2.1 r hr fr
  rcases q2 with ⟨b1, b2⟩ | ⟨k, k1, k2, k3, k4, k5⟩
  · rcases a1 with a1 | a1
    · rw [b1, a1]
    · obtain ⟨k, k1, k2, k3⟩ := a3 a1
      have := b2 k (Nat.zero_le _) k1 (by rw [← hR.1.1]; exact k2)
      rw [k3] at this
      omega
  · rw [← hR.1.1] at k3
    rcases a2 k k2 k3 with y | y
    · omega
    · rw [k5, y]
theorem hv_sherd {R : hy_S → Prop} {σ μ : hy_S} {x1 x2 : Int32} {o : hy_O} {o2 : hy_S × Int32} (hC : hc_I R σ) (hR : hv_R σ μ) (h1 : fX9_sherd σ x1 x2 = some o) (h2 : fX10_sherd μ x1 x2 = some o2) : hv_R o.1 o2.1 := by
  have i7 : (0 : Int) ≤ (σ.2 7).toInt ∧ (σ.2 7).toInt ≤ 60 := hC.2.1 7
  have ns := hs_tn i7.1
  have n7 : (σ.2 7).toInt = (μ.2 9).toInt := by rw [hR.1.2.2]
  have A : ((x1.toInt < 0 ∨ 15 < x1.toInt ∨ (¬ x2.toInt = -1 ∧ (x2.toInt < 0 ∨ 12 ≤ x2.toInt)) ∨ 60 ≤ (σ.2 7).toInt) ∧ o.1 = σ) ∨ ((0 ≤ x1.toInt ∧ x1.toInt ≤ 15 ∧ (x2.toInt = -1 ∨ (0 ≤ x2.toInt ∧ x2.toInt < 12)) ∧ (σ.2 7).toInt < 60) ∧ o.1 = hy_si (hy_sc (hy_sc (hy_sc (hy_sc σ 18 (upd (σ.1 18) (σ.2 7).toNatClampNeg (σ.2 7))) 19 (upd (σ.1 19) (σ.2 7).toNatClampNeg 1)) 20 (upd (σ.1 20) (σ.2 7).toNatClampNeg x1)) 21 (upd (σ.1 21) (σ.2 7).toNatClampNeg x2)) 7 (σ.2 7 + 1)) := by
    unfold fX9_sherd at h1
    rcases hi_nm h1 with ⟨a1, a2, h1⟩ | ⟨a1, h1⟩
    · have a1 : (0 : Int) ≤ x1.toInt := a1
      have a2 : x1.toInt ≤ (15 : Int) := a2
      rcases hi_sn h1 with ⟨a3, h1⟩ | ⟨a3, h1⟩
      · rcases hi_pl h1 with ⟨a7, h1⟩ | ⟨a7, h1⟩
        · have a7 : (σ.2 7).toInt < (60 : Int) := a7
          refine Or.inr ⟨⟨a1, a2, a3, a7⟩, ?_⟩
          obtain ⟨τ, v, e, h1⟩ := hy_bd_some h1
          unfold fX5_add at e
          obtain ⟨_, τ1, e1, e⟩ := hy_pa_some e
          obtain ⟨_, τ2, e2, e⟩ := hy_pa_some e
          obtain ⟨_, τ3, e3, e⟩ := hy_pa_some e
          obtain ⟨_, τ4, e4, e⟩ := hy_pa_some e
          obtain ⟨τ5, e5, e⟩ := hy_pf_some e
          rw [(hi_pr h1).1, show τ = τ5 from (hi_pr e).1, e5, e4, e3, e2, e1]
          rfl
        · have a7 : (60 : Int) ≤ (σ.2 7).toInt := a7
          exact Or.inl ⟨by omega, by rw [h1]⟩
      · exact Or.inl ⟨by omega, by rw [h1]⟩
    · have a1 : x1.toInt < (0 : Int) ∨ (15 : Int) < x1.toInt := a1
      exact Or.inl ⟨by omega, by rw [h1]⟩
  have B : ((x1.toInt < 0 ∨ 15 < x1.toInt ∨ (¬ x2.toInt = -1 ∧ (x2.toInt < 0 ∨ 12 ≤ x2.toInt)) ∨ (μ.2 9).toInt = 60) ∧ ∃ k : Int32, o2.1 = hy_si (hy_si μ 0 0) 0 k) ∨ ((0 ≤ x1.toInt ∧ x1.toInt ≤ 15 ∧ (x2.toInt = -1 ∨ (0 ≤ x2.toInt ∧ x2.toInt < 12)) ∧ ¬ (μ.2 9).toInt = 60) ∧ o2.1 = hy_si (hy_sc (hy_sc (hy_sc (hy_si μ 0 0) 20 (upd (μ.1 20) (μ.2 9).toNatClampNeg x1)) 21 (upd (μ.1 21) (μ.2 9).toNatClampNeg x2)) 22 (upd (μ.1 22) (μ.2 9).toNatClampNeg (μ.2 9))) 9 (μ.2 9 + 1)) := by
    unfold fX10_sherd at h2
    obtain ⟨ν, eν, h2⟩ := hy_pf_some h2
    have b9 : ν.2 9 = μ.2 9 := by rw [eν]; rfl
    have good : (x2.toInt = -1 ∨ (0 ≤ x2.toInt ∧ x2.toInt < 12)) → fX10_sherd_22 ν x1 x2 = some o2 → ((x1.toInt < 0 ∨ 15 < x1.toInt ∨ (¬ x2.toInt = -1 ∧ (x2.toInt < 0 ∨ 12 ≤ x2.toInt)) ∨ (μ.2 9).toInt = 60) ∧ ∃ k : Int32, o2.1 = hy_si (hy_si μ 0 0) 0 k) ∨ ((0 ≤ x1.toInt ∧ x1.toInt ≤ 15 ∧ (x2.toInt = -1 ∨ (0 ≤ x2.toInt ∧ x2.toInt < 12)) ∧ ¬ (μ.2 9).toInt = 60) ∧ o2.1 = hy_si (hy_sc (hy_sc (hy_sc (hy_si μ 0 0) 20 (upd (μ.1 20) (μ.2 9).toNatClampNeg x1)) 21 (upd (μ.1 21) (μ.2 9).toNatClampNeg x2)) 22 (upd (μ.1 22) (μ.2 9).toNatClampNeg (μ.2 9))) 9 (μ.2 9 + 1)) := by
      intro hx h2
      unfold fX10_sherd_22 fX10_sherd_23 at h2
      have h2 := hi_t0 h2
      rw [if_pos rfl] at h2
      rcases hi_in h2 with ⟨a1, a2, h2⟩ | ⟨a1, h2⟩
      · have a1 : (0 : Int) ≤ x1.toInt := a1
        have a2 : x1.toInt ≤ (15 : Int) := a2
        rw [if_neg (by decide)] at h2
        unfold fX10_sherd_46 at h2
        have h2 := hi_t0 h2
        rw [if_pos rfl, b9] at h2
        by_cases c : μ.2 9 = 60
        · rw [if_pos c] at h2
          unfold fX10_sherd_68 at h2
          have h2 := hi_t1 h2
          rw [if_neg (by decide)] at h2
          have c8 : (μ.2 9).toInt = 60 := by rw [c]; rfl
          exact Or.inl ⟨by omega, 3, by rw [(hi_pr h2).1, eν]⟩
        · rw [if_neg c] at h2
          unfold fX10_sherd_68 at h2
          have h2 := hi_t0 h2
          rw [if_pos rfl] at h2
          obtain ⟨_, τ1, e1, h2⟩ := hy_pa_some h2
          obtain ⟨_, τ2, e2, h2⟩ := hy_pa_some h2
          obtain ⟨_, τ3, e3, h2⟩ := hy_pa_some h2
          obtain ⟨τ4, e4, h2⟩ := hy_pf_some h2
          refine Or.inr ⟨⟨a1, a2, hx, hi_ne c⟩, ?_⟩
          rw [(hi_pr h2).1, e4, e3, e2, e1, eν]
          rfl
      · have a1 : x1.toInt < (0 : Int) ∨ (15 : Int) < x1.toInt := a1
        rw [if_pos rfl] at h2
        unfold fX10_sherd_46 at h2
        have h2 := hi_t1 h2
        rw [if_neg (by decide)] at h2
        exact Or.inl ⟨by omega, 2, by rw [(hi_pr h2).1, eν]⟩
    by_cases c : x2 = -1
    · rw [if_pos c] at h2
      have c8 : x2.toInt = -1 := by rw [c]; rfl
      exact good (Or.inl c8) h2
    · rw [if_neg c] at h2
      have c8 : ¬ x2.toInt = -1 := hi_ne c
      rcases hi_nt h2 with ⟨a1, a2, h2⟩ | ⟨a1, h2⟩
      · rw [if_pos rfl] at h2
        exact good (Or.inr ⟨a1, a2⟩) h2
      · rw [if_neg (by decide)] at h2
        unfold fX10_sherd_23 at h2
        have h2 := hi_t1 h2
        rw [if_neg (by decide)] at h2
        exact Or.inl ⟨by omega, 1, by rw [(hi_pr h2).1, eν]⟩
  rcases A with ⟨A1, A2⟩ | ⟨A1, A2⟩
  · rcases B with ⟨B1, k, B2⟩ | ⟨B1, B2⟩
    · rw [A2, B2]
      exact hv_t2 hR
    · exfalso
      omega
  · rcases B with ⟨B1, k, B2⟩ | ⟨B1, B2⟩
    · exfalso
      omega
    · rw [A2, B2]
      have g : (σ.2 7 + 1).toNatClampNeg = (σ.2 7).toNatClampNeg + 1 := (hj_p1 i7.1 (by omega)).2
      have e7 : hv_i (σ.2 7).toNatClampNeg = σ.2 7 := (hv_of i7.1 (by omega)).symm
      have x2' : x2 = -1 ∨ 0 ≤ x2.toInt := by
        rcases A1.2.2.1 with z | z
        · exact Or.inl (Int32.toInt_inj.mp z)
        · exact Or.inr z.1
      have E := hv_Eadd (by omega) hR.2 (x := x1) x2'
      rw [e7] at E
      refine ⟨⟨?_, ?_, ?_⟩, ?_⟩
      · show upd (σ.1 18) (σ.2 7).toNatClampNeg (σ.2 7) = upd (μ.1 22) (μ.2 9).toNatClampNeg (μ.2 9)
        rw [hR.1.1, hR.1.2.2]
      · show upd (σ.1 20) (σ.2 7).toNatClampNeg x1 = upd (μ.1 20) (μ.2 9).toNatClampNeg x1
        rw [hR.1.2.1, hR.1.2.2]
      · show σ.2 7 + 1 = μ.2 9 + 1
        rw [hR.1.2.2]
      · show hv_E (upd (σ.1 18) (σ.2 7).toNatClampNeg (σ.2 7)) (upd (σ.1 19) (σ.2 7).toNatClampNeg 1) (upd (σ.1 20) (σ.2 7).toNatClampNeg x1) (upd (σ.1 21) (σ.2 7).toNatClampNeg x2) (upd (μ.1 21) (μ.2 9).toNatClampNeg x2) (σ.2 7 + 1).toNatClampNeg
        rw [g, ← hR.1.2.2]
        exact E
theorem hv_fit {σ : hy_S} {x y : Int32} {o : hy_S × Int32} (h : fX5_fit σ x y = some o) : o.1 = σ ∧ ((o.2 = 1 ∧ σ.1 20 x.toNatClampNeg = σ.1 20 y.toNatClampNeg ∧ (σ.1 21 x.toNatClampNeg = -1 ∨ σ.1 21 y.toNatClampNeg = -1 ∨ σ.1 21 x.toNatClampNeg = σ.1 21 y.toNatClampNeg)) ∨ (o.2 = 0 ∧ ¬ (σ.1 20 x.toNatClampNeg = σ.1 20 y.toNatClampNeg ∧ (σ.1 21 x.toNatClampNeg = -1 ∨ σ.1 21 y.toNatClampNeg = -1 ∨ σ.1 21 x.toNatClampNeg = σ.1 21 y.toNatClampNeg)))) := by
  have f40 : ∀ s : Int32, fX5_fit_40 σ s x y = some o → o.1 = σ ∧ ((o.2 = 1 ∧ σ.1 20 x.toNatClampNeg = σ.1 20 y.toNatClampNeg ∧ ¬ s = 0) ∨ (o.2 = 0 ∧ ¬ (σ.1 20 x.toNatClampNeg = σ.1 20 y.toNatClampNeg ∧ ¬ s = 0))) := by
    intro s h
    unfold fX5_fit_40 at h
    obtain ⟨_, v1, e1, h⟩ := hy_ga_some h
    obtain ⟨_, v4, e4, h⟩ := hy_ga_some h
    rw [← e1, ← e4]
    by_cases c : v1 = v4
    · rw [if_pos c] at h
      by_cases d : s = 0
      · rw [if_pos d] at h
        exact ⟨(hi_pr h).1, Or.inr ⟨(hi_pr h).2, fun z => z.2 d⟩⟩
      · rw [if_neg d] at h
        exact ⟨(hi_pr h).1, Or.inl ⟨(hi_pr h).2, c, d⟩⟩
    · rw [if_neg c] at h
      exact ⟨(hi_pr h).1, Or.inr ⟨(hi_pr h).2, fun z => c z.1⟩⟩
  have f35 : (σ.1 21 x.toNatClampNeg = -1 ∨ σ.1 21 y.toNatClampNeg = -1 ∨ σ.1 21 x.toNatClampNeg = σ.1 21 y.toNatClampNeg) → fX5_fit_35 σ x y = some o → o.1 = σ ∧ ((o.2 = 1 ∧ σ.1 20 x.toNatClampNeg = σ.1 20 y.toNatClampNeg ∧ (σ.1 21 x.toNatClampNeg = -1 ∨ σ.1 21 y.toNatClampNeg = -1 ∨ σ.1 21 x.toNatClampNeg = σ.1 21 y.toNatClampNeg)) ∨ (o.2 = 0 ∧ ¬ (σ.1 20 x.toNatClampNeg = σ.1 20 y.toNatClampNeg ∧ (σ.1 21 x.toNatClampNeg = -1 ∨ σ.1 21 y.toNatClampNeg = -1 ∨ σ.1 21 x.toNatClampNeg = σ.1 21 y.toNatClampNeg)))) := by
    intro z h
    unfold fX5_fit_35 at h
    obtain ⟨q1, q2⟩ := f40 1 h
    refine ⟨q1, ?_⟩
    rcases q2 with ⟨a, b, _⟩ | ⟨a, b⟩
    · exact Or.inl ⟨a, b, z⟩
    · exact Or.inr ⟨a, fun y => b ⟨y.1, by decide⟩⟩
  unfold fX5_fit at h
  obtain ⟨_, v1, e1, h⟩ := hy_ga_some h
  by_cases c1 : v1 = -1
  · rw [if_pos c1] at h
    exact f35 (Or.inl (by rw [← e1]; exact c1)) h
  · rw [if_neg c1] at h
    obtain ⟨_, v5, e5, h⟩ := hy_ga_some h
    by_cases c2 : v5 = -1
    · rw [if_pos c2] at h
      exact f35 (Or.inr (Or.inl (by rw [← e5]; exact c2))) h
    · rw [if_neg c2] at h
      obtain ⟨_, v9, e9, h⟩ := hy_ga_some h
      obtain ⟨_, v12, e12, h⟩ := hy_ga_some h
      by_cases c3 : v9 = v12
      · rw [if_pos c3] at h
        exact f35 (Or.inr (Or.inr (by rw [← e9, ← e12]; exact c3))) h
      · rw [if_neg c3] at h
        obtain ⟨q1, q2⟩ := f40 0 h
        refine ⟨q1, ?_⟩
        rcases q2 with ⟨_, _, b⟩ | ⟨a, _⟩
        · exact absurd rfl b
        · refine Or.inr ⟨a, fun y => ?_⟩
          rcases y.2 with z | z | z
          · exact c1 (by rw [e1]; exact z)
          · exact c2 (by rw [e5]; exact z)
          · exact c3 (by rw [e9, e12]; exact z)
noncomputable def hv_h (f : Nat → Int32) (i n : Nat) (p q : Int32) (k : Nat) : Int32 := if i ≤ k ∧ k < n ∧ f k = q then p else f k
theorem hv_hstep {f : Nat → Int32} {i n : Nat} {p q : Int32} (hi : i < n) (e : f i = q) : hv_h (upd f i p) (i + 1) n p q = hv_h f i n p q := by
  funext k
  unfold hv_h
  by_cases ek : k = i
  · subst ek
    rw [if_neg (fun z => absurd z.1 (by omega)), hs_upds, if_pos ⟨Nat.le_refl _, hi, e⟩]
  · rw [hs_upd ek]
    by_cases c : i ≤ k ∧ k < n ∧ f k = q
    · rw [if_pos c, if_pos ⟨by omega, c.2⟩]
    · rw [if_neg c, if_neg (fun z => c ⟨by omega, z.2⟩)]
theorem hv_hskip {f : Nat → Int32} {i n : Nat} {p q : Int32} (e : ¬ f i = q) : hv_h f (i + 1) n p q = hv_h f i n p q := by
  funext k
  unfold hv_h
  by_cases c : i ≤ k ∧ k < n ∧ f k = q
  · by_cases ek : k = i
    · rw [ek] at c
      exact absurd c.2.2 e
    · rw [if_pos c, if_pos ⟨by omega, c.2⟩]
  · rw [if_neg c, if_neg (fun z => c ⟨by omega, z.2⟩)]
theorem hv_hend {f : Nat → Int32} {i n : Nat} {p q : Int32} (h : n ≤ i) : hv_h f i n p q = f := by
  funext k
  unfold hv_h
  rw [if_neg (fun z => absurd z.2.1 (by omega))]
theorem hv_un {n : Nat} (n60 : n ≤ 60) {x3 x4 : Int32} : ∀ (u : Nat) (σ : hy_S) (x5 : Int32) (o : hy_S × Int32), (σ.2 7).toInt = (n : Int) → 0 ≤ x5.toInt → x5.toInt ≤ 60 → fX5_unite_55 u σ x3 x4 x5 = some o → o.2 = 1 ∧ o.1.1 18 = hv_h (σ.1 18) x5.toNatClampNeg n x3 x4 ∧ o.1.1 19 = upd (σ.1 19) x3.toNatClampNeg (σ.1 19 x3.toNatClampNeg + σ.1 19 x4.toNatClampNeg) ∧ o.1.1 20 = σ.1 20 ∧ o.1.1 21 = (if σ.1 21 x3.toNatClampNeg = -1 then upd (σ.1 21) x3.toNatClampNeg (σ.1 21 x4.toNatClampNeg) else σ.1 21) ∧ o.1.2 = σ.2 := by
  intro u
  induction u with
  | zero => intro σ x5 o hn h0 h1 h; cases h
  | succ u ih =>
    intro σ x5 o hn h0 h1 h
    have nx := hs_tn h0
    unfold fX5_unite_55 at h
    by_cases c : σ.2 7 ≤ x5
    · rw [if_pos c] at h
      have c1 : (σ.2 7).toInt ≤ x5.toInt := hi_le.mp c
      rw [hv_hend (by omega)]
      obtain ⟨_, v2, e2, h⟩ := hy_ga_some h
      obtain ⟨_, v5, e5, h⟩ := hy_ga_some h
      obtain ⟨_, σ8, e8, h⟩ := hy_pa_some h
      obtain ⟨_, v11, e11, h⟩ := hy_ga_some h
      have f11 : v11 = σ.1 21 x3.toNatClampNeg := by rw [e11, e8]; rfl
      by_cases d : v11 = -1
      · rw [if_pos d] at h
        rw [if_pos (by rw [← f11]; exact d)]
        obtain ⟨_, v15, e15, h⟩ := hy_ga_some h
        obtain ⟨_, σ18, e18, h⟩ := hy_pa_some h
        have f15 : v15 = σ.1 21 x4.toNatClampNeg := by rw [e15, e8]; rfl
        obtain ⟨s1, s2⟩ := hi_pr h
        rw [s1, e18, f15, e8, e2, e5]
        exact ⟨s2, rfl, rfl, rfl, rfl, rfl⟩
      · rw [if_neg d] at h
        rw [if_neg (by rw [← f11]; exact d)]
        obtain ⟨s1, s2⟩ := hi_pr h
        rw [s1, e8, e2, e5]
        exact ⟨s2, rfl, rfl, rfl, rfl, rfl⟩
    · rw [if_neg c] at h
      have c1 := hi_nle c
      obtain ⟨g1, g2⟩ := hj_p1 h0 (by omega)
      obtain ⟨_, v21, e21, h⟩ := hy_ga_some h
      by_cases d : v21 = x4
      · rw [if_pos d] at h
        obtain ⟨_, σ25, e25, h⟩ := hy_pa_some h
        unfold fX5_unite_84 at h
        rw [e25] at h
        have i := ih (hy_sc σ 18 (upd (σ.1 18) x5.toNatClampNeg x3)) (x5 + 1) o hn (by rw [g1]; omega) (by rw [g1]; omega) h
        have e : (hy_sc σ 18 (upd (σ.1 18) x5.toNatClampNeg x3)).1 18 = upd (σ.1 18) x5.toNatClampNeg x3 := rfl
        rw [e, g2, hv_hstep (by omega) (by rw [← e21]; exact d)] at i
        exact i
      · rw [if_neg d] at h
        unfold fX5_unite_84 at h
        have i := ih σ (x5 + 1) o hn (by rw [g1]; omega) (by rw [g1]; omega) h
        rw [g2, hv_hskip (by rw [← e21]; exact d)] at i
        exact i
theorem hv_jn {n : Nat} (n60 : n ≤ 60) {x3 x4 : Int32} : ∀ (u : Nat) (μ : hy_S) (x7 : Int32) (o : hy_S × Int32), (μ.2 9).toInt = (n : Int) → 0 ≤ x7.toInt → x7.toInt ≤ 60 → fX10_join_127 u μ x3 x4 x7 = some o → o = (hy_sc μ 22 (hv_h (μ.1 22) x7.toNatClampNeg n x3 x4), 1) := by
  intro u
  induction u with
  | zero => intro μ x7 o hn h0 h1 h; cases h
  | succ u ih =>
    intro μ x7 o hn h0 h1 h
    have nx := hs_tn h0
    unfold fX10_join_127 at h
    by_cases c : μ.2 9 ≤ x7
    · rw [if_pos c] at h
      have c1 : (μ.2 9).toInt ≤ x7.toInt := hi_le.mp c
      rw [hv_hend (by omega), ← Option.some.inj h]
      have e : hy_sc μ 22 (μ.1 22) = μ := by
        refine Prod.ext ?_ rfl
        funext k
        show (if k = 22 then μ.1 22 else μ.1 k) = μ.1 k
        by_cases ek : k = 22
        · rw [if_pos ek, ek]
        · rw [if_neg ek]
      rw [e]
    · rw [if_neg c] at h
      have c1 := hi_nle c
      obtain ⟨g1, g2⟩ := hj_p1 h0 (by omega)
      obtain ⟨_, v2, e2, h⟩ := hy_ga_some h
      by_cases d : v2 = x4
      · rw [if_pos d] at h
        obtain ⟨_, σ6, e6, h⟩ := hy_pa_some h
        unfold fX10_join_156 at h
        rw [e6] at h
        have i := ih (hy_sc μ 22 (upd (μ.1 22) x7.toNatClampNeg x3)) (x7 + 1) o hn (by rw [g1]; omega) (by rw [g1]; omega) h
        have e : (hy_sc μ 22 (upd (μ.1 22) x7.toNatClampNeg x3)).1 22 = upd (μ.1 22) x7.toNatClampNeg x3 := rfl
        rw [e, g2, hv_hstep (by omega) (by rw [← e2]; exact d)] at i
        rw [i]
        refine Prod.ext ?_ rfl
        refine Prod.ext ?_ rfl
        funext k
        show (if k = 22 then _ else (if k = 22 then _ else μ.1 k)) = (if k = 22 then _ else μ.1 k)
        by_cases ek : k = 22
        · rw [if_pos ek, if_pos ek]
        · rw [if_neg ek, if_neg ek, if_neg ek]
      · rw [if_neg d] at h
        unfold fX10_join_156 at h
        have i := ih μ (x7 + 1) o hn (by rw [g1]; omega) (by rw [g1]; omega) h
        rw [g2, hv_hskip (by rw [← e2]; exact d)] at i
        exact i
