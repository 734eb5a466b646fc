/-! The tape of the reference; feeding and ending on both sides. -/
theorem hn_ix4 : ∀ j : Nat, j < 20 → (hv_i j / 4).toNatClampNeg = j / 4 ∧ (24 - (8 * (hv_i j - hv_i j / 4 * 4))) = hn_s (j % 4) := by decide +kernel
theorem hn_fd {x1 x2 x3 x4 x5 : Int32} {s : Nat} (s380 : s ≤ 380) : ∀ (n : Nat) (μ : hy_S) (i : Nat) (o : hy_S × Int32), i ≤ 20 → (∀ k, k < 5 → μ.1 18 k = hn_five x1 x2 x3 x4 x5 k) → (μ.2 4).toInt = (s : Int) → fX10_feed_60 n μ (hv_i i) = some o → o.1.1 17 = hn_w (μ.1 17) s i 20 (hn_B x1 x2 x3 x4 x5) ∧ o.1.2 4 = μ.2 4 + 20 ∧ (∀ j, ¬ j = 17 → o.1.1 j = μ.1 j) ∧ (∀ j, ¬ j = 4 → o.1.2 j = μ.2 j) := by
  intro n
  induction n with
  | zero => intro μ i o h0 h1 h2 h; cases h
  | succ n ih =>
    intro μ i o h0 h1 h2 h
    unfold fX10_feed_60 at h
    have ii := hv_ii (r := i) (by omega)
    by_cases c : 20 ≤ hv_i i
    · rw [if_pos c] at h
      have c1 : (20 : Int) ≤ (hv_i i).toInt := hi_le.mp c
      have e : i = 20 := by omega
      obtain ⟨τ, e1, h⟩ := hy_pf_some h
      rw [(hi_pr h).1, e1, e, hn_w0]
      refine ⟨rfl, rfl, fun _ _ => rfl, fun j hj => ?_⟩
      show (if j = 4 then _ else μ.2 j) = μ.2 j
      rw [if_neg hj]
    · rw [if_neg c] at h
      have c1 : ¬ (20 : Int) ≤ (hv_i i).toInt := hi_nle c
      obtain ⟨k1, k2⟩ := hn_ix4 i (by omega)
      obtain ⟨_, v4, e4, h⟩ := hy_ga_some h
      rw [k1, h1 _ (by omega)] at e4
      obtain ⟨_, τ, e7, h⟩ := hy_pa_some h
      rw [k2, e4] at e7
      have gx : (μ.2 4 + hv_i i).toInt = (s : Int) + (i : Int) := by rw [hs_add (by omega) (by omega), h2, ii]
      have gn : (μ.2 4 + hv_i i).toNatClampNeg = s + i := by
        have := hs_tn (x := μ.2 4 + hv_i i) (by rw [gx]; omega)
        rw [gx] at this
        omega
      rw [gn] at e7
      have e1 : hv_i i + 1 = hv_i (i + 1) := Int32.toInt_inj.mp (by rw [hv_ii (by omega), (hj_p1 (i := hv_i i) (by omega) (by omega)).1, ii]; omega)
      rw [e1] at h
      obtain ⟨q1, q2, q3, q4⟩ := ih τ (i + 1) o (by omega) (by rw [e7]; exact h1) (by rw [e7]; exact h2) h
      refine ⟨?_, by rw [q2, e7]; rfl, fun j hj => ?_, fun j hj => by rw [q4 j hj, e7]; rfl⟩
      · rw [q1, e7]
        exact hn_w1 (by omega) rfl
      · rw [q3 j hj, e7]
        show (if j = 17 then _ else μ.1 j) = μ.1 j
        rw [if_neg hj]
noncomputable def hn_R (σ μ : hy_S) : Prop := σ.1 0 = μ.1 17 ∧ σ.2 2 = μ.2 4 ∧ σ.2 0 = μ.2 8
theorem hn_keep {σ μ τ ν : hy_S} (a : ∀ j ∈ ([0] : List Nat), τ.1 j = σ.1 j) (b : ∀ j ∈ ([0, 2] : List Nat), τ.2 j = σ.2 j) (c : ∀ j ∈ ([17] : List Nat), ν.1 j = μ.1 j) (d : ∀ j ∈ ([4, 8] : List Nat), ν.2 j = μ.2 j) (hR : hn_R σ μ) : hn_R τ ν := by
  unfold hn_R
  rw [a 0 (by decide), b 0 (by decide), b 2 (by decide), c 17 (by decide), d 4 (by decide), d 8 (by decide)]
  exact hR
theorem hn_feed {R : hy_S → Prop} {σ μ : hy_S} {x1 x2 x3 x4 x5 : Int32} {o o2 : hy_S × Int32} (hC : hc_I R σ) (hR : hn_R σ μ) (h1 : fX9_feed σ x1 x2 x3 x4 x5 = some o) (h2 : fX10_feed μ x1 x2 x3 x4 x5 = some o2) : hn_R o.1 o2.1 := by
  have i2 : (0 : Int) ≤ (σ.2 2).toInt ∧ (σ.2 2).toInt ≤ 400 := hC.2.1 2
  have ns := hs_tn i2.1
  unfold fX9_feed at h1
  obtain ⟨τ, v, e, h1⟩ := hy_bd_some h1
  rw [(hi_pr h1).1]
  unfold fX10_feed at h2
  obtain ⟨ν, eν, h2⟩ := hy_pf_some h2
  have b4 : ν.2 4 = σ.2 2 := by rw [eν, hR.2.1]; rfl
  have g : (σ.2 2 + 20).toInt = (σ.2 2).toInt + 20 := hs_addk 20 rfl (by omega) (by omega)
  rw [b4] at h2
  rcases hn_append (s := (σ.2 2).toNatClampNeg) (by omega) (by omega) e with ⟨p0, p1, p2, p3, p4⟩ | ⟨p0, p1⟩
  · have c : σ.2 2 + 20 ≤ 400 := hi_le.mpr (show (σ.2 2 + 20).toInt ≤ (400 : Int) by rw [g]; omega)
    rw [if_pos c] at h2
    obtain ⟨_, a1, e1, h2⟩ := hy_pa_some h2
    obtain ⟨_, a2, e2, h2⟩ := hy_pa_some h2
    obtain ⟨_, a3, e3, h2⟩ := hy_pa_some h2
    obtain ⟨_, a4, e4, h2⟩ := hy_pa_some h2
    obtain ⟨_, a5, e5, h2⟩ := hy_pa_some h2
    have f18 : ∀ k, k < 5 → a5.1 18 k = hn_five x1 x2 x3 x4 x5 k := by
      intro k hk
      rw [e5, e4, e3, e2, e1]
      rcases (show k = 0 ∨ k = 1 ∨ k = 2 ∨ k = 3 ∨ k = 4 by omega) with rfl | rfl | rfl | rfl | rfl <;> rfl
    have k4 : a5.2 = ν.2 := by rw [e5, e4, e3, e2, e1]; rfl
    have k17 : a5.1 17 = ν.1 17 := by rw [e5, e4, e3, e2, e1]; rfl
    obtain ⟨q1, q2, q3, q4⟩ := hn_fd (s := (σ.2 2).toNatClampNeg) (by omega) hy_fu a5 0 o2 (by omega) f18 (by rw [k4, b4]; omega) h2
    have p1 : τ.1 0 = _ := p1
    have p2 : (τ.2 2).toInt = _ := p2
    refine ⟨?_, ?_, ?_⟩
    · rw [p1, q1, k17, eν, hR.1]
      rfl
    · rw [q2, k4, b4]
      exact Int32.toInt_inj.mp (by rw [g]; omega)
    · rw [show τ.2 0 = σ.2 0 from p4 0 (by decide), q4 8 (by decide), k4, eν]
      exact hR.2.2
  · have c : ¬ σ.2 2 + 20 ≤ 400 := fun z => by
      have z : (σ.2 2 + 20).toInt ≤ (400 : Int) := hi_le.mp z
      rw [g] at z
      omega
    rw [if_neg c] at h2
    rw [show τ = σ from p1, (hi_pr h2).1, eν]
    exact ⟨hR.1, hR.2.1, hR.2.2⟩
theorem hn_end {σ μ : hy_S} {x1 : Int32} {o o2 : hy_S × Int32} (hR : hn_R σ μ) (h1 : fX9_end σ x1 = some o) (h2 : fX10_end μ x1 = some o2) : hn_R o.1 o2.1 := by
  unfold fX9_end at h1
  obtain ⟨τ, v, e, h1⟩ := hy_bd_some h1
  obtain ⟨_, h1⟩ := hy_ck_some h1
  rw [(hi_pr h1).1]
  unfold fX7_keepFirst at e
  unfold fX10_end at h2
  obtain ⟨ν, eν, h2⟩ := hy_pf_some h2
  have b4 : ν.2 4 = σ.2 2 := by rw [eν, hR.2.1]; rfl
  rw [b4] at h2
  have same : hn_R σ ν := by rw [eν]; exact ⟨hR.1, hR.2.1, hR.2.2⟩
  by_cases c : x1 < 0
  · rw [if_pos c] at e h2
    rw [show τ = σ from (hi_pr e).1, (hi_pr h2).1]
    exact same
  · rw [if_neg c] at e h2
    by_cases d : x1 ≤ σ.2 2
    · rw [if_pos d] at e h2
      obtain ⟨τ2, e2, e⟩ := hy_pf_some e
      obtain ⟨ν2, f2, h2⟩ := hy_pf_some h2
      rw [show τ = τ2 from (hi_pr e).1, (hi_pr h2).1, e2, f2, eν]
      exact ⟨hR.1, rfl, hR.2.2⟩
    · rw [if_neg d] at e h2
      rw [show τ = σ from (hi_pr e).1, (hi_pr h2).1]
      exact same
