/-! What a kind and a jar may weigh, bear and hold. -/
noncomputable def hq_bd (hi : Int) (f : Nat → Int32) : Prop := ∀ k, 0 ≤ (f k).toInt ∧ (f k).toInt ≤ hi
noncomputable def hq_B (σ : hy_S) : Prop := hq_bd 100 (σ.1 2) ∧ hq_bd 200 (σ.1 3) ∧ hq_bd 5000 (σ.1 4) ∧ hq_bd 200 (σ.1 8)
theorem hq_bu {hi : Int} {f : Nat → Int32} {k : Nat} {v : Int32} (h : hq_bd hi f) (v0 : 0 ≤ v.toInt) (v1 : v.toInt ≤ hi) : hq_bd hi (upd f k v) := by
  intro q
  by_cases c : q = k
  · rw [c, hs_upds]
    exact ⟨v0, v1⟩
  · rw [hs_upd c]
    exact h q
theorem hq_Bkeep {σ μ τ ν : hy_S} (a : ∀ j ∈ ([2, 3, 4, 8] : List Nat), τ.1 j = σ.1 j) (_b : ∀ j ∈ ([] : List Nat), τ.2 j = σ.2 j) (_c : ∀ j ∈ ([] : List Nat), ν.1 j = μ.1 j) (_d : ∀ j ∈ ([] : List Nat), ν.2 j = μ.2 j) (hR : hq_B σ) : hq_B τ := by
  unfold hq_B
  rw [a 2 (by decide), a 3 (by decide), a 4 (by decide), a 8 (by decide)]
  exact hR
theorem hq_Bstart {σ : hy_S} (a : ∀ j, ¬ j = 15 → ∀ k, σ.1 j k = 0) : hq_B σ := by
  have z : ∀ (hi : Int) (j : Nat), 0 ≤ hi → ¬ j = 15 → hq_bd hi (σ.1 j) := fun hi j h0 hj k => by
    rw [a j hj k]
    exact ⟨by decide, h0⟩
  exact ⟨z _ _ (by decide) (by decide), z _ _ (by decide) (by decide), z _ _ (by decide) (by decide), z _ _ (by decide) (by decide)⟩
theorem hq_Bkind {σ : hy_S} {x1 x2 x3 : Int32} {o : hy_O} (hB : hq_B σ) (h1 : fX9_kind σ x1 x2 x3 = some o) : hq_B o.1 := by
  unfold fX9_kind at h1
  rcases hi_nm h1 with ⟨a1, a2, h1⟩ | ⟨_, h1⟩
  · have a1 : (1 : Int) ≤ x1.toInt := a1
    have a2 : x1.toInt ≤ (100 : Int) := a2
    rcases hi_nm h1 with ⟨a3, a4, h1⟩ | ⟨_, h1⟩
    · have a3 : (1 : Int) ≤ x2.toInt := a3
      have a4 : x2.toInt ≤ (200 : Int) := a4
      rcases hi_nm h1 with ⟨a5, a6, h1⟩ | ⟨_, h1⟩
      · have a5 : (0 : Int) ≤ x3.toInt := a5
        have a6 : x3.toInt ≤ (5000 : Int) := a6
        rcases hi_pl h1 with ⟨_, h1⟩ | ⟨_, h1⟩
        · obtain ⟨τ, v, e, h1⟩ := hy_bd_some h1
          unfold fX2_add at e
          obtain ⟨_, τ1, e1, e⟩ := hy_pa_some e
          obtain ⟨_, τ2, e2, e⟩ := hy_pa_some e
          obtain ⟨_, τ3, e3, e⟩ := hy_pa_some e
          obtain ⟨τ4, e4, e⟩ := hy_pf_some e
          rw [(hi_pr h1).1, show τ = τ4 from (hi_pr e).1]
          obtain ⟨b1, b2, b3, b4⟩ := hB
          refine ⟨?_, ?_, ?_, ?_⟩
          · rw [show τ4.1 2 = upd (σ.1 2) (σ.2 3).toNatClampNeg x1 by rw [e4, e3, e2, e1]; rfl]
            exact hq_bu b1 (by omega) a2
          · rw [show τ4.1 3 = upd (σ.1 3) (σ.2 3).toNatClampNeg x2 by rw [e4, e3, e2, e1]; rfl]
            exact hq_bu b2 (by omega) a4
          · rw [show τ4.1 4 = upd (σ.1 4) (σ.2 3).toNatClampNeg x3 by rw [e4, e3, e2, e1]; rfl]
            exact hq_bu b3 a5 a6
          · rw [show τ4.1 8 = σ.1 8 by rw [e4, e3, e2, e1]; rfl]
            exact b4
        · rw [h1]; exact hB
      · rw [h1]; exact hB
    · rw [h1]; exact hB
  · rw [h1]; exact hB
theorem hq_Bfire {σ : hy_S} {x1 x2 x3 : Int32} {o : hy_O} (hB : hq_B σ) (h1 : fX9_fire σ x1 x2 x3 = some o) : hq_B o.1 := by
  unfold fX9_fire at h1
  rcases hi_ix h1 with ⟨_, _, h1⟩ | ⟨_, h1⟩
  · rcases hi_nm h1 with ⟨_, _, h1⟩ | ⟨_, h1⟩
    · rcases hi_nm h1 with ⟨_, _, h1⟩ | ⟨_, h1⟩
      · rcases hi_pl h1 with ⟨_, h1⟩ | ⟨_, h1⟩
        · obtain ⟨τ, v, e, h1⟩ := hy_bd_some h1
          unfold fX1_add at e
          obtain ⟨_, τ1, e1, e⟩ := hy_pa_some e
          obtain ⟨_, τ2, e2, e⟩ := hy_pa_some e
          obtain ⟨_, τ3, e3, e⟩ := hy_pa_some e
          obtain ⟨_, τ4, e4, e⟩ := hy_pa_some e
          obtain ⟨_, τ5, e5, e⟩ := hy_pa_some e
          obtain ⟨_, τ6, e6, e⟩ := hy_pa_some e
          obtain ⟨τ7, e7, e⟩ := hy_pf_some e
          rw [(hi_pr h1).1, show τ = τ7 from (hi_pr e).1]
          obtain ⟨b1, b2, b3, b4⟩ := hB
          refine ⟨?_, ?_, ?_, ?_⟩
          · rw [show τ7.1 2 = σ.1 2 by rw [e7, e6, e5, e4, e3, e2, e1]; rfl]
            exact b1
          · rw [show τ7.1 3 = σ.1 3 by rw [e7, e6, e5, e4, e3, e2, e1]; rfl]
            exact b2
          · rw [show τ7.1 4 = σ.1 4 by rw [e7, e6, e5, e4, e3, e2, e1]; rfl]
            exact b3
          · rw [show τ7.1 8 = upd (σ.1 8) (σ.2 4).toNatClampNeg 0 by rw [e7, e6, e5, e4, e3, e2, e1]; rfl]
            exact hq_bu b4 (by decide) (by decide)
        · rw [h1]; exact hB
      · rw [h1]; exact hB
    · rw [h1]; exact hB
  · rw [h1]; exact hB
theorem hq_Bfill {σ : hy_S} {x1 x2 : Int32} {o : hy_O} (hB : hq_B σ) (h1 : fX9_fill σ x1 x2 = some o) : hq_B o.1 := by
  unfold fX9_fill at h1
  rcases hi_ix h1 with ⟨_, _, h1⟩ | ⟨_, h1⟩
  · rcases hi_nm h1 with ⟨a1, a2, h1⟩ | ⟨_, h1⟩
    · have a1 : (1 : Int) ≤ x2.toInt := a1
      have a2 : x2.toInt ≤ (200 : Int) := a2
      obtain ⟨τ, v, e, h1⟩ := hy_bd_some h1
      rw [(hi_pr h1).1]
      unfold fX1_pour at e
      obtain ⟨_, v1, _, e⟩ := hy_ga_some e
      by_cases c : v1 = 0
      · rw [if_pos c] at e
        obtain ⟨_, v5, e5, e⟩ := hy_ga_some e
        obtain ⟨_, v8, e8, e⟩ := hy_ga_some e
        obtain ⟨_, v11, e11, e⟩ := hy_ga_some e
        obtain ⟨b1, b2, b3, b4⟩ := hB
        have q5 := b4 x1.toNatClampNeg
        rw [← e5] at q5
        have q11 := b2 v8.toNatClampNeg
        rw [← e11] at q11
        have su : (v5 + x2).toInt = v5.toInt + x2.toInt := hs_add (by omega) (by omega)
        by_cases d : v5 + x2 ≤ v11
        · rw [if_pos d] at e
          have d1 : (v5 + x2).toInt ≤ v11.toInt := hi_le.mp d
          obtain ⟨_, v15, e15, e⟩ := hy_ga_some e
          obtain ⟨_, τ1, e1, e⟩ := hy_pa_some e
          obtain ⟨_, v21, _, e⟩ := hy_ga_some e
          have ev : v15 = v5 := by rw [e15, e5]
          rw [ev] at e1
          rw [show τ = τ1 from (hi_pr e).1]
          refine ⟨?_, ?_, ?_, ?_⟩
          · rw [show τ1.1 2 = σ.1 2 by rw [e1]; rfl]
            exact b1
          · rw [show τ1.1 3 = σ.1 3 by rw [e1]; rfl]
            exact b2
          · rw [show τ1.1 4 = σ.1 4 by rw [e1]; rfl]
            exact b3
          · rw [show τ1.1 8 = upd (σ.1 8) x1.toNatClampNeg (v5 + x2) by rw [e1]; rfl]
            exact hq_bu b4 (by omega) (by omega)
        · rw [if_neg d] at e
          rw [show τ = σ from (hi_pr e).1]
          exact ⟨b1, b2, b3, b4⟩
      · rw [if_neg c] at e
        rw [show τ = σ from (hi_pr e).1]
        exact hB
    · rw [h1]; exact hB
  · rw [h1]; exact hB
theorem hq_Bok {σ : hy_S} (hB : hq_B σ) : hq_ok σ := by
  obtain ⟨b1, b2, b3, b4⟩ := hB
  refine ⟨fun x => ?_, fun x => b3 _⟩
  have h1 := b1 (σ.1 5 x).toNatClampNeg
  have h4 := b4 x
  have e : hq_w σ x = (σ.1 2 (σ.1 5 x).toNatClampNeg).toInt + (σ.1 8 x).toInt := hs_add (by omega) (by omega)
  omega
