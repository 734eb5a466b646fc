theorem pu_78 {a : Int32} (h0 : ¬ a < 0) : a < 8 ↔ ¬ 7 < a := by
  obtain ⟨j, hj, rfl⟩ := nI_of h0
  show nI j < nI 8 ↔ ¬ nI 7 < nI j
  rw [nI_ltI hj (by decide), nI_ltI (by decide) hj]
  omega
/-- rate: what the class throws is what the reference notes, whatever the two states are -/
theorem pu_rate {σ μ : hy_S} {a b : Int32} {o : hy_S × Int32 × Nat} {o2 : hy_S × Int32} (h1 : fX9_rate σ a b = some o) (h2 : fX10_rate μ a b = some o2) : o2.1.2 0 = nI o.2.2 ∧ (o.2.2 = 0 ∨ o.2.2 = 1 ∨ o.2.2 = 2) := by
  rw [pu_rateC] at h1
  rw [pu_rateM] at h2
  by_cases c1 : a < 0
  · rw [if_pos (Or.inl c1)] at h1 h2
    cases h1; cases h2
    exact ⟨rfl, Or.inr (Or.inl rfl)⟩
  · by_cases c2 : a < 8
    · have c2' : ¬ 7 < a := (pu_78 c1).mp c2
      rw [if_neg (fun h => h.elim (fun h => c1 h) (fun h => h c2))] at h1
      rw [if_neg (fun h => h.elim (fun h => c1 h) (fun h => c2' h))] at h2
      by_cases c3 : b < 0
      · rw [if_pos (Or.inl c3)] at h1 h2
        cases h1; cases h2
        exact ⟨rfl, Or.inr (Or.inr rfl)⟩
      · by_cases c4 : b ≤ 1000
        · have c4' : ¬ 1000 < b := Int32.not_lt.mpr c4
          rw [if_neg (fun h => h.elim (fun h => c3 h) (fun h => h c4))] at h1
          rw [if_neg (fun h => h.elim (fun h => c3 h) (fun h => c4' h))] at h2
          cases h1; cases h2
          exact ⟨rfl, Or.inl rfl⟩
        · rw [if_pos (Or.inr c4)] at h1
          rw [if_pos (Or.inr (Int32.not_le.mp c4))] at h2
          cases h1; cases h2
          exact ⟨rfl, Or.inr (Or.inr rfl)⟩
    · rw [if_pos (Or.inr c2)] at h1
      have c2' : 7 < a := by
        by_cases h : 7 < a
        · exact h
        · exact absurd ((pu_78 c1).mpr h) c2
      rw [if_pos (Or.inr c2')] at h2
      cases h1; cases h2
      exact ⟨rfl, Or.inr (Or.inl rfl)⟩
