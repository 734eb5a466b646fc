/-! The pure part: no machine in it. First: indices, and what rate answers on either side. -/
theorem pu_ix {a : Int32} {n : Nat} (hn : n < 2 ^ 31) (h0 : ¬ a < 0) (h1 : a < nI n) : ¬ n ≤ a.toNatClampNeg := by
  obtain ⟨j, hj, rfl⟩ := nI_of h0
  rw [nI_clamp hj]
  have := (nI_ltI hj hn).mp h1
  omega
theorem pu_rateC (σ : hy_S) (a b : Int32) : fX9_rate σ a b = if a < 0 ∨ ¬ a < 8 then some (σ, 0, 1) else if b < 0 ∨ ¬ b ≤ 1000 then some (σ, 0, 2) else some (hy_sc σ 15 (upd (σ.1 15) a.toNatClampNeg b), 0, 0) := by
  unfold fX9_rate fX9_needIndex fX9_needNumber fX9_needIndex_9 fX9_needNumber_10
  by_cases c1 : a < 0
  · simp [c1, hy_bt]
  · by_cases c2 : a < 8
    · have hi := pu_ix (n := 8) (by decide) c1 c2
      by_cases c3 : b < 0
      · simp [c1, c2, c3, hy_bt]
      · by_cases c4 : b ≤ 1000
        · simp [c1, c2, c3, c4, hi, hy_bt, hy_pa]
        · simp [c1, c2, c3, c4, hy_bt]
    · simp [c1, c2, hy_bt]
