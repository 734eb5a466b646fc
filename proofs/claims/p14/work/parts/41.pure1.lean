theorem pu_ix2 {a : Int32} {n : Nat} (hn : n < 2 ^ 31) (h0 : ¬ a < 0) (h1 : ¬ nI n < a) : ¬ n + 1 ≤ a.toNatClampNeg := by
  obtain ⟨j, hj, rfl⟩ := nI_of h0
  rw [nI_clamp hj]
  rw [nI_ltI hn hj] at h1
  omega
theorem pu_rateM (μ : hy_S) (a b : Int32) : fX10_rate μ a b = if a < 0 ∨ 7 < a then some (hy_si (hy_si μ 0 0) 0 1, 0) else if b < 0 ∨ 1000 < b then some (hy_si (hy_si μ 0 0) 0 2, 0) else some (hy_sc (hy_si μ 0 0) 14 (upd ((hy_si μ 0 0).1 14) a.toNatClampNeg b), 0) := by
  unfold fX10_rate fX10_rate_21 fX10_rate_45 fX10_in fX10_throwsIf fX10_throwsIf_9
  by_cases c1 : a < 0
  · simp [c1, hy_bd, hy_pf, hy_ck]
  · by_cases c2 : 7 < a
    · simp [c1, c2, hy_bd, hy_pf, hy_ck]
    · have hi := pu_ix2 (n := 7) (by decide) c1 c2
      by_cases c3 : b < 0
      · simp [c1, c2, c3, hy_bd, hy_pf, hy_ck]
      · by_cases c4 : 1000 < b
        · simp [c1, c2, c3, c4, hy_bd, hy_pf, hy_ck]
        · simp [c1, c2, c3, c4, hi, hy_bd, hy_pf, hy_ck, hy_pa]
