/-! Sets of places as numbers below 4096. -/
set_option maxRecDepth 100000 in
theorem hq_shl : ∀ n, n < 13 → (1 : Int32) <<< (hv_i n &&& 31) = hv_i (2 ^ n) ∧ 2 ^ n ≤ 4096 := by decide +kernel
theorem hq_tx {m i k : Nat} : Nat.testBit (m ^^^ 2 ^ i) k = (Nat.testBit m k ^^ decide (i = k)) := by
  rw [Nat.testBit_xor, Nat.testBit_two_pow]
/-- every set of places below n is a number below 2 ^ n -/
theorem hq_mk {P : Nat → Prop} : ∀ n, ∃ m, m < 2 ^ n ∧ ∀ i, i < n → (Nat.testBit m i = true ↔ P i) := by
  intro n
  induction n with
  | zero => exact ⟨0, by decide, fun i hi => absurd hi (Nat.not_lt_zero _)⟩
  | succ n ih =>
    obtain ⟨m, m1, m2⟩ := ih
    have p2 : 2 ^ (n + 1) = 2 ^ n + 2 ^ n := by rw [Nat.pow_succ]; omega
    have mn : Nat.testBit m n = false := Nat.testBit_lt_two_pow m1
    by_cases c : P n
    · refine ⟨2 ^ n + m, by omega, fun i hi => ?_⟩
      by_cases d : i = n
      · rw [d, Nat.testBit_two_pow_add_eq, mn]
        exact ⟨fun _ => c, fun _ => rfl⟩
      · rw [Nat.testBit_two_pow_add_gt (by omega)]
        exact m2 i (by omega)
    · refine ⟨m, by omega, fun i hi => ?_⟩
      by_cases d : i = n
      · rw [d, mn]
        exact ⟨fun z => absurd z (by decide), fun z => absurd z c⟩
      · exact m2 i (by omega)
