/-! How many bits a number below 4096 has. -/
noncomputable def hq_bc (x : Int32) : Int32 := match fJ6_bitCount_0f7a4 (fun _ _ => 0, fun _ => 0) x with
  | some o => o.2
  | none => 0
set_option maxRecDepth 100000 in
theorem hq_pop0 : ∀ m, m < 512 → hq_bc (hv_i (0 + m)) = hv_i (hq_n (Nat.testBit (0 + m)) 12) := by decide +kernel
set_option maxRecDepth 100000 in
theorem hq_pop1 : ∀ m, m < 512 → hq_bc (hv_i (512 + m)) = hv_i (hq_n (Nat.testBit (512 + m)) 12) := by decide +kernel
set_option maxRecDepth 100000 in
theorem hq_pop2 : ∀ m, m < 512 → hq_bc (hv_i (1024 + m)) = hv_i (hq_n (Nat.testBit (1024 + m)) 12) := by decide +kernel
set_option maxRecDepth 100000 in
theorem hq_pop3 : ∀ m, m < 512 → hq_bc (hv_i (1536 + m)) = hv_i (hq_n (Nat.testBit (1536 + m)) 12) := by decide +kernel
set_option maxRecDepth 100000 in
theorem hq_pop4 : ∀ m, m < 512 → hq_bc (hv_i (2048 + m)) = hv_i (hq_n (Nat.testBit (2048 + m)) 12) := by decide +kernel
set_option maxRecDepth 100000 in
theorem hq_pop5 : ∀ m, m < 512 → hq_bc (hv_i (2560 + m)) = hv_i (hq_n (Nat.testBit (2560 + m)) 12) := by decide +kernel
set_option maxRecDepth 100000 in
theorem hq_pop6 : ∀ m, m < 512 → hq_bc (hv_i (3072 + m)) = hv_i (hq_n (Nat.testBit (3072 + m)) 12) := by decide +kernel
set_option maxRecDepth 100000 in
theorem hq_pop7 : ∀ m, m < 512 → hq_bc (hv_i (3584 + m)) = hv_i (hq_n (Nat.testBit (3584 + m)) 12) := by decide +kernel
theorem hq_pop {σ : hy_S} {m : Nat} (h : m < 4096) {o : hy_S × Int32} (e : fJ6_bitCount_0f7a4 σ (hv_i m) = some o) : o = (σ, hv_i (hq_n (Nat.testBit m) 12)) := by
  have q : hq_bc (hv_i m) = hv_i (hq_n (Nat.testBit m) 12) := by
    rcases (show m < 512 ∨ (512 ≤ m ∧ m < 1024) ∨ (1024 ≤ m ∧ m < 1536) ∨ (1536 ≤ m ∧ m < 2048) ∨ (2048 ≤ m ∧ m < 2560) ∨ (2560 ≤ m ∧ m < 3072) ∨ (3072 ≤ m ∧ m < 3584) ∨ 3584 ≤ m by omega) with c | c | c | c | c | c | c | c
    · have z := hq_pop0 (m - 0) (by omega)
      rw [show 0 + (m - 0) = m by omega] at z
      exact z
    · have z := hq_pop1 (m - 512) (by omega)
      rw [show 512 + (m - 512) = m by omega] at z
      exact z
    · have z := hq_pop2 (m - 1024) (by omega)
      rw [show 1024 + (m - 1024) = m by omega] at z
      exact z
    · have z := hq_pop3 (m - 1536) (by omega)
      rw [show 1536 + (m - 1536) = m by omega] at z
      exact z
    · have z := hq_pop4 (m - 2048) (by omega)
      rw [show 2048 + (m - 2048) = m by omega] at z
      exact z
    · have z := hq_pop5 (m - 2560) (by omega)
      rw [show 2560 + (m - 2560) = m by omega] at z
      exact z
    · have z := hq_pop6 (m - 3072) (by omega)
      rw [show 3072 + (m - 3072) = m by omega] at z
      exact z
    · have z := hq_pop7 (m - 3584) (by omega)
      rw [show 3584 + (m - 3584) = m by omega] at z
      exact z
  have r : fJ6_bitCount_0f7a4 σ (hv_i m) = some (σ, hq_bc (hv_i m)) := rfl
  rw [r, q] at e
  exact (Option.some.inj e).symm
