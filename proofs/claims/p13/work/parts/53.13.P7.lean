/-! One bit of a number. -/
theorem hq_s31 : ∀ i, i < 12 → ((hv_i i &&& 31).toBitVec.smod 32).toNat = i := by decide +kernel
theorem hq_bit1 {x : Int32} {i : Nat} (hi : i < 12) : ((x >>> (hv_i i &&& 31)) &&& 1) = 1 ↔ x.toBitVec.getLsbD i = true := by
  rw [← Int32.toBitVec_inj, Int32.toBitVec_and, Int32.toBitVec_shiftRight]
  show (x.toBitVec.sshiftRight ((hv_i i &&& 31).toBitVec.smod 32).toNat &&& 1#32) = 1#32 ↔ _
  rw [hq_s31 i hi, BitVec.and_one_eq_setWidth_ofBool_getLsbD, BitVec.getLsbD_sshiftRight]
  have h32 : i + 0 < 32 := by omega
  simp only [Nat.add_zero]
  rw [if_pos (show i < 32 by omega)]
  cases x.toBitVec.getLsbD i <;> decide
theorem hq_bit {i m : Nat} (hi : i < 12) (hm : m < 4096) : ((hv_i m >>> (hv_i i &&& 31)) &&& 1) = 1 ↔ Nat.testBit m i = true := by
  rw [hq_bit1 hi]
  have e : (hv_i m).toBitVec = BitVec.ofNat 32 m := rfl
  rw [e, BitVec.getLsbD_ofNat]
  have h32 : i < 32 := by omega
  simp only [h32, decide_true, Bool.true_and]
theorem hq_c31 : ∀ i, i < 12 → (((1 : Int32) <<< (hv_i i &&& 31)) ^^^ (-1)).toBitVec = ~~~ (BitVec.ofNat 32 (2 ^ i)) := by decide +kernel
theorem hq_tx' {m i k : Nat} : Nat.testBit (m ^^^ 2 ^ i) k = (Nat.testBit m k ^^ decide (i = k)) := by
  rw [Nat.testBit_xor, Nat.testBit_two_pow]
theorem hq_xlt {i m : Nat} (hb : Nat.testBit m i = true) : m ^^^ 2 ^ i < m := by
  have e : m &&& (m ^^^ 2 ^ i) = m ^^^ 2 ^ i := Nat.eq_of_testBit_eq (fun k => by
    rw [Nat.testBit_and, hq_tx']
    by_cases c : i = k
    · subst c
      simp [hb]
    · simp [c])
  have le : m &&& (m ^^^ 2 ^ i) ≤ m := Nat.and_le_left
  rw [e] at le
  have ne : ¬ m ^^^ 2 ^ i = m := fun z => by
    have y := hq_tx' (m := m) (i := i) (k := i)
    rw [z, hb] at y
    simp at y
  omega
theorem hq_clr {i m : Nat} (hi : i < 12) (hb : Nat.testBit m i = true) : hv_i m &&& (((1 : Int32) <<< (hv_i i &&& 31)) ^^^ (-1)) = hv_i (m ^^^ 2 ^ i) ∧ m ^^^ 2 ^ i < m := by
  constructor
  · rw [← Int32.toBitVec_inj, Int32.toBitVec_and, hq_c31 i hi]
    show BitVec.ofNat 32 m &&& ~~~ (BitVec.ofNat 32 (2 ^ i)) = BitVec.ofNat 32 (m ^^^ 2 ^ i)
    apply BitVec.eq_of_getLsbD_eq
    intro k hk
    rw [BitVec.getLsbD_and, BitVec.getLsbD_not, BitVec.getLsbD_ofNat, BitVec.getLsbD_ofNat, BitVec.getLsbD_ofNat, hq_tx', Nat.testBit_two_pow]
    by_cases c : i = k
    · subst c
      simp [hk, hb]
    · simp [hk, c]
  · exact hq_xlt hb
