/-! The reference: sums and the row of masks. -/
theorem hq_ii {r : Nat} (h : r < 9000) : (hv_i r).toInt = (r : Int) := Int32.toInt_ofNat_of_lt (by omega)
theorem hq_i1 {r : Nat} (h : r < 8000) : hv_i r + 1 = hv_i (r + 1) := Int32.toInt_inj.mp (by
  have e := hq_ii (r := r) (by omega)
  rw [hs_addk 1 (by decide) (by omega) (by omega), e, hq_ii (r := r + 1) (by omega)]
  omega)
noncomputable def hq_N (β σ : hy_S) : Prop := (∀ j, ¬ j = 12 → σ.1 j = β.1 j) ∧ σ.2 = β.2
noncomputable def hq_mw (β : hy_S) (x : Nat) : Int := (hj_W (β.1 0) (β.1 3) (β.1 6) x).toInt
noncomputable def hq_mb (β : hy_S) (x : Nat) : Int := (hj_B (β.1 2) (β.1 3) x).toInt
noncomputable def hq_mok (β : hy_S) : Prop := (∀ x, 0 ≤ hq_mw β x ∧ hq_mw β x ≤ 1000) ∧ ∀ x, 0 ≤ hq_mb β x ∧ hq_mb β x ≤ 5000
noncomputable def hq_pw (β : hy_S) (i : Nat) : Int := hq_mw β (hq_c (β.1 13) i)
noncomputable def hq_pb (β : hy_S) (i : Nat) : Int := hq_mb β (hq_c (β.1 13) i)
theorem hq_Sb {v : Nat → Int} {m : Nat} (hv : ∀ i, 0 ≤ v i ∧ v i ≤ 1000) : ∀ n, 0 ≤ hq_S v m n ∧ hq_S v m n ≤ 1000 * (n : Int) := by
  intro n
  induction n with
  | zero => exact ⟨Int.le_refl _, Int.le_refl _⟩
  | succ n ih =>
    have h := hv n
    have e : hq_S v m (n + 1) = hq_S v m n + hq_v v m n := rfl
    have g : hq_v v m n = v n ∨ hq_v v m n = 0 := by
      unfold hq_v
      by_cases c : Nat.testBit m n = true
      · rw [if_pos c]; exact Or.inl rfl
      · rw [if_neg c]; exact Or.inr rfl
    omega
theorem hq_t106 {β σ : hy_S} (ok : hq_mok β) {n m : Nat} (n12 : n ≤ 12) (m4 : m < 4096) (hF : hq_N β σ) {k92 : hy_S → Int32 → Int32 → Int32 → Option (hy_S × Int32)} {x3 : Int32} {o : hy_S × Int32} : ∀ (u j : Nat) (x5 : Int32), j ≤ n → x5.toInt = hq_S (hq_pw β) m j → fX10_tallest_106 k92 u σ (hv_i n) x3 (hv_i m) x5 (hv_i j) = some o → ∃ y5 τ, y5.toInt = hq_S (hq_pw β) m n ∧ hq_N β τ ∧ τ.1 12 = upd (σ.1 12) m 0 ∧ fX10_tallest_160 k92 hy_fu τ (hv_i n) x3 (hv_i m) y5 (hv_i 0) = some o := by
  intro u
  induction u with
  | zero => intro j x5 hj h5 h; cases h
  | succ u ih =>
    intro j x5 hj h5 h
    have ej := hv_ii (r := j) (by omega)
    have en := hv_ii (r := n) (by omega)
    have sb := hq_Sb (v := hq_pw β) (m := m) (fun i => ok.1 _) j
    unfold fX10_tallest_106 at h
    by_cases c : hv_i n ≤ hv_i j
    · rw [if_pos c] at h
      have c1 : (hv_i n).toInt ≤ (hv_i j).toInt := hi_le.mp c
      have e : j = n := by omega
      obtain ⟨_, τ, eτ, h⟩ := hy_pa_some h
      rw [hv_iN m4] at eτ
      refine ⟨x5, τ, by rw [← e]; exact h5, ⟨fun k hk => ?_, by rw [eτ]; exact hF.2⟩, by rw [eτ]; rfl, h⟩
      rw [eτ]
      show (if k = 12 then _ else σ.1 k) = β.1 k
      rw [if_neg hk]
      exact hF.1 k hk
    · rw [if_neg c] at h
      have c1 : ¬ (hv_i n).toInt ≤ (hv_i j).toInt := hi_nle c
      have es : hq_S (hq_pw β) m (j + 1) = hq_S (hq_pw β) m j + hq_v (hq_pw β) m j := rfl
      by_cases d : ((hv_i m >>> (hv_i j &&& 31)) &&& 1) = 1
      · rw [if_pos d] at h
        have db := (hq_bit (i := j) (by omega) m4).mp d
        obtain ⟨_, v6, e6, h⟩ := hy_ga_some h
        rw [hv_iN (by omega), hF.1 13 (by decide)] at e6
        obtain ⟨σ9, v10, e9, h⟩ := hy_bd_some h
        have e9 := hj_wm e9
        have s9 : σ9 = σ := congrArg Prod.fst e9
        have t10 : v10 = hj_W (σ.1 0) (σ.1 3) (σ.1 6) v6.toNatClampNeg := congrArg Prod.snd e9
        rw [hF.1 0 (by decide), hF.1 3 (by decide), hF.1 6 (by decide), e6] at t10
        have i10 : v10.toInt = hq_pw β j := by rw [t10]; rfl
        have ev : hq_v (hq_pw β) m j = hq_pw β j := by unfold hq_v; rw [if_pos db]
        have wj : 0 ≤ hq_pw β j ∧ hq_pw β j ≤ 1000 := ok.1 _
        rw [s9] at h
        unfold fX10_tallest_140 at h
        rw [hn_i1' (r := j) (by omega)] at h
        exact ih (j + 1) (x5 + v10) (by omega) (by rw [hs_add (by omega) (by omega)]; omega) h
      · rw [if_neg d] at h
        have db : ¬ Nat.testBit m j = true := fun z => d ((hq_bit (i := j) (by omega) m4).mpr z)
        have ev : hq_v (hq_pw β) m j = 0 := by unfold hq_v; rw [if_neg db]
        unfold fX10_tallest_140 at h
        rw [hn_i1' (r := j) (by omega), Int32.add_zero] at h
        exact ih (j + 1) x5 (by omega) (by omega) h
noncomputable def hq_1 (z : Int32) (p : Prop) : Prop := (z = 1 ∧ p) ∨ (z = 0 ∧ ¬ p)
theorem hq_1e {z : Int32} {p q : Prop} (h : hq_1 z p) (e : p ↔ q) : hq_1 z q := by
  rcases h with h | h
  · exact Or.inl ⟨h.1, e.mp h.2⟩
  · exact Or.inr ⟨h.1, fun y => h.2 (e.mpr y)⟩
noncomputable def hq_E (v b : Nat → Int) (n m j : Nat) : Prop := ∃ i, i < j ∧ Nat.testBit m i = true ∧ hq_T v b n (m ^^^ 2 ^ i) ∧ hq_S v m n - v i ≤ b i
theorem hq_E0 {v b : Nat → Int} {n m j : Nat} (h : ¬ (Nat.testBit m j = true ∧ hq_T v b n (m ^^^ 2 ^ j) ∧ hq_S v m n - v j ≤ b j)) : hq_E v b n m j ↔ hq_E v b n m (j + 1) := by
  constructor
  · intro ⟨i, i1, i2⟩
    exact ⟨i, by omega, i2⟩
  · intro ⟨i, i1, i2⟩
    by_cases c : i = j
    · rw [c] at i2
      exact absurd i2 h
    · exact ⟨i, by omega, i2⟩
theorem hq_ET {v b : Nat → Int} {n m : Nat} (m1 : 1 ≤ m) (m2 : m < 2 ^ n) : hq_E v b n m n ↔ hq_T v b n m := by
  rw [hq_Tr]
  constructor
  · intro z
    exact Or.inr z
  · intro z
    rcases z with z | z
    · have := hq_no m2 z
      omega
    · exact z
noncomputable def hq_mx (x y : Int32) : Int32 := if x < y then y else x
theorem hq_t160 {β : hy_S} (ok : hq_mok β) {n m : Nat} (n12 : n ≤ 12) (m1 : 1 ≤ m) (m2 : m < 2 ^ n) {k92 : hy_S → Int32 → Int32 → Int32 → Option (hy_S × Int32)} {x3 x5 : Int32} (h5 : x5.toInt = hq_S (hq_pw β) m n) {o : hy_S × Int32} : ∀ (u : Nat) (σ : hy_S) (j : Nat), hq_N β σ → j ≤ n → (∀ k, k < m → hq_1 (σ.1 12 k) (hq_T (hq_pw β) (hq_pb β) n k)) → hq_1 (σ.1 12 m) (hq_E (hq_pw β) (hq_pb β) n m j) → fX10_tallest_160 k92 u σ (hv_i n) x3 (hv_i m) x5 (hv_i j) = some o →
    ∃ τ y3, hq_N β τ ∧ (∀ k, k < m + 1 → hq_1 (τ.1 12 k) (hq_T (hq_pw β) (hq_pb β) n k)) ∧ ((hq_T (hq_pw β) (hq_pb β) n m ∧ y3 = hq_mx x3 (hv_i (hq_n (Nat.testBit m) 12))) ∨ (¬ hq_T (hq_pw β) (hq_pb β) n m ∧ y3 = x3)) ∧ k92 τ (hv_i n) y3 (hv_i (m + 1)) = some o := by
  have m4 : m < 4096 := Nat.lt_of_lt_of_le m2 (hq_shl n (by omega)).2
  intro u
  induction u with
  | zero => intro σ j hF hj h1 h2 h; cases h
  | succ u ih =>
    intro σ j hF hj h1 h2 h
    have ej := hv_ii (r := j) (by omega)
    have en := hv_ii (r := n) (by omega)
    unfold fX10_tallest_160 at h
    by_cases c : hv_i n ≤ hv_i j
    · rw [if_pos c] at h
      have c1 : (hv_i n).toInt ≤ (hv_i j).toInt := hi_le.mp c
      have e : j = n := by omega
      rw [e] at h2
      have h2 := hq_1e h2 (hq_ET m1 m2)
      have all : ∀ k, k < m + 1 → hq_1 (σ.1 12 k) (hq_T (hq_pw β) (hq_pb β) n k) := by
        intro k hk
        by_cases q : k = m
        · rw [q]
          exact h2
        · exact h1 k (by omega)
      obtain ⟨_, v2, e2, h⟩ := hy_ga_some h
      rw [hv_iN m4] at e2
      rcases h2 with ⟨z1, z2⟩ | ⟨z1, z2⟩
      · rw [if_neg (by rw [e2, z1]; decide)] at h
        obtain ⟨σ6, v7, e6, h⟩ := hy_bd_some h
        have e6 := hq_pop m4 e6
        have s6 : σ6 = σ := congrArg Prod.fst e6
        have t7 : v7 = hv_i (hq_n (Nat.testBit m) 12) := congrArg Prod.snd e6
        rw [s6, t7] at h
        unfold fX10_tallest_262 at h
        rw [hq_i1 (r := m) (by omega)] at h
        exact ⟨σ, _, hF, all, Or.inl ⟨z2, rfl⟩, h⟩
      · rw [if_pos (by rw [e2, z1])] at h
        unfold fX10_tallest_262 at h
        rw [hq_i1 (r := m) (by omega)] at h
        exact ⟨σ, _, hF, all, Or.inr ⟨z2, rfl⟩, h⟩
    · rw [if_neg c] at h
      have c1 : ¬ (hv_i n).toInt ≤ (hv_i j).toInt := hi_nle c
      have skip : ¬ (Nat.testBit m j = true ∧ hq_T (hq_pw β) (hq_pb β) n (m ^^^ 2 ^ j) ∧ hq_S (hq_pw β) m n - hq_pw β j ≤ hq_pb β j) → fX10_tallest_236 k92 (fX10_tallest_160 k92 u) σ (hv_i n) x3 (hv_i m) x5 (hv_i j) = some o → ∃ τ y3, hq_N β τ ∧ (∀ k, k < m + 1 → hq_1 (τ.1 12 k) (hq_T (hq_pw β) (hq_pb β) n k)) ∧ ((hq_T (hq_pw β) (hq_pb β) n m ∧ y3 = hq_mx x3 (hv_i (hq_n (Nat.testBit m) 12))) ∨ (¬ hq_T (hq_pw β) (hq_pb β) n m ∧ y3 = x3)) ∧ k92 τ (hv_i n) y3 (hv_i (m + 1)) = some o := by
        intro no h
        unfold fX10_tallest_236 at h
        rw [hn_i1' (r := j) (by omega)] at h
        exact ih σ (j + 1) hF (by omega) h1 (hq_1e h2 (hq_E0 no)) h
      by_cases d : ((hv_i m >>> (hv_i j &&& 31)) &&& 1) = 1
      · rw [if_pos d] at h
        have db := (hq_bit (i := j) (by omega) m4).mp d
        obtain ⟨cl, lt⟩ := hq_clr (i := j) (m := m) (by omega) db
        rw [cl] at h
        obtain ⟨_, v12, e12, h⟩ := hy_ga_some h
        rw [hv_iN (by omega)] at e12
        rcases h1 (m ^^^ 2 ^ j) lt with ⟨z1, z2⟩ | ⟨z1, z2⟩
        · rw [if_neg (by rw [e12, z1]; decide)] at h
          obtain ⟨_, v16, e16, h⟩ := hy_ga_some h
          rw [hv_iN (by omega), hF.1 13 (by decide)] at e16
          obtain ⟨σ19, v20, e19, h⟩ := hy_bd_some h
          have e19 := hj_wm e19
          have s19 : σ19 = σ := congrArg Prod.fst e19
          have t20 : v20 = hj_W (σ.1 0) (σ.1 3) (σ.1 6) v16.toNatClampNeg := congrArg Prod.snd e19
          rw [hF.1 0 (by decide), hF.1 3 (by decide), hF.1 6 (by decide), e16] at t20
          have i20 : v20.toInt = hq_pw β j := by rw [t20]; rfl
          rw [s19] at h
          obtain ⟨_, v22, e22, h⟩ := hy_ga_some h
          rw [hv_iN (by omega), hF.1 13 (by decide)] at e22
          obtain ⟨_, v25, e25, h⟩ := hy_ga_some h
          rw [hF.1 3 (by decide), e22] at e25
          obtain ⟨_, v28, e28, h⟩ := hy_ga_some h
          rw [hF.1 2 (by decide), e25] at e28
          have i28 : v28.toInt = hq_pb β j := by rw [e28]; rfl
          have sb := hq_Sb (v := hq_pw β) (m := m) (fun i => ok.1 _) n
          have wj : 0 ≤ hq_pw β j ∧ hq_pw β j ≤ 1000 := ok.1 _
          have i5 : (x5 - v20).toInt = hq_S (hq_pw β) m n - hq_pw β j := by rw [hs_sub (by omega) (by omega)]; omega
          by_cases f : v28 < x5 - v20
          · rw [if_pos f] at h
            have f1 : v28.toInt < (x5 - v20).toInt := Int32.lt_iff_toInt_lt.mp f
            exact skip (fun z => by have := z.2.2; omega) h
          · rw [if_neg f] at h
            have f1 : ¬ v28.toInt < (x5 - v20).toInt := hi_nlt f
            obtain ⟨_, τ, eτ, h⟩ := hy_pa_some h
            rw [hv_iN m4] at eτ
            unfold fX10_tallest_236 at h
            rw [hn_i1' (r := j) (by omega)] at h
            have k12 : τ.1 12 = upd (σ.1 12) m 1 := by rw [eτ]; rfl
            refine ih τ (j + 1) ⟨fun k hk => ?_, by rw [eτ]; exact hF.2⟩ (by omega) (fun k hk => ?_) ?_ h
            · rw [eτ]
              show (if k = 12 then _ else σ.1 k) = β.1 k
              rw [if_neg hk]
              exact hF.1 k hk
            · rw [k12, hs_upd (by omega)]
              exact h1 k hk
            · rw [k12, hs_upds]
              exact Or.inl ⟨rfl, j, by omega, db, z2, by omega⟩
        · rw [if_pos (by rw [e12, z1])] at h
          exact skip (fun z => z2 z.2.1) h
      · rw [if_neg d] at h
        exact skip (fun z => d ((hq_bit (i := j) (by omega) m4).mpr z.1)) h
theorem hq_mxi {a b : Nat} (ha : a < 9000) (hb : b < 9000) : hq_mx (hv_i a) (hv_i b) = hv_i (max a b) := by
  have ea := hq_ii ha
  have eb := hq_ii hb
  unfold hq_mx
  by_cases c : hv_i a < hv_i b
  · have c1 : (hv_i a).toInt < (hv_i b).toInt := Int32.lt_iff_toInt_lt.mp c
    rw [if_pos c, Nat.max_eq_right (by omega)]
  · have c1 : ¬ (hv_i a).toInt < (hv_i b).toInt := hi_nlt c
    rw [if_neg c, Nat.max_eq_left (by omega)]
theorem hq_t92 {β : hy_S} (ok : hq_mok β) {n : Nat} (n12 : n ≤ 12) : ∀ (u : Nat) (σ : hy_S) (m H : Nat) (o : hy_S × Int32), hq_N β σ → 1 ≤ m → m ≤ 2 ^ n → (∀ k, k < m → hq_1 (σ.1 12 k) (hq_T (hq_pw β) (hq_pb β) n k)) → (∃ k, k < m ∧ hq_T (hq_pw β) (hq_pb β) n k ∧ hq_n (Nat.testBit k) n = H) → (∀ k, k < m → hq_T (hq_pw β) (hq_pb β) n k → hq_n (Nat.testBit k) n ≤ H) → fX10_tallest_92 u σ (hv_i n) (hv_i H) (hv_i m) = some o →
    hq_N β o.1 ∧ ∃ G, o.2 = hv_i G ∧ (∃ k, k < 2 ^ n ∧ hq_T (hq_pw β) (hq_pb β) n k ∧ hq_n (Nat.testBit k) n = G) ∧ ∀ k, k < 2 ^ n → hq_T (hq_pw β) (hq_pb β) n k → hq_n (Nat.testBit k) n ≤ G := by
  obtain ⟨sh, le⟩ := hq_shl n (by omega)
  intro u
  induction u with
  | zero => intro σ m H o hF m1 m2 h1 h2 h3 h; cases h
  | succ u ih =>
    intro σ m H o hF m1 m2 h1 h2 h3 h
    unfold fX10_tallest_92 at h
    rw [sh] at h
    have em := hq_ii (r := m) (by omega)
    have e2 := hq_ii (r := 2 ^ n) (by omega)
    by_cases c : hv_i (2 ^ n) ≤ hv_i m
    · rw [if_pos c] at h
      have c1 : (hv_i (2 ^ n)).toInt ≤ (hv_i m).toInt := hi_le.mp c
      have e : m = 2 ^ n := by omega
      obtain ⟨q1, q2⟩ := hi_pr h
      rw [q1, q2, ← e]
      exact ⟨hF, H, rfl, h2, h3⟩
    · rw [if_neg c] at h
      have c1 : ¬ (hv_i (2 ^ n)).toInt ≤ (hv_i m).toInt := hi_nle c
      have lt : m < 2 ^ n := by omega
      obtain ⟨y5, τ, t1, t2, t3, h⟩ := hq_t106 ok n12 (m := m) (by omega) hF hy_fu 0 0 (Nat.zero_le _) rfl h
      obtain ⟨ρ, y3, r1, r2, r3, h⟩ := hq_t160 ok n12 m1 lt t1 hy_fu τ 0 t2 (Nat.zero_le _) (fun k hk => by rw [t3, hs_upd (by omega)]; exact h1 k hk) (by
        rw [t3, hs_upds]
        exact Or.inr ⟨rfl, fun ⟨i, i1, _⟩ => absurd i1 (Nat.not_lt_zero _)⟩) h
      have e12 : hq_n (Nat.testBit m) 12 = hq_n (Nat.testBit m) n := by
        have := hq_n12 lt (12 - n)
        rw [show n + (12 - n) = 12 by omega] at this
        exact this
      obtain ⟨k0, a1, a2, a3⟩ := h2
      have nj := hq_nj (e := Nat.testBit m) n
      have nk := hq_nj (e := Nat.testBit k0) n
      rw [e12] at r3
      rcases r3 with ⟨b1, b2⟩ | ⟨b1, b2⟩
      · rw [hq_mxi (by omega) (by omega)] at b2
        rw [b2] at h
        refine ih ρ (m + 1) _ o r1 (by omega) (by omega) r2 ?_ (fun k hk ht => ?_) h
        · by_cases d : H ≤ hq_n (Nat.testBit m) n
          · exact ⟨m, by omega, b1, (Nat.max_eq_right d).symm⟩
          · exact ⟨k0, by omega, a2, by rw [Nat.max_eq_left (by omega)]; exact a3⟩
        · by_cases d : k = m
          · rw [d]
            exact Nat.le_max_right _ _
          · exact Nat.le_trans (h3 k (by omega) ht) (Nat.le_max_left _ _)
      · rw [b2] at h
        refine ih ρ (m + 1) H o r1 (by omega) (by omega) r2 ⟨k0, by omega, a2, a3⟩ (fun k hk ht => ?_) h
        by_cases d : k = m
        · rw [d] at ht
          exact absurd ht b1
        · exact h3 k (by omega) ht
theorem hq_T0 {v b : Nat → Int} {n : Nat} : hq_T v b n 0 := hq_Tr.mpr (Or.inl (fun x _ z => by rw [Nat.zero_testBit] at z; exact absurd z (by decide)))
theorem hq_n00 : ∀ n, hq_n (Nat.testBit 0) n = 0 := by
  intro n
  induction n with
  | zero => rfl
  | succ n ih => rw [hq_n0 (by rw [Nat.zero_testBit]; decide), ih]
/-- the reference's answer: the greatest height of a stack of its picked row that stands -/
theorem hq_t80 {β : hy_S} (ok : hq_mok β) {n : Nat} (n12 : n ≤ 12) {o : hy_S × Int32} (h : fX10_tallest_80 β (hv_i n) = some o) : o.1.2 = β.2 ∧ ∃ G, o.2 = hv_i G ∧ hq_L (hq_pw β) (hq_pb β) (fun x => x < n) G ∧ ∀ k, hq_L (hq_pw β) (hq_pb β) (fun x => x < n) k → k ≤ G := by
  unfold fX10_tallest_80 at h
  obtain ⟨_, τ, eτ, h⟩ := hy_pa_some h
  have k12 : τ.1 12 = upd (β.1 12) 0 1 := by rw [eτ]; rfl
  have p1 : 1 ≤ 2 ^ n := Nat.one_le_two_pow
  obtain ⟨q0, G, q1, q2, q3⟩ := hq_t92 ok n12 hy_fu τ 1 0 o ⟨fun k hk => by
      rw [eτ]
      show (if k = 12 then _ else β.1 k) = β.1 k
      rw [if_neg hk], by rw [eτ]; rfl⟩ (Nat.le_refl _) p1 (fun k hk => by
      rw [show k = 0 by omega, k12, hs_upds]
      exact Or.inl ⟨rfl, hq_T0⟩) ⟨0, by omega, hq_T0, hq_n00 n⟩ (fun k hk _ => by
      rw [show k = 0 by omega, hq_n00 n]
      exact Nat.le_refl _) h
  refine ⟨q0.2, G, q1, hq_TL.mp q2, fun k hk => ?_⟩
  obtain ⟨m, m1, m2, m3⟩ := hq_TL.mpr hk
  rw [← m3]
  exact q3 m m1 m2
