/-! Checking a note: the tape is used up, the first wrong byte is kept. -/
theorem hn_sp {σ : hy_S} {lo hi : Int32} : ∀ (n : Nat) (x : Int32) (o : hy_S × Int32), fX7_past_3 n σ lo hi x = some o → o.1 = σ := by
  intro n
  induction n with
  | zero => intro x o h; cases h
  | succ n ih =>
    intro x o h
    unfold fX7_past_3 fX7_past_40 at h
    by_cases c : σ.2 2 ≤ x
    · rw [if_pos c] at h
      exact (hi_pr h).1
    · rw [if_neg c] at h
      obtain ⟨_, v2, _, h⟩ := hy_ga_some h
      by_cases d : v2 < lo
      · rw [if_pos d] at h
        exact (hi_pr h).1
      · rw [if_neg d] at h
        obtain ⟨_, v6, _, h⟩ := hy_ga_some h
        by_cases f : hi < v6
        · rw [if_pos f] at h
          exact (hi_pr h).1
        · rw [if_neg f] at h
          exact ih _ o h
theorem hn_sd {σ : hy_S} {b : Int32} : ∀ (n : Nat) (y x : Int32) (o : hy_S × Int32), fX7_digitsFrom_5 n σ b y x = some o → o.1 = σ := by
  intro n
  induction n with
  | zero => intro y x o h; cases h
  | succ n ih =>
    intro y x o h
    unfold fX7_digitsFrom_5 at h
    by_cases c : b ≤ x
    · rw [if_pos c] at h
      exact (hi_pr h).1
    · rw [if_neg c] at h
      obtain ⟨_, v2, _, h⟩ := hy_ga_some h
      exact ih _ _ o h
theorem hn_sr {σ : hy_S} {a b w : Int32} : ∀ (n : Nat) (x : Int32) (o : hy_S × Int32), fX7_reads_15 n σ a b w x = some o → o.1 = σ := by
  intro n
  induction n with
  | zero => intro x o h; cases h
  | succ n ih =>
    intro x o h
    unfold fX7_reads_15 at h
    by_cases c : b ≤ x
    · rw [if_pos c] at h
      exact (hi_pr h).1
    · rw [if_neg c] at h
      obtain ⟨_, v2, _, h⟩ := hy_ga_some h
      obtain ⟨_, h⟩ := hy_ck_some h
      by_cases d : v2 = hy_chr w.toNatClampNeg (x - a)
      · rw [if_pos d] at h
        exact ih _ o h
      · rw [if_neg d] at h
        exact (hi_pr h).1
theorem hn_sw {σ : hy_S} {x : Int32} {o : hy_S × Int32} (h : fX3_wordOf σ x = some o) : o.1 = σ := by
  unfold fX3_wordOf at h
  by_cases c0 : x = 0
  · rw [if_pos c0] at h
    exact (hi_pr h).1
  · rw [if_neg c0] at h
    by_cases c1 : x = 1
    · rw [if_pos c1] at h
      exact (hi_pr h).1
    · rw [if_neg c1] at h
      by_cases c2 : x = 2
      · rw [if_pos c2] at h
        exact (hi_pr h).1
      · rw [if_neg c2] at h
        by_cases c3 : x = 3
        · rw [if_pos c3] at h
          exact (hi_pr h).1
        · rw [if_neg c3] at h
          exact (hi_pr h).1
theorem hn_se {σ : hy_S} {x : Int32} {o : hy_S × Int32} (h : fX7_endsAt σ x = some o) : o.1 = σ := by
  unfold fX7_endsAt at h
  by_cases c0 : x < σ.2 2
  · rw [if_pos c0] at h
    exact (hi_pr h).1
  · rw [if_neg c0] at h
    exact (hi_pr h).1
theorem hn_sf : ∀ (n : Nat) (σ : hy_S) (x2 x3 : Int32) (o : hy_S × Int32), fX3_readFrom_4 n σ x2 x3 = some o → (∀ j, ¬ j = 1 → o.1.1 j = σ.1 j) ∧ o.1.2 = σ.2 := by
  intro n
  induction n with
  | zero => intro σ x2 x3 o h; cases h
  | succ n ih =>
    intro σ x2 x3 o h
    have fin : ∀ {v : Int32}, some (σ, v) = some o → (∀ j, ¬ j = 1 → o.1.1 j = σ.1 j) ∧ o.1.2 = σ.2 := by
      intro v z
      rw [(hi_pr z).1]
      exact ⟨fun _ _ => rfl, rfl⟩
    unfold fX3_readFrom_4 fX3_readFrom_82 at h
    by_cases c : 5 ≤ x3
    · rw [if_pos c] at h
      obtain ⟨σ2, v3, e2, h⟩ := hy_bd_some h
      rw [show σ2 = σ from hn_sp _ _ _ e2] at h
      obtain ⟨σ5, v6, e5, h⟩ := hy_bd_some h
      rw [show σ5 = σ from hn_se e5] at h
      by_cases d : v6 = 0
      · rw [if_pos d] at h
        exact fin h
      · rw [if_neg d] at h
        exact fin h
    · rw [if_neg c] at h
      obtain ⟨σ9, v10, e9, h⟩ := hy_bd_some h
      rw [show σ9 = σ from hn_sp _ _ _ e9] at h
      obtain ⟨σ12, v13, e12, h⟩ := hy_bd_some h
      rw [show σ12 = σ from hn_sp _ _ _ e12] at h
      obtain ⟨σ15, v16, e15, h⟩ := hy_bd_some h
      rw [show σ15 = σ from hn_sw e15] at h
      obtain ⟨σ18, v19, e18, h⟩ := hy_bd_some h
      have e18' : σ18 = σ := by
        unfold fX7_reads at e18
        obtain ⟨_, e18⟩ := hy_ck_some e18
        by_cases d : v13 - v10 = hy_len v16.toNatClampNeg
        · rw [if_pos d] at e18
          exact hn_sr _ _ _ e18
        · rw [if_neg d] at e18
          exact (hi_pr e18).1
      rw [e18'] at h
      by_cases d : v19 = 0
      · rw [if_pos d] at h
        exact fin h
      · rw [if_neg d] at h
        obtain ⟨σ22, v23, e22, h⟩ := hy_bd_some h
        rw [show σ22 = σ from hn_sp _ _ _ e22] at h
        obtain ⟨σ25, v26, e25, h⟩ := hy_bd_some h
        rw [show σ25 = σ from hn_sp _ _ _ e25] at h
        by_cases f : v26 = v23
        · rw [if_pos f] at h
          exact fin h
        · rw [if_neg f] at h
          by_cases g : v26 - v23 ≤ 5
          · rw [if_pos g] at h
            obtain ⟨σ30, v31, e30, h⟩ := hy_bd_some h
            rw [show σ30 = σ from hn_sd _ _ _ _ e30] at h
            obtain ⟨_, σ33, e33, h⟩ := hy_pa_some h
            obtain ⟨q1, q2⟩ := ih σ33 _ _ o h
            refine ⟨fun j j1 => ?_, ?_⟩
            · rw [q1 j j1, e33]
              show (if j = 1 then _ else σ.1 j) = σ.1 j
              rw [if_neg j1]
            · rw [q2, e33]
              rfl
          · rw [if_neg g] at h
            exact fin h
theorem hn_f1 {σ : hy_S} {x1 : Int32} {o : hy_S × Int32} (h : fX9_falsehoodAt σ x1 = some o) : o.1 = σ := by
  unfold fX9_falsehoodAt at h
  obtain ⟨_, v1, _, h⟩ := hy_ga_some h
  by_cases c : σ.2 4 ≤ v1
  · rw [if_pos c] at h
    exact (hi_pr h).1
  · rw [if_neg c] at h
    obtain ⟨_, v5, _, h⟩ := hy_ga_some h
    by_cases c5 : v5 = 1
    · rw [if_pos c5] at h
      obtain ⟨_, v9, _, h⟩ := hy_ga_some h
      obtain ⟨_, v12, _, h⟩ := hy_ga_some h
      by_cases c9 : v9 = v12
      · rw [if_pos c9] at h
        obtain ⟨_, v16, _, h⟩ := hy_ga_some h
        obtain ⟨_, v19, _, h⟩ := hy_ga_some h
        by_cases c16 : v16 = v19
        · rw [if_pos c16] at h
          obtain ⟨_, v23, _, h⟩ := hy_ga_some h
          obtain ⟨_, v26, _, h⟩ := hy_ga_some h
          by_cases c23 : v23 = v26
          · rw [if_pos c23] at h
            obtain ⟨_, v30, _, h⟩ := hy_ga_some h
            obtain ⟨_, v33, _, h⟩ := hy_ga_some h
            obtain ⟨σ36, v37, e, h⟩ := hy_bd_some h
            unfold fX4_due at e
            obtain ⟨_, w, _, e⟩ := hy_ga_some e
            have e1 : σ36 = σ := (hi_pr e).1
            rw [e1] at h
            by_cases c30 : v30 = v37
            · rw [if_pos c30] at h
              exact (hi_pr h).1
            · rw [if_neg c30] at h
              exact (hi_pr h).1
          · rw [if_neg c23] at h
            exact (hi_pr h).1
        · rw [if_neg c16] at h
          exact (hi_pr h).1
      · rw [if_neg c9] at h
        exact (hi_pr h).1
    · rw [if_neg c5] at h
      exact (hi_pr h).1
theorem hn_f2 {μ : hy_S} {x1 : Int32} {o : hy_S × Int32} (hb : 0 ≤ (μ.2 2).toInt) (h : fX10_isFalse μ x1 = some o) : o.1 = μ := by
  unfold fX10_isFalse at h
  obtain ⟨_, v1, _, h⟩ := hy_ga_some h
  rcases hi_nj hb h with ⟨_, _, h⟩ | ⟨_, h⟩
  · rw [if_pos rfl] at h
    obtain ⟨_, v5, _, h⟩ := hy_ga_some h
    by_cases c5 : v5 = 1
    · rw [if_pos c5] at h
      obtain ⟨_, v9, _, h⟩ := hy_ga_some h
      obtain ⟨_, v12, _, h⟩ := hy_ga_some h
      by_cases c9 : v9 = v12
      · rw [if_pos c9] at h
        obtain ⟨_, v16, _, h⟩ := hy_ga_some h
        obtain ⟨_, v19, _, h⟩ := hy_ga_some h
        by_cases c16 : v16 = v19
        · rw [if_pos c16] at h
          obtain ⟨_, v23, _, h⟩ := hy_ga_some h
          obtain ⟨_, v26, _, h⟩ := hy_ga_some h
          by_cases c23 : v23 = v26
          · rw [if_pos c23] at h
            obtain ⟨_, v30, _, h⟩ := hy_ga_some h
            obtain ⟨_, v33, _, h⟩ := hy_ga_some h
            obtain ⟨_, v39, _, h⟩ := hy_ga_some h
            by_cases c30 : v30 = (v33 * v39 + 9) / 10
            · rw [if_pos c30] at h
              exact (hi_pr h).1
            · rw [if_neg c30] at h
              exact (hi_pr h).1
          · rw [if_neg c23] at h
            exact (hi_pr h).1
        · rw [if_neg c16] at h
          exact (hi_pr h).1
      · rw [if_neg c9] at h
        exact (hi_pr h).1
    · rw [if_neg c5] at h
      exact (hi_pr h).1
  · rw [if_neg (by decide)] at h
    exact (hi_pr h).1
/-- how a check ends on both sides -/
theorem hn_ck {R S : hy_S → Prop} {σ μ : hy_S} {x1 : Int32} {o : hy_O} {o2 : hy_S × Int32} (hC : hc_I R σ) (hM : hm_I S μ) (hR : hn_R σ μ) (h1 : fX9_check σ x1 = some o) (h2 : fX10_check μ x1 = some o2) :
    hn_R o.1 o2.1 ∧
    (((x1.toInt < 0 ∨ 8 ≤ x1.toInt) ∧ o.2.2 = 1 ∧ o2.1.2 0 = 1 ∧ (∀ j, ¬ j = 1 → o.1.1 j = σ.1 j) ∧ (∀ j, ¬ j = 19 → o2.1.1 j = μ.1 j)) ∨
     (0 ≤ x1.toInt ∧ x1.toInt < 8 ∧ o.2.2 = 2 ∧ o2.1.2 0 = 2 ∧ (∀ j, ¬ j = 1 → o.1.1 j = σ.1 j) ∧ (∀ j, ¬ j = 19 → o2.1.1 j = μ.1 j)) ∨
     (0 ≤ x1.toInt ∧ x1.toInt < 8 ∧ o.2.2 = 0 ∧ o2.1.2 0 = 0 ∧ ∃ (τ ν : hy_S) (f g : Int32), (∀ j, ¬ j = 1 → τ.1 j = σ.1 j) ∧ (∀ j, ¬ j = 0 → ¬ j = 2 → τ.2 j = σ.2 j) ∧ (∀ j, ¬ j = 19 → ν.1 j = μ.1 j) ∧ (∀ j, ¬ j = 0 → ¬ j = 4 → ¬ j = 5 → ¬ j = 6 → ¬ j = 7 → ¬ j = 8 → ν.2 j = μ.2 j) ∧ (∀ k, k < 5 → τ.1 1 k = ν.1 19 k) ∧ fX9_falsehoodAt τ x1 = some (τ, f) ∧ fX10_isFalse ν x1 = some (ν, g) ∧ o.2.1 = f ∧ o2.2 = g ∧ (∀ j, ¬ j = 16 → ¬ j = 17 → o.1.1 j = τ.1 j) ∧ (∀ j, ¬ j = 15 → ¬ j = 16 → o2.1.1 j = ν.1 j) ∧ o.1.1 16 = upd (τ.1 16) x1.toNatClampNeg (τ.1 16 x1.toNatClampNeg + 1) ∧ o.1.1 17 = (if f = 0 then τ.1 17 else upd (τ.1 17) x1.toNatClampNeg (τ.1 17 x1.toNatClampNeg + 1)) ∧ o2.1.1 15 = upd (ν.1 15) x1.toNatClampNeg (ν.1 15 x1.toNatClampNeg + 1) ∧ o2.1.1 16 = upd (ν.1 16) x1.toNatClampNeg (ν.1 16 x1.toNatClampNeg + (if g ≤ 0 then 0 else 1)))) := by
  have i2 : (0 : Int) ≤ (σ.2 2).toInt ∧ (σ.2 2).toInt ≤ 400 := hC.2.1 2
  have m2 : (0 : Int) ≤ (μ.2 2).toInt ∧ (μ.2 2).toInt ≤ 60 := hM.2.1 2
  have ns := hs_tn i2.1
  unfold fX9_check at h1
  unfold fX10_check at h2
  obtain ⟨ν1, e1, h2⟩ := hy_pf_some h2
  obtain ⟨ν2, e2, h2⟩ := hy_pf_some h2
  obtain ⟨ν3, e3, h2⟩ := hy_pf_some h2
  have k1 : ν3.1 = μ.1 := by rw [e3, e2, e1]; rfl
  have k6 : ν3.2 6 = μ.2 4 := by rw [e3, e2, e1]; rfl
  have k4 : ν3.2 4 = 0 := by rw [e3]; rfl
  have k0 : ν3.2 0 = 0 := by rw [e3, e2, e1]; rfl
  have kf : ∀ j, ¬ j = 0 → ¬ j = 4 → ¬ j = 6 → ν3.2 j = μ.2 j := by
    intro j j1 j2 j3
    rw [e3, e2, e1]
    show (if j = 4 then _ else (if j = 6 then _ else (if j = 0 then _ else μ.2 j))) = μ.2 j
    rw [if_neg j2, if_neg j3, if_neg j1]
  obtain ⟨σ1, v2, f1, h1⟩ := hy_bd_some h1
  obtain ⟨σ4, v5, f4, h1⟩ := hy_bd_some h1
  unfold fX7_clear at f4
  obtain ⟨σ4', f4', f4⟩ := hy_pf_some f4
  have g4 : σ4 = hy_si σ1 2 0 := by rw [show σ4 = σ4' from (hi_pr f4).1, f4']
  unfold fX3_readFrom at f1
  rcases hi_in h2 with ⟨c1, c2, h2⟩ | ⟨c1, h2⟩
  · have c1 : (0 : Int) ≤ x1.toInt := c1
    have c2 : x1.toInt ≤ (7 : Int) := c2
    rw [if_neg (by decide)] at h2
    unfold fX10_check_34 at h2
    have h2 := hi_t0 h2
    rw [if_pos rfl] at h2
    rcases hi_ix h1 with ⟨a1, a2, h1⟩ | ⟨a1, h1⟩
    · have a2 : x1.toInt < (8 : Int) := a2
      obtain ⟨σ5, v6, f5, h2⟩ := hy_bd_some h2
      unfold fX10_readNote at f5
      obtain ⟨ν4, e4, f5⟩ := hy_pf_some f5
      have Q := hn_rd (L := (σ.2 2).toNatClampNeg) (by omega) hy_fu σ ν4 0 0 (σ1, v2) (σ5, v6) (by rw [e4]; show σ.1 0 = ν3.1 17; rw [k1]; exact hR.1) (by omega) (by rw [e4]; show (ν3.2 6).toInt = _; rw [k6, ← hR.2.1]; omega) (by rw [e4]; rfl) (Nat.zero_le _) (by omega) (fun k hk => absurd hk (Nat.not_lt_zero _)) f1 f5
      obtain ⟨Q1, Q2, Q3, Q4, Q5⟩ := Q
      have Q2 : ∀ j, ¬ j = 1 → σ1.1 j = σ.1 j := Q2
      have Q3 : σ1.2 = σ.2 := Q3
      have Q4 : ∀ j, ¬ j = 19 → σ5.1 j = μ.1 j := fun j j1 => by
        rw [show σ5.1 j = ν4.1 j from Q4 j j1, e4]
        show ν3.1 j = μ.1 j
        rw [k1]
      have Q5 : ∀ j, ¬ j = 5 → ¬ j = 7 → σ5.2 j = ν3.2 j := fun j j1 j2 => by
        rw [show σ5.2 j = ν4.2 j from Q5 j j1 j2, e4]
        show (if j = 5 then _ else ν3.2 j) = ν3.2 j
        rw [if_neg j1]
      obtain ⟨σ11, f11, h1⟩ := hy_pf_some h1
      rcases Q1 with ⟨y1, y2, y3⟩ | ⟨y1, y2, y3⟩
      · have y1 : v6 = 1 := y1
        have y2 : v2 = -1 := y2
        have y3 : ∀ k, k < 5 → σ1.1 1 k = σ5.1 19 k := y3
        rw [if_pos y2] at h1
        rw [y1] at h2
        rw [if_neg (by decide)] at h2
        unfold fX10_check_61 at h2
        obtain ⟨ν8, e8, h2⟩ := hy_pf_some h2
        rw [if_neg (by decide)] at h2
        unfold fX10_check_74 at h2
        have h2 := hi_t0 h2
        rw [if_pos rfl] at h2
        obtain ⟨τ14, f, g14, h1⟩ := hy_bd_some h1
        have w14 : τ14 = σ11 := hn_f1 g14
        obtain ⟨ν9, g, g9, h2⟩ := hy_bd_some h2
        have b2 : ν8.2 2 = μ.2 2 := by
          rw [e8]
          show σ5.2 2 = _
          rw [Q5 2 (by decide) (by decide)]
          exact kf 2 (by decide) (by decide) (by decide)
        have w9 : ν9 = ν8 := hn_f2 (by rw [b2]; exact m2.1) g9
        rw [w14] at g14 h1
        rw [w9] at g9 h2
        -- the class's count
        have A : o.2.1 = f ∧ o.2.2 = 0 ∧ o.1.2 = σ11.2 ∧ (∀ j, ¬ j = 16 → ¬ j = 17 → o.1.1 j = σ11.1 j) ∧ o.1.1 16 = upd (σ11.1 16) x1.toNatClampNeg (σ11.1 16 x1.toNatClampNeg + 1) ∧ o.1.1 17 = (if f = 0 then σ11.1 17 else upd (σ11.1 17) x1.toNatClampNeg (σ11.1 17 x1.toNatClampNeg + 1)) := by
          by_cases d : f = 0
          · rw [if_pos d] at h1 ⊢
            unfold fX9_check_65 at h1
            obtain ⟨τ15, z, g15, h1⟩ := hy_bd_some h1
            unfold fX4_countNote at g15
            obtain ⟨_, u1, ue1, g15⟩ := hy_ga_some g15
            obtain ⟨_, τ16, ue2, g15⟩ := hy_pa_some g15
            rw [if_pos rfl] at g15
            rw [← Option.some.inj h1, show τ15 = τ16 from (hi_pr g15).1, ue2, ue1]
            refine ⟨rfl, rfl, rfl, fun j j1 _ => ?_, rfl, rfl⟩
            show (if j = 16 then _ else σ11.1 j) = σ11.1 j
            rw [if_neg j1]
          · rw [if_neg d] at h1 ⊢
            unfold fX9_check_65 at h1
            obtain ⟨τ15, z, g15, h1⟩ := hy_bd_some h1
            unfold fX4_countNote at g15
            obtain ⟨_, u1, ue1, g15⟩ := hy_ga_some g15
            obtain ⟨_, τ16, ue2, g15⟩ := hy_pa_some g15
            rw [if_neg (by decide)] at g15
            obtain ⟨_, u8, ue8, g15⟩ := hy_ga_some g15
            obtain ⟨_, τ17, ue9, g15⟩ := hy_pa_some g15
            rw [← Option.some.inj h1, show τ15 = τ17 from (hi_pr g15).1, ue9, ue8, ue2, ue1]
            refine ⟨rfl, rfl, rfl, fun j j1 j2 => ?_, rfl, rfl⟩
            show (if j = 17 then _ else (if j = 16 then _ else σ11.1 j)) = σ11.1 j
            rw [if_neg j2, if_neg j1]
        have B : o2.2 = g ∧ o2.1.2 = ν8.2 ∧ (∀ j, ¬ j = 15 → ¬ j = 16 → o2.1.1 j = ν8.1 j) ∧ o2.1.1 15 = upd (ν8.1 15) x1.toNatClampNeg (ν8.1 15 x1.toNatClampNeg + 1) ∧ o2.1.1 16 = upd (ν8.1 16) x1.toNatClampNeg (ν8.1 16 x1.toNatClampNeg + (if g ≤ 0 then 0 else 1)) := by
          obtain ⟨_, u8, ue8, h2⟩ := hy_ga_some h2
          obtain ⟨_, ν11, ue11, h2⟩ := hy_pa_some h2
          obtain ⟨_, u14, ue14, h2⟩ := hy_ga_some h2
          have q14 : u14 = ν8.1 16 x1.toNatClampNeg := by rw [ue14, ue11]; rfl
          by_cases d : g ≤ 0
          · rw [if_pos d] at h2 ⊢
            unfold fX10_check_115 at h2
            obtain ⟨_, ν12, ue12, h2⟩ := hy_pa_some h2
            rw [← Option.some.inj h2, ue12, q14, ue11, ue8]
            refine ⟨rfl, rfl, fun j j1 j2 => ?_, rfl, rfl⟩
            show (if j = 16 then _ else (if j = 15 then _ else ν8.1 j)) = ν8.1 j
            rw [if_neg j2, if_neg j1]
          · rw [if_neg d] at h2 ⊢
            unfold fX10_check_115 at h2
            obtain ⟨_, ν12, ue12, h2⟩ := hy_pa_some h2
            rw [← Option.some.inj h2, ue12, q14, ue11, ue8]
            refine ⟨rfl, rfl, fun j j1 j2 => ?_, rfl, rfl⟩
            show (if j = 16 then _ else (if j = 15 then _ else ν8.1 j)) = ν8.1 j
            rw [if_neg j2, if_neg j1]
        obtain ⟨A1, A2, A3, A4, A5, A6⟩ := A
        obtain ⟨B1, B3, B4, B5, B6⟩ := B
        have s11 : ∀ j, ¬ j = 1 → σ11.1 j = σ.1 j := fun j j1 => by
          rw [f11, g4]
          exact Q2 j j1
        have s11i : ∀ j, ¬ j = 0 → ¬ j = 2 → σ11.2 j = σ.2 j := fun j j1 j2 => by
          rw [f11, g4, ← Q3]
          show (if j = 0 then _ else (if j = 2 then _ else σ1.2 j)) = σ1.2 j
          rw [if_neg j1, if_neg j2]
        have n8 : ∀ j, ¬ j = 19 → ν8.1 j = μ.1 j := fun j j1 => by
          rw [e8]
          exact Q4 j j1
        have n8i : ∀ j, ¬ j = 8 → ¬ j = 5 → ¬ j = 7 → ν8.2 j = ν3.2 j := fun j j1 j2 j3 => by
          rw [e8]
          show (if j = 8 then _ else σ5.2 j) = ν3.2 j
          rw [if_neg j1]
          exact Q5 j j2 j3
        refine ⟨⟨?_, ?_, ?_⟩, Or.inr (Or.inr ⟨a1, a2, A2, ?_, σ11, ν8, f, g, s11, s11i, n8, ?_, ?_, g14, g9, A1, B1, A4, B4, A5, A6, B5, B6⟩)⟩
        · rw [A4 0 (by decide) (by decide), s11 0 (by decide), B4 17 (by decide) (by decide), n8 17 (by decide)]
          exact hR.1
        · rw [A3, B3, f11, g4, n8i 4 (by decide) (by decide) (by decide), k4]
          rfl
        · rw [A3, B3, f11, e8, y2]
          rfl
        · rw [B3, n8i 0 (by decide) (by decide) (by decide)]
          exact k0
        · intro j j1 j2 j3 j4 j5 j6
          rw [n8i j j6 j3 j5]
          exact kf j j1 j2 j4
        · intro k k5
          rw [f11, g4, e8]
          exact y3 k k5
      · have y1 : v6 = 0 := y1
        have y2 : v2 = σ5.2 7 := y2
        have y3 : 0 ≤ v2.toInt := y3
        have yn : ¬ v2 = -1 := fun z => by
          have : v2.toInt = -1 := by rw [z]; rfl
          omega
        rw [if_neg yn] at h1
        rw [y1] at h2
        rw [if_pos rfl] at h2
        unfold fX10_check_61 at h2
        obtain ⟨ν8, e8, h2⟩ := hy_pf_some h2
        rw [if_pos rfl] at h2
        unfold fX10_check_74 at h2
        have h2 := hi_t1 h2
        rw [if_neg (by decide)] at h2
        rw [← Option.some.inj h1, ← Option.some.inj h2, f11, g4, e8]
        refine ⟨⟨?_, ?_, ?_⟩, Or.inr (Or.inl ⟨a1, a2, rfl, rfl, Q2, Q4⟩)⟩
        · show σ1.1 0 = σ5.1 17
          rw [Q2 0 (by decide), Q4 17 (by decide)]
          exact hR.1
        · show (0 : Int32) = σ5.2 4
          rw [Q5 4 (by decide) (by decide), k4]
        · exact y2
    · exfalso
      have a1 : x1.toInt < (0 : Int) ∨ (8 : Int) ≤ x1.toInt := a1
      omega
  · have c1 : x1.toInt < (0 : Int) ∨ (7 : Int) < x1.toInt := c1
    rw [if_pos rfl] at h2
    unfold fX10_check_34 at h2
    have h2 := hi_t1 h2
    rw [if_neg (by decide)] at h2
    rcases hi_ix h1 with ⟨a1, a2, h1⟩ | ⟨a1, h1⟩
    · exfalso
      have a2 : x1.toInt < (8 : Int) := a2
      omega
    · obtain ⟨r1, r2⟩ := hn_sf hy_fu σ 0 0 _ f1
      have r1 : ∀ j, ¬ j = 1 → σ1.1 j = σ.1 j := r1
      have r2 : σ1.2 = σ.2 := r2
      rw [h1, ← Option.some.inj h2, g4]
      refine ⟨⟨?_, ?_, ?_⟩, Or.inl ⟨by omega, rfl, rfl, r1, fun j _ => ?_⟩⟩
      · show σ1.1 0 = ν3.1 17
        rw [r1 0 (by decide), k1]
        exact hR.1
      · show (0 : Int32) = ν3.2 4
        rw [k4]
      · show σ1.2 0 = ν3.2 8
        rw [r2, kf 8 (by decide) (by decide) (by decide)]
        exact hR.2.2
      · show ν3.1 j = μ.1 j
        rw [k1]
theorem hn_fault {σ μ : hy_S} {o o2 : hy_S × Int32} (hR : hn_R σ μ) (h1 : fX9_fault σ = some o) (h2 : fX10_fault μ = some o2) : o2.2 = o.2 := by
  unfold fX9_fault at h1
  unfold fX10_fault at h2
  obtain ⟨ν, eν, h2⟩ := hy_pf_some h2
  rw [← Option.some.inj h1, ← Option.some.inj h2, eν]
  exact hR.2.2.symm
