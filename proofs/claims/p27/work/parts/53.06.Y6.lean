/-! The reference's matrices: steps, walks of just so many steps, rings. -/
noncomputable abbrev hg_V : Int := -100000000
theorem hg_ix {a b : Nat} (ha : a < 13) (hb : b < 13) : (13 * hv_i a + hv_i b).toNatClampNeg = 13 * a + b := by
  have ea := hv_ii (r := a) (by omega)
  have eb := hv_ii (r := b) (by omega)
  have f2 : (13 * hv_i a).toInt = 13 * (a : Int) := by rw [hs_mull 13 rfl (by omega) (by omega), ea]
  have f3 : (13 * hv_i a + hv_i b).toInt = 13 * (a : Int) + (b : Int) := by rw [hs_add (by omega) (by omega), f2, eb]
  have k := hs_tn (x := 13 * hv_i a + hv_i b) (by omega)
  omega
theorem hg_ij {a b c d : Nat} (hb : b < 13) (hd : d < 13) (h : 13 * a + b = 13 * c + d) : a = c ∧ b = d := by omega
noncomputable def hg_G (j q : Nat) (μ τ : hy_S) : Prop := (∀ k, ¬ k = j → ¬ k = q → τ.1 k = μ.1 k) ∧ τ.2 = μ.2
theorem hg_G0 {j q : Nat} {μ : hy_S} : hg_G j q μ μ := ⟨fun _ _ _ => rfl, rfl⟩
theorem hg_Gt {j q : Nat} {α β γ : hy_S} (h1 : hg_G j q α β) (h2 : hg_G j q β γ) : hg_G j q α γ := ⟨fun k k1 k2 => (h2.1 k k1 k2).trans (h1.1 k k1 k2), h2.2.trans h1.2⟩
theorem hg_Gl {j q : Nat} {μ : hy_S} {f : Nat → Int32} : hg_G j q μ (hy_sc μ j f) := ⟨fun k k1 _ => by show (if k = j then f else μ.1 k) = μ.1 k; rw [if_neg k1], rfl⟩
theorem hg_Gr {j q : Nat} {μ : hy_S} {f : Nat → Int32} : hg_G j q μ (hy_sc μ q f) := ⟨fun k _ k1 => by show (if k = q then f else μ.1 k) = μ.1 k; rw [if_neg k1], rfl⟩
/-- the arrays that tellings live in, as the reference has them, are good -/
noncomputable def hg_T (μ : hy_S) (n : Nat) : Prop := n ≤ 60 ∧ (μ.2 10).toInt = (n : Int) ∧ (∀ i, i < n → (∃ a, a < 13 ∧ μ.1 23 i = hv_i a) ∧ (∃ b, b < 13 ∧ μ.1 24 i = hv_i b) ∧ ¬ μ.1 23 i = μ.1 24 i ∧ -1000 ≤ (μ.1 25 i).toInt ∧ (μ.1 25 i).toInt ≤ 1000) ∧ ∀ k, μ.1 27 k = -1 ∨ 0 ≤ (μ.1 27 k).toInt
noncomputable abbrev hg_EM (μ : hy_S) (n : Nat) (d : Int) : Nat → Nat → Int → Prop := hg_E (μ.1 23) (μ.1 24) (μ.1 25) (μ.1 26) (μ.1 27) n d
theorem hg_s25 {n : Nat} {x1 : Int32} : ∀ (u : Nat) (μ : hy_S) (j : Nat) (o : hy_S × Int32), hg_T μ n → j ≤ n → (∀ a b, a < 13 → b < 13 → hg_X hg_V (μ.1 28 (13 * a + b)).toInt (hg_EM μ j x1.toInt a b)) → fX10_steps_25 u μ x1 (hv_i j) = some o → hg_G 28 28 μ o.1 ∧ ∀ a b, a < 13 → b < 13 → hg_X hg_V (o.1.1 28 (13 * a + b)).toInt (hg_EM μ n x1.toInt a b) := by
  intro u
  induction u with
  | zero => intro μ j o hT hj hX h; cases h
  | succ u ih =>
    intro μ j o hT hj hX h
    have V : hg_V = -100000000 := rfl
    obtain ⟨n60, hn, hA, hB⟩ := id hT
    have ej := hv_ii (r := j) (by omega)
    have nj := hv_iN (r := j) (by omega)
    unfold fX10_steps_25 at h
    by_cases c : μ.2 10 ≤ hv_i j
    · rw [if_pos c] at h
      have c1 : (μ.2 10).toInt ≤ (hv_i j).toInt := hi_le.mp c
      have e : j = n := by omega
      rw [(hi_pr h).1, ← e]
      exact ⟨hg_G0, hX⟩
    · rw [if_neg c] at h
      have c1 := hi_nle c
      have jn : j < n := by omega
      obtain ⟨⟨a, a13, ea⟩, ⟨b, b13, eb⟩, _, y0, y1⟩ := hA j jn
      have skip : ¬ hg_k (μ.1 26) (μ.1 27) x1.toInt j → fX10_steps_103 (fX10_steps_25 u) μ x1 (hv_i j) = some o → hg_G 28 28 μ o.1 ∧ ∀ a b, a < 13 → b < 13 → hg_X hg_V (o.1.1 28 (13 * a + b)).toInt (hg_EM μ n x1.toInt a b) := by
        intro z h
        unfold fX10_steps_103 at h
        rw [hn_i1' (by omega)] at h
        refine ih μ (j + 1) o hT (by omega) (fun p q hp hq => hg_Xeq (hX p q hp hq) (fun x => ⟨fun ⟨i, i1, i2⟩ => ⟨i, by omega, i2⟩, fun ⟨i, i1, i2, i3⟩ => ?_⟩)) h
        by_cases ei : i = j
        · rw [ei] at i2
          exact absurd i2 z
        · exact ⟨i, by omega, i2, i3⟩
      have go : hg_k (μ.1 26) (μ.1 27) x1.toInt j → fX10_steps_65 (fX10_steps_25 u) μ x1 (hv_i j) = some o → hg_G 28 28 μ o.1 ∧ ∀ a b, a < 13 → b < 13 → hg_X hg_V (o.1.1 28 (13 * a + b)).toInt (hg_EM μ n x1.toInt a b) := by
        intro kn h
        unfold fX10_steps_65 fX10_steps_103 at h
        obtain ⟨_, v1, e1, h⟩ := hy_ga_some h
        rw [nj, ea] at e1
        obtain ⟨_, v4, e4, h⟩ := hy_ga_some h
        rw [nj, eb] at e4
        rw [e1, e4] at h
        obtain ⟨_, v7, e7, h⟩ := hy_ga_some h
        rw [hg_ix a13 b13] at e7
        obtain ⟨_, v10, e10, h⟩ := hy_ga_some h
        rw [nj] at e10
        rw [← e10] at y0 y1
        obtain ⟨_, τ, e15, h⟩ := hy_pa_some h
        rw [hg_ix a13 b13] at e15
        rw [hn_i1' (by omega)] at h
        have k28 : τ.1 28 = upd (μ.1 28) (13 * a + b) (if v7 < v10 then v10 else v7) := by rw [e15]; rfl
        have hT2 : hg_T τ n := by rw [e15]; exact hT
        have EE : hg_EM τ = hg_EM μ := by rw [e15]; rfl
        obtain ⟨q1, q2⟩ := ih τ (j + 1) o hT2 (by omega) (by
          intro p q hp hq
          rw [EE, k28]
          by_cases pq : p = a ∧ q = b
          · obtain ⟨rfl, rfl⟩ := pq
            rw [hs_upds]
            have X := hX p q hp hq
            rw [← e7] at X
            have mem : hg_EM μ (j + 1) x1.toInt p q v10.toInt := ⟨j, by omega, kn, by rw [ea]; exact hv_iN (by omega), by rw [eb]; exact hv_iN (by omega), by rw [e10]⟩
            have old : ∀ x, hg_EM μ (j + 1) x1.toInt p q x → hg_EM μ j x1.toInt p q x ∨ x = v10.toInt := by
              intro x ⟨i, i1, i2, i3, i4, i5⟩
              by_cases ei : i = j
              · refine Or.inr ?_
                rw [← i5, ei, e10]
              · exact Or.inl ⟨i, by omega, i2, i3, i4, i5⟩
            have more : ∀ x, hg_EM μ j x1.toInt p q x → hg_EM μ (j + 1) x1.toInt p q x := fun x ⟨i, i1, i2⟩ => ⟨i, by omega, i2⟩
            by_cases d : v7 < v10
            · rw [if_pos d]
              have d1 := Int32.lt_iff_toInt_lt.mp d
              refine Or.inr ⟨by omega, mem, fun x hx => ?_⟩
              rcases old x hx with z | z
              · rcases X with ⟨x1, x2⟩ | ⟨x1, x2, x3⟩
                · exact absurd z (x2 x)
                · have := x3 x z
                  omega
              · omega
            · rw [if_neg d]
              have d1 := hi_nlt d
              rcases X with ⟨x1, x2⟩ | ⟨x1, x2, x3⟩
              · exfalso
                omega
              · refine Or.inr ⟨x1, more _ x2, fun x hx => ?_⟩
                rcases old x hx with z | z
                · exact x3 x z
                · omega
          · have ne : ¬ 13 * p + q = 13 * a + b := fun z => pq (hg_ij hq b13 z)
            rw [hs_upd ne]
            refine hg_Xeq (hX p q hp hq) (fun x => ⟨fun ⟨i, i1, i2⟩ => ⟨i, by omega, i2⟩, fun ⟨i, i1, i2, i3, i4, i5⟩ => ?_⟩)
            by_cases ei : i = j
            · exfalso
              rw [ei, ea, hv_iN (by omega)] at i3
              rw [ei, eb, hv_iN (by omega)] at i4
              exact pq ⟨i3.symm, i4.symm⟩
            · exact ⟨i, by omega, i2, i3, i4, i5⟩) h
        rw [EE] at q2
        rw [e15] at q1
        exact ⟨hg_Gt hg_Gl q1, q2⟩
      obtain ⟨_, v2, e2, h⟩ := hy_ga_some h
      rw [nj] at e2
      by_cases d : x1 < v2
      · rw [if_pos d] at h
        have d1 := Int32.lt_iff_toInt_lt.mp d
        rw [e2] at d1
        exact skip (fun z => by have := z.1; omega) h
      · rw [if_neg d] at h
        have d1 := hi_nlt d
        rw [e2] at d1
        obtain ⟨_, v6, e6, h⟩ := hy_ga_some h
        rw [nj] at e6
        by_cases f : v6 < 0
        · rw [if_pos f] at h
          have f1 : v6.toInt < 0 := Int32.lt_iff_toInt_lt.mp f
          refine go ⟨by omega, Or.inl ?_⟩ h
          rcases hB j with z | z
          · exact z
          · rw [← e6] at z
            omega
        · rw [if_neg f] at h
          have f1 : ¬ v6.toInt < 0 := hi_nlt f
          have f2 : ¬ μ.1 27 j = -1 := fun z => by
            rw [← e6] at z
            rw [z] at f1
            exact f1 (by decide)
          obtain ⟨_, v10, e10, h⟩ := hy_ga_some h
          rw [nj] at e10
          by_cases g : x1 < v10
          · rw [if_pos g] at h
            have g1 := Int32.lt_iff_toInt_lt.mp g
            rw [e10] at g1
            exact go ⟨by omega, Or.inr g1⟩ h
          · rw [if_neg g] at h
            have g1 := hi_nlt g
            rw [e10] at g1
            refine skip (fun z => ?_) h
            rcases z.2 with y | y
            · exact f2 y
            · omega
theorem hg_s2 {n : Nat} {x1 : Int32} : ∀ (u : Nat) (μ : hy_S) (i : Nat) (o : hy_S × Int32), hg_T μ n → i ≤ 169 → (∀ k, k < i → (μ.1 28 k).toInt = hg_V) → fX10_steps_2 u μ x1 (hv_i i) = some o → hg_G 28 28 μ o.1 ∧ ∀ a b, a < 13 → b < 13 → hg_X hg_V (o.1.1 28 (13 * a + b)).toInt (hg_EM μ n x1.toInt a b) := by
  intro u
  induction u with
  | zero => intro μ i o hT hi hv h; cases h
  | succ u ih =>
    intro μ i o hT hi hv h
    have V : hg_V = -100000000 := rfl
    have ei := hv_ii (r := i) (by omega)
    unfold fX10_steps_2 at h
    by_cases c : 169 ≤ hv_i i
    · rw [if_pos c] at h
      have c1 : (169 : Int) ≤ (hv_i i).toInt := hi_le.mp c
      exact hg_s25 hy_fu μ 0 o hT (Nat.zero_le _) (fun a b ha hb => Or.inl ⟨hv _ (by omega), fun x ⟨k, k1, _⟩ => absurd k1 (Nat.not_lt_zero _)⟩) h
    · rw [if_neg c] at h
      have c1 : ¬ (169 : Int) ≤ (hv_i i).toInt := hi_nle c
      obtain ⟨_, τ, e, h⟩ := hy_pa_some h
      rw [hv_iN (by omega)] at e
      rw [hn_i1' (by omega)] at h
      obtain ⟨q1, q2⟩ := ih τ (i + 1) o (by rw [e]; exact hT) (by omega) (by
        intro k hk
        rw [e]
        show (upd (μ.1 28) i (-100000000) k).toInt = hg_V
        by_cases ek : k = i
        · rw [ek, hs_upds]
          rfl
        · rw [hs_upd ek]
          exact hv k (by omega)) h
      rw [e] at q1 q2
      exact ⟨hg_Gt hg_Gl q1, q2⟩
theorem hg_steps {n : Nat} {μ : hy_S} {x1 : Int32} (hT : hg_T μ n) {o : hy_S × Int32} (h : fX10_steps μ x1 = some o) : hg_G 28 28 μ o.1 ∧ ∀ a b, a < 13 → b < 13 → hg_X hg_V (o.1.1 28 (13 * a + b)).toInt (hg_EM μ n x1.toInt a b) := by
  unfold fX10_steps at h
  exact hg_s2 hy_fu μ 0 o hT (by omega) (fun k hk => absurd hk (Nat.not_lt_zero _)) h
/-- values of a matrix are none or not far -/
noncomputable def hg_mb (f : Nat → Int32) (k : Nat) : Prop := ∀ a b, a < 13 → b < 13 → (f (13 * a + b)).toInt = hg_V ∨ (-1000 * (k : Int) ≤ (f (13 * a + b)).toInt ∧ (f (13 * a + b)).toInt ≤ 1000 * (k : Int))
/-- what goes over one more step -/
noncomputable def hg_P (G S : Nat → Int32) (k a b : Nat) (x : Int) : Prop := ∃ j, j < k ∧ ¬ (G (13 * a + j)).toInt = hg_V ∧ ¬ (S (13 * j + b)).toInt = hg_V ∧ x = (G (13 * a + j)).toInt + (S (13 * j + b)).toInt
theorem hg_n65 {k34 : hy_S → Int32 → Option (hy_S × Int32)} {k42 : hy_S → Int32 → Int32 → Option (hy_S × Int32)} {k51 : hy_S → Int32 → Int32 → Int32 → Option (hy_S × Int32)} {x2 : Int32} {a b : Nat} (a13 : a < 13) (b13 : b < 13) {o : hy_S × Int32} {σ : hy_S} {K : Nat} (K20 : K ≤ 20) (hG : hg_mb (σ.1 29) K) (hS : hg_mb (σ.1 28) 1) : ∀ (u k : Nat) (x5 : Int32), k ≤ 13 → hg_X hg_V x5.toInt (hg_P (σ.1 29) (σ.1 28) k a b) → fX10_round_65 k34 k42 k51 u σ x2 (hv_i a) (hv_i b) x5 (hv_i k) = some o → ∃ y : Int32, hg_X hg_V y.toInt (hg_P (σ.1 29) (σ.1 28) 13 a b) ∧ k51 (hy_sc σ 30 (upd (σ.1 30) (13 * a + b) y)) x2 (hv_i a) (hv_i (b + 1)) = some o := by
  intro u
  induction u with
  | zero => intro k x5 hk hX h; cases h
  | succ u ih =>
    intro k x5 hk hX h
    have V : hg_V = -100000000 := rfl
    have ek := hv_ii (r := k) (by omega)
    unfold fX10_round_65 at h
    by_cases c : 13 ≤ hv_i k
    · rw [if_pos c] at h
      have c1 : (13 : Int) ≤ (hv_i k).toInt := hi_le.mp c
      have e : k = 13 := by omega
      obtain ⟨_, τ, eτ, h⟩ := hy_pa_some h
      rw [hg_ix a13 b13] at eτ
      rw [eτ, hn_i1' (by omega)] at h
      rw [e] at hX
      exact ⟨x5, hX, h⟩
    · rw [if_neg c] at h
      have c1 : ¬ (13 : Int) ≤ (hv_i k).toInt := hi_nle c
      have k13 : k < 13 := by omega
      have nope : (¬ ¬ (σ.1 29 (13 * a + k)).toInt = hg_V ∨ ¬ ¬ (σ.1 28 (13 * k + b)).toInt = hg_V) → fX10_round_140 k34 k42 k51 (fX10_round_65 k34 k42 k51 u) σ x2 (hv_i a) (hv_i b) x5 (hv_i k) = some o → ∃ y : Int32, hg_X hg_V y.toInt (hg_P (σ.1 29) (σ.1 28) 13 a b) ∧ k51 (hy_sc σ 30 (upd (σ.1 30) (13 * a + b) y)) x2 (hv_i a) (hv_i (b + 1)) = some o := by
        intro z h
        unfold fX10_round_140 at h
        rw [hn_i1' (by omega)] at h
        refine ih (k + 1) x5 (by omega) (hg_Xeq hX (fun x => ⟨fun ⟨j, j1, j2⟩ => ⟨j, by omega, j2⟩, fun ⟨j, j1, j2, j3, j4⟩ => ?_⟩)) h
        by_cases ej : j = k
        · exfalso
          rw [ej] at j2 j3
          rcases z with z | z
          · exact z j2
          · exact z j3
        · exact ⟨j, by omega, j2, j3, j4⟩
      obtain ⟨_, v5, e5, h⟩ := hy_ga_some h
      rw [hg_ix a13 k13] at e5
      have g5 := hG a k a13 k13
      rw [← e5] at g5
      by_cases d : v5 ≤ -100000000
      · rw [if_pos d] at h
        have d1 : v5.toInt ≤ hg_V := hi_le.mp d
        exact nope (Or.inl (fun z => z (by rw [← e5]; omega))) h
      · rw [if_neg d] at h
        have d1 : ¬ v5.toInt ≤ hg_V := hi_nle d
        obtain ⟨_, v9, e9, h⟩ := hy_ga_some h
        rw [hg_ix k13 b13] at e9
        have g9 := hS k b k13 b13
        rw [← e9] at g9
        by_cases f : v9 ≤ -100000000
        · rw [if_pos f] at h
          have f1 : v9.toInt ≤ hg_V := hi_le.mp f
          exact nope (Or.inr (fun z => z (by rw [← e9]; omega))) h
        · rw [if_neg f] at h
          have f1 : ¬ v9.toInt ≤ hg_V := hi_nle f
          obtain ⟨_, v13, e13, h⟩ := hy_ga_some h
          rw [hg_ix a13 k13, ← e5] at e13
          obtain ⟨_, v16, e16, h⟩ := hy_ga_some h
          rw [hg_ix k13 b13, ← e9] at e16
          rw [e13, e16] at h
          have ga : (v5 + v9).toInt = v5.toInt + v9.toInt := hs_add (by omega) (by omega)
          have mem : hg_P (σ.1 29) (σ.1 28) (k + 1) a b (v5.toInt + v9.toInt) := ⟨k, by omega, by rw [← e5]; omega, by rw [← e9]; omega, by rw [← e5, ← e9]⟩
          have old : ∀ x, hg_P (σ.1 29) (σ.1 28) (k + 1) a b x → hg_P (σ.1 29) (σ.1 28) k a b x ∨ x = v5.toInt + v9.toInt := by
            intro x ⟨j, j1, j2, j3, j4⟩
            by_cases ej : j = k
            · refine Or.inr ?_
              rw [j4, ej, ← e5, ← e9]
            · exact Or.inl ⟨j, by omega, j2, j3, j4⟩
          unfold fX10_round_140 at h
          rw [hn_i1' (by omega)] at h
          refine ih (k + 1) _ (by omega) ?_ h
          by_cases q : x5 < v5 + v9
          · rw [if_pos q]
            have q1 := Int32.lt_iff_toInt_lt.mp q
            rw [ga] at q1 ⊢
            refine Or.inr ⟨by omega, mem, fun x hx => ?_⟩
            rcases old x hx with z | z
            · rcases hX with ⟨x1, x2⟩ | ⟨x1, x2, x3⟩
              · exact absurd z (x2 x)
              · have := x3 x z
                omega
            · omega
          · rw [if_neg q]
            have q1 := hi_nlt q
            rw [ga] at q1
            rcases hX with ⟨x1, x2⟩ | ⟨x1, ⟨j, j1, j2⟩, x3⟩
            · exfalso
              omega
            · refine Or.inr ⟨x1, ⟨j, by omega, j2⟩, fun x hx => ?_⟩
              rcases old x hx with z | z
              · exact x3 x z
              · omega
