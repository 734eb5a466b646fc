/-! What is known on a day; how years are pushed on along known tellings. -/
noncomputable def hg_k (s b : Nat → Int32) (d : Int) (i : Nat) : Prop := (s i).toInt ≤ d ∧ (b i = -1 ∨ d < (b i).toInt)
/-- the steps that are known: from, to, years -/
noncomputable def hg_E (f t y s b : Nat → Int32) (n : Nat) (d : Int) (p q : Nat) (w : Int) : Prop := ∃ i, i < n ∧ hg_k s b d i ∧ (f i).toNatClampNeg = p ∧ (t i).toNatClampNeg = q ∧ (y i).toInt = w
noncomputable def hg_L (kw : Nat → Int32) (m n : Nat) (P : Nat → Prop) : Prop := (∀ i, i < m → ∃ j, j < n ∧ P j ∧ kw i = hv_i j) ∧ (∀ j, j < n → P j → ∃ i, i < m ∧ kw i = hv_i j)
theorem hg_L1 {kw : Nat → Int32} {m n : Nat} {P : Nat → Prop} (h : hg_L kw m n P) (hn : P n) : hg_L (upd kw m (hv_i n)) (m + 1) (n + 1) P := by
  refine ⟨fun i hi => ?_, fun j hj hp => ?_⟩
  · by_cases e : i = m
    · rw [e, hs_upds]
      exact ⟨n, by omega, hn, rfl⟩
    · rw [hs_upd e]
      obtain ⟨j, j1, j2, j3⟩ := h.1 i (by omega)
      exact ⟨j, by omega, j2, j3⟩
  · by_cases e : j = n
    · exact ⟨m, by omega, by rw [e, hs_upds]⟩
    · obtain ⟨i, i1, i2⟩ := h.2 j (by omega) hp
      exact ⟨i, by omega, by rw [hs_upd (by omega)]; exact i2⟩
theorem hg_L0 {kw : Nat → Int32} {m n : Nat} {P : Nat → Prop} (h : hg_L kw m n P) (hn : ¬ P n) : hg_L kw m (n + 1) P := by
  refine ⟨fun i hi => ?_, fun j hj hp => ?_⟩
  · obtain ⟨j, j1, j2, j3⟩ := h.1 i hi
    exact ⟨j, by omega, j2, j3⟩
  · by_cases e : j = n
    · rw [e] at hp
      exact absurd hp hn
    · exact h.2 j (by omega) hp
theorem hg_rc {n : Nat} (n60 : n ≤ 60) {x1 : Int32} : ∀ (u : Nat) (σ : hy_S) (j m : Nat) (o : hy_S × Int32), (σ.2 8).toInt = (n : Int) → j ≤ n → (∀ k, σ.1 26 k = -1 ∨ 0 ≤ (σ.1 26 k).toInt) → σ.2 9 = hv_i m → m ≤ j → hg_L (σ.1 27) m j (hg_k (σ.1 25) (σ.1 26) x1.toInt) → fX8_recall_7 u σ x1 (hv_i j) = some o → ∃ m', m' ≤ n ∧ o.1.2 9 = hv_i m' ∧ hg_L (o.1.1 27) m' n (hg_k (σ.1 25) (σ.1 26) x1.toInt) ∧ (∀ k, ¬ k = 27 → o.1.1 k = σ.1 k) ∧ (∀ k, ¬ k = 9 → o.1.2 k = σ.2 k) := by
  intro u
  induction u with
  | zero => intro σ j m o hn hj hb hm mj hL h; cases h
  | succ u ih =>
    intro σ j m o hn hj hb hm mj hL h
    have ej := hv_ii (r := j) (by omega)
    unfold fX8_recall_7 at h
    by_cases c : σ.2 8 ≤ hv_i j
    · rw [if_pos c] at h
      have c1 : (σ.2 8).toInt ≤ (hv_i j).toInt := hi_le.mp c
      have e : j = n := by omega
      rw [e] at hL
      rw [(hi_pr h).1]
      exact ⟨m, by omega, hm, hL, fun _ _ => rfl, fun _ _ => rfl⟩
    · rw [if_neg c] at h
      have c1 := hi_nle c
      have nj := hv_iN (r := j) (by omega)
      have skip : ¬ hg_k (σ.1 25) (σ.1 26) x1.toInt j → fX8_recall_7 u σ x1 (hv_i j + 1) = some o → ∃ m', m' ≤ n ∧ o.1.2 9 = hv_i m' ∧ hg_L (o.1.1 27) m' n (hg_k (σ.1 25) (σ.1 26) x1.toInt) ∧ (∀ k, ¬ k = 27 → o.1.1 k = σ.1 k) ∧ (∀ k, ¬ k = 9 → o.1.2 k = σ.2 k) := by
        intro z h
        rw [hn_i1' (by omega)] at h
        exact ih σ (j + 1) m o hn (by omega) hb hm (by omega) (hg_L0 hL z) h
      have go : ∀ s0 : Int32, (s0 = 0 ↔ ¬ (σ.1 26 j = -1 ∨ x1.toInt < (σ.1 26 j).toInt)) → fX8_recall_40 (fX8_recall_7 u) σ s0 x1 (hv_i j) = some o → ∃ m', m' ≤ n ∧ o.1.2 9 = hv_i m' ∧ hg_L (o.1.1 27) m' n (hg_k (σ.1 25) (σ.1 26) x1.toInt) ∧ (∀ k, ¬ k = 27 → o.1.1 k = σ.1 k) ∧ (∀ k, ¬ k = 9 → o.1.2 k = σ.2 k) := by
        intro s0 hs h
        unfold fX8_recall_40 fX8_recall_75 at h
        obtain ⟨_, v1, e1, h⟩ := hy_ga_some h
        rw [nj] at e1
        by_cases d : x1 < v1
        · rw [if_pos d] at h
          have d1 := Int32.lt_iff_toInt_lt.mp d
          rw [e1] at d1
          exact skip (fun z => by have := z.1; omega) h
        · rw [if_neg d] at h
          have d1 := hi_nlt d
          rw [e1] at d1
          by_cases d2 : s0 = 0
          · rw [if_pos d2] at h
            exact skip (fun z => hs.mp d2 z.2) h
          · rw [if_neg d2] at h
            have kn : hg_k (σ.1 25) (σ.1 26) x1.toInt j := by
              refine ⟨by omega, ?_⟩
              by_cases z : σ.1 26 j = -1 ∨ x1.toInt < (σ.1 26 j).toInt
              · exact z
              · exact absurd (hs.mpr z) d2
            obtain ⟨_, σ6, e6, h⟩ := hy_pa_some h
            obtain ⟨σ9, e9, h⟩ := hy_pf_some h
            rw [hm, hv_iN (by omega)] at e6
            have b9 : σ6.2 9 = hv_i m := by rw [e6]; exact hm
            rw [b9, hn_i1' (by omega)] at e9
            rw [hn_i1' (by omega)] at h
            have k25 : σ9.1 25 = σ.1 25 := by rw [e9, e6]; rfl
            have k26 : σ9.1 26 = σ.1 26 := by rw [e9, e6]; rfl
            obtain ⟨m', w1, w2, w3, w4, w5⟩ := ih σ9 (j + 1) (m + 1) o (by rw [e9, e6]; exact hn) (by omega) (by rw [k26]; exact hb) (by rw [e9]; rfl) (by omega) (by
              rw [k25, k26, e9, e6]
              exact hg_L1 hL kn) h
            rw [k25, k26] at w3
            refine ⟨m', w1, w2, w3, fun k hk => ?_, fun k hk => ?_⟩
            · rw [w4 k hk, e9, e6]
              show (if k = 27 then _ else σ.1 k) = σ.1 k
              rw [if_neg hk]
            · rw [w5 k hk, e9]
              show (if k = 9 then _ else σ6.2 k) = σ.2 k
              rw [if_neg hk, e6]
              rfl
      obtain ⟨_, v2, e2, h⟩ := hy_ga_some h
      rw [nj] at e2
      by_cases d : v2 = -1
      · rw [if_pos d] at h
        unfold fX8_recall_35 at h
        exact go 1 ⟨fun z => absurd z (by decide), fun z => absurd (Or.inl (by rw [← e2]; exact d)) z⟩ h
      · rw [if_neg d] at h
        obtain ⟨_, v6, e6, h⟩ := hy_ga_some h
        rw [nj] at e6
        by_cases f : v6 ≤ x1
        · rw [if_pos f] at h
          have f1 := hi_le.mp f
          rw [e6] at f1
          refine go 0 ⟨fun _ z => ?_, fun _ => rfl⟩ h
          rcases z with z | z
          · exact d (by rw [e2]; exact z)
          · omega
        · rw [if_neg f] at h
          have f1 := hi_nle f
          rw [e6] at f1
          unfold fX8_recall_35 at h
          exact go 1 ⟨fun z => absurd z (by decide), fun z => absurd (Or.inr (by omega)) z⟩ h
theorem hg_recall {n : Nat} (n60 : n ≤ 60) {σ : hy_S} {x1 : Int32} {o : hy_S × Int32} (hn : (σ.2 8).toInt = (n : Int)) (hb : ∀ k, σ.1 26 k = -1 ∨ 0 ≤ (σ.1 26 k).toInt) (h : fX8_recall σ x1 = some o) : ∃ m', m' ≤ n ∧ o.1.2 9 = hv_i m' ∧ hg_L (o.1.1 27) m' n (hg_k (σ.1 25) (σ.1 26) x1.toInt) ∧ (∀ k, ¬ k = 27 → o.1.1 k = σ.1 k) ∧ (∀ k, ¬ k = 9 → o.1.2 k = σ.2 k) := by
  unfold fX8_recall at h
  obtain ⟨τ, e, h⟩ := hy_pf_some h
  obtain ⟨m', w1, w2, w3, w4, w5⟩ := hg_rc n60 hy_fu τ 0 0 o (by rw [e]; exact hn) (Nat.zero_le _) (by rw [e]; exact hb) (by rw [e]; rfl) (Nat.le_refl _) ⟨fun i hi => absurd hi (Nat.not_lt_zero _), fun j hj => absurd hj (Nat.not_lt_zero _)⟩ h
  refine ⟨m', w1, w2, by rw [e] at w3; exact w3, fun k hk => by rw [w4 k hk, e]; rfl, fun k hk => ?_⟩
  rw [w5 k hk, e]
  show (if k = 9 then _ else σ.2 k) = σ.2 k
  rw [if_neg hk]
/-- the known steps of a state that has recalled: by their place among the known -/
noncomputable def hg_A (σ : hy_S) (i : Nat) : Nat := (σ.1 22 (σ.1 27 i).toNatClampNeg).toNatClampNeg
noncomputable def hg_B (σ : hy_S) (i : Nat) : Nat := (σ.1 23 (σ.1 27 i).toNatClampNeg).toNatClampNeg
noncomputable def hg_Y (σ : hy_S) (i : Nat) : Int := (σ.1 24 (σ.1 27 i).toNatClampNeg).toInt
noncomputable def hg_e (σ : hy_S) (m : Nat) (a b : Nat) (w : Int) : Prop := ∃ i, i < m ∧ hg_A σ i = a ∧ hg_B σ i = b ∧ hg_Y σ i = w
noncomputable def hg_ok (σ : hy_S) (m : Nat) : Prop := m ≤ 60 ∧ σ.2 9 = hv_i m ∧ ∀ i, i < m → hg_A σ i < 13 ∧ hg_B σ i < 13 ∧ -1000 ≤ hg_Y σ i ∧ hg_Y σ i ≤ 1000
noncomputable def hg_F (β σ : hy_S) : Prop := (∀ j, ¬ j = 28 → ¬ j = 29 → σ.1 j = β.1 j) ∧ σ.2 = β.2
theorem hg_F0 {β : hy_S} : hg_F β β := ⟨fun _ _ _ => rfl, rfl⟩
theorem hg_Ft {α β γ : hy_S} (h1 : hg_F α β) (h2 : hg_F β γ) : hg_F α γ := ⟨fun j j1 j2 => (h2.1 j j1 j2).trans (h1.1 j j1 j2), h2.2.trans h1.2⟩
theorem hg_F28 {β : hy_S} {f : Nat → Int32} : hg_F β (hy_sc β 28 f) := ⟨fun j j1 _ => by show (if j = 28 then f else β.1 j) = β.1 j; rw [if_neg j1], rfl⟩
theorem hg_F29 {β : hy_S} {f : Nat → Int32} : hg_F β (hy_sc β 29 f) := ⟨fun j _ j1 => by show (if j = 29 then f else β.1 j) = β.1 j; rw [if_neg j1], rfl⟩
theorem hg_FA {β σ : hy_S} (h : hg_F β σ) (i : Nat) : hg_A σ i = hg_A β i ∧ hg_B σ i = hg_B β i ∧ hg_Y σ i = hg_Y β i := by
  unfold hg_A hg_B hg_Y
  rw [h.1 22 (by decide) (by decide), h.1 23 (by decide) (by decide), h.1 24 (by decide) (by decide), h.1 27 (by decide) (by decide)]
  exact ⟨rfl, rfl, rfl⟩
theorem hg_Fok {β σ : hy_S} {m : Nat} (h : hg_F β σ) (k : hg_ok β m) : hg_ok σ m := by
  refine ⟨k.1, by rw [h.2]; exact k.2.1, fun i hi => ?_⟩
  obtain ⟨a, b, c⟩ := hg_FA h i
  rw [a, b, c]
  exact k.2.2 i hi
