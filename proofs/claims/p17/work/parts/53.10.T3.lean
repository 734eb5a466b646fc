/-! Reading a note: how far the bytes of one sort go on, on both sides. -/
noncomputable def hn_P (t : Nat → Int32) (L : Nat) (lo hi : Int) (a v : Nat) : Prop := a ≤ v ∧ (∀ k, a ≤ k → k < v → k < L ∧ lo ≤ (t k).toInt ∧ (t k).toInt ≤ hi) ∧ (L ≤ v ∨ (t v).toInt < lo ∨ hi < (t v).toInt)
theorem hn_Pu {t : Nat → Int32} {L : Nat} {lo hi : Int} {a v w : Nat} (h1 : hn_P t L lo hi a v) (h2 : hn_P t L lo hi a w) : v = w := by
  have key : ∀ {v w : Nat}, hn_P t L lo hi a v → hn_P t L lo hi a w → ¬ v < w := by
    intro v w g1 g2 c
    have q := g2.2.1 v g1.1 c
    rcases g1.2.2 with z | z | z <;> omega
  have := key h1 h2
  have := key h2 h1
  omega
theorem hn_P1 {t : Nat → Int32} {L : Nat} {lo hi : Int} {a v : Nat} (h : hn_P t L lo hi (a + 1) v) (h1 : a < L) (h2 : lo ≤ (t a).toInt) (h3 : (t a).toInt ≤ hi) : hn_P t L lo hi a v := by
  refine ⟨by have := h.1; omega, fun k k1 k2 => ?_, h.2.2⟩
  by_cases e : k = a
  · rw [e]
    exact ⟨h1, h2, h3⟩
  · exact h.2.1 k (by omega) k2
theorem hn_P0 {t : Nat → Int32} {L : Nat} {lo hi : Int} {a : Nat} (h : L ≤ a ∨ (t a).toInt < lo ∨ hi < (t a).toInt) : hn_P t L lo hi a a := ⟨Nat.le_refl _, fun k k1 k2 => absurd k2 (by omega), h⟩
theorem hn_Ple {t : Nat → Int32} {L : Nat} {lo hi : Int} {a v : Nat} (h : hn_P t L lo hi a v) (ha : a ≤ L) : v ≤ L := by
  by_cases c : v ≤ L
  · exact c
  · have := h.2.1 L ha (by omega)
    omega
theorem hn_i1 {r : Nat} (h : r < 4000) : hv_i r + 1 = hv_i (r + 1) := Int32.toInt_inj.mp (by
  have e := hv_ii (r := r) (by omega)
  rw [hv_ii (by omega), (hj_p1 (i := hv_i r) (by omega) (by omega)).1, e]
  omega)
theorem hn_past {σ : hy_S} {L : Nat} (hL : (σ.2 2).toInt = (L : Int)) (L400 : L ≤ 400) {lo hi : Int32} : ∀ (n a : Nat) (o : hy_S × Int32), a ≤ 400 → fX7_past_3 n σ lo hi (hv_i a) = some o → o.1 = σ ∧ ∃ v : Nat, o.2 = hv_i v ∧ hn_P (σ.1 0) L lo.toInt hi.toInt a v := by
  intro n
  induction n with
  | zero => intro a o h0 h; cases h
  | succ n ih =>
    intro a o h0 h
    have ea := hv_ii (r := a) (by omega)
    have na := hv_iN (r := a) (by omega)
    unfold fX7_past_3 fX7_past_40 at h
    by_cases c : σ.2 2 ≤ hv_i a
    · rw [if_pos c] at h
      have c1 : (σ.2 2).toInt ≤ (hv_i a).toInt := hi_le.mp c
      exact ⟨(hi_pr h).1, a, (hi_pr h).2, hn_P0 (Or.inl (by omega))⟩
    · rw [if_neg c] at h
      have c1 := hi_nle c
      obtain ⟨_, v2, e2, h⟩ := hy_ga_some h
      rw [na] at e2
      by_cases d : v2 < lo
      · rw [if_pos d] at h
        have d1 := Int32.lt_iff_toInt_lt.mp d
        rw [e2] at d1
        exact ⟨(hi_pr h).1, a, (hi_pr h).2, hn_P0 (Or.inr (Or.inl d1))⟩
      · rw [if_neg d] at h
        have d1 := hi_nlt d
        rw [e2] at d1
        obtain ⟨_, v6, e6, h⟩ := hy_ga_some h
        rw [na] at e6
        by_cases f : hi < v6
        · rw [if_pos f] at h
          have f1 := Int32.lt_iff_toInt_lt.mp f
          rw [e6] at f1
          exact ⟨(hi_pr h).1, a, (hi_pr h).2, hn_P0 (Or.inr (Or.inr f1))⟩
        · rw [if_neg f] at h
          have f1 := hi_nlt f
          rw [e6] at f1
          rw [hn_i1 (by omega)] at h
          obtain ⟨q1, v, q2, q3⟩ := ih (a + 1) o (by omega) h
          exact ⟨q1, v, q2, hn_P1 q3 (by omega) (by omega) (by omega)⟩
theorem hn_at {μ : hy_S} {lo hi : Int32} {a L : Nat} (h5 : μ.2 5 = hv_i a) (h6 : (μ.2 6).toInt = (L : Int)) (a400 : a ≤ 400) {o : hy_S × Int32} (h : fX10_isAt μ lo hi = some o) : o.1 = μ ∧ ((o.2 = 1 ∧ a < L ∧ lo.toInt ≤ (μ.1 17 a).toInt ∧ (μ.1 17 a).toInt ≤ hi.toInt) ∨ (o.2 = 0 ∧ (L ≤ a ∨ (μ.1 17 a).toInt < lo.toInt ∨ hi.toInt < (μ.1 17 a).toInt))) := by
  have ea := hv_ii (r := a) (by omega)
  have na := hv_iN (r := a) (by omega)
  unfold fX10_isAt at h
  rw [h5] at h
  by_cases c : μ.2 6 ≤ hv_i a
  · rw [if_pos c] at h
    have c1 : (μ.2 6).toInt ≤ (hv_i a).toInt := hi_le.mp c
    exact ⟨(hi_pr h).1, Or.inr ⟨(hi_pr h).2, Or.inl (by omega)⟩⟩
  · rw [if_neg c] at h
    have c1 := hi_nle c
    obtain ⟨_, v2, e2, h⟩ := hy_ga_some h
    rw [na] at e2
    by_cases d : v2 < lo
    · rw [if_pos d] at h
      have d1 := Int32.lt_iff_toInt_lt.mp d
      rw [e2] at d1
      exact ⟨(hi_pr h).1, Or.inr ⟨(hi_pr h).2, Or.inr (Or.inl d1)⟩⟩
    · rw [if_neg d] at h
      have d1 := hi_nlt d
      rw [e2] at d1
      obtain ⟨_, v6, e6, h⟩ := hy_ga_some h
      rw [na] at e6
      by_cases f : hi < v6
      · rw [if_pos f] at h
        have f1 := Int32.lt_iff_toInt_lt.mp f
        rw [e6] at f1
        exact ⟨(hi_pr h).1, Or.inr ⟨(hi_pr h).2, Or.inr (Or.inr f1)⟩⟩
      · rw [if_neg f] at h
        have f1 := hi_nlt f
        rw [e6] at f1
        exact ⟨(hi_pr h).1, Or.inl ⟨(hi_pr h).2, by omega, by omega, by omega⟩⟩
/-- the same but for where the point stands -/
noncomputable def hn_S (j q : Nat) (μ τ : hy_S) : Prop := τ.1 = μ.1 ∧ ∀ k, ¬ k = j → ¬ k = q → τ.2 k = μ.2 k
theorem hn_S0 {j q : Nat} {μ : hy_S} : hn_S j q μ μ := ⟨rfl, fun _ _ _ => rfl⟩
theorem hn_St {j q : Nat} {μ τ ν : hy_S} (h1 : hn_S j q μ τ) (h2 : hn_S j q τ ν) : hn_S j q μ ν := ⟨h2.1.trans h1.1, fun k k1 k2 => (h2.2 k k1 k2).trans (h1.2 k k1 k2)⟩
theorem hn_Si {j q : Nat} {μ : hy_S} {v : Int32} : hn_S j q μ (hy_si μ j v) := ⟨rfl, fun k k1 _ => by
  show (if k = j then v else μ.2 k) = μ.2 k
  rw [if_neg k1]⟩
theorem hn_bl {L : Nat} (L400 : L ≤ 400) : ∀ (n : Nat) (μ : hy_S) (a : Nat) (o : hy_S × Int32), μ.2 5 = hv_i a → (μ.2 6).toInt = (L : Int) → a ≤ L → fX10_blanks_0 n μ = some o → ∃ v : Nat, hn_P (μ.1 17) L 32 32 a v ∧ o.1.2 5 = hv_i v ∧ o.1.2 7 = hv_i v ∧ hn_S 5 7 μ o.1 := by
  intro n
  induction n with
  | zero => intro μ a o h0 h1 h2 h; cases h
  | succ n ih =>
    intro μ a o h0 h1 h2 h
    unfold fX10_blanks_0 at h
    obtain ⟨σ1, v2, e1, h⟩ := hy_bd_some h
    obtain ⟨q1, q2⟩ := hn_at h0 h1 (by omega) e1
    have q1 : σ1 = μ := q1
    rw [q1] at h
    rcases q2 with ⟨q2, q3, q4, q5⟩ | ⟨q2, q3⟩
    · rw [show v2 = 1 from q2] at h
      rw [if_neg (by decide), h0, hn_i1 (by omega)] at h
      obtain ⟨τ, eτ, h⟩ := hy_pf_some h
      obtain ⟨v, w1, w2, w3, w4⟩ := ih τ (a + 1) o (by rw [eτ]; rfl) (by rw [eτ]; exact h1) (by omega) h
      rw [eτ] at w1 w4
      exact ⟨v, hn_P1 w1 q3 q4 q5, w2, w3, hn_St hn_Si w4⟩
    · rw [show v2 = 0 from q2] at h
      rw [if_pos rfl] at h
      obtain ⟨τ, eτ, h⟩ := hy_pf_some h
      refine ⟨a, hn_P0 q3, ?_, ?_, ?_⟩
      · rw [(hi_pr h).1, eτ]
        exact h0
      · rw [(hi_pr h).1, eτ]
        exact h0
      · rw [(hi_pr h).1, eτ]
        refine ⟨rfl, fun k k1 k2 => ?_⟩
        show (if k = 7 then _ else μ.2 k) = μ.2 k
        rw [if_neg k2]
noncomputable abbrev hn_t16 (k7 : hy_S → Int32 → Option (hy_S × Int32)) (x1 : Int32) (τ : hy_S) : Option (hy_S × Int32) := hy_bd (fX10_word τ x1) (fun σ5 v6 => hy_bd (fX10_isWord σ5 v6) (fun σ8 v9 => (if v9 = 0 then some (σ8, 0) else hy_bd (fX10_blanks σ8) (fun σ12 v13 => fX10_readNote_59 k7 hy_fu σ12 x1 0))))
theorem hn_n16 {L : Nat} (L400 : L ≤ 400) {k7 : hy_S → Int32 → Option (hy_S × Int32)} {x1 : Int32} {o : hy_S × Int32} : ∀ (n : Nat) (μ : hy_S) (a : Nat), μ.2 5 = hv_i a → (μ.2 6).toInt = (L : Int) → a ≤ L → fX10_readNote_16 k7 n μ x1 = some o → ∃ (v : Nat) (τ : hy_S), hn_P (μ.1 17) L 97 122 a v ∧ τ.2 5 = hv_i v ∧ hn_S 5 5 μ τ ∧ hn_t16 k7 x1 τ = some o := by
  intro n
  induction n with
  | zero => intro μ a h0 h1 h2 h; cases h
  | succ n ih =>
    intro μ a h0 h1 h2 h
    unfold fX10_readNote_16 at h
    obtain ⟨σ1, v2, e1, h⟩ := hy_bd_some h
    obtain ⟨q1, q2⟩ := hn_at h0 h1 (by omega) e1
    have q1 : σ1 = μ := q1
    rw [q1] at h
    rcases q2 with ⟨q2, q3, q4, q5⟩ | ⟨q2, q3⟩
    · rw [show v2 = 1 from q2] at h
      rw [if_neg (by decide), h0, hn_i1 (by omega)] at h
      obtain ⟨τ, eτ, h⟩ := hy_pf_some h
      obtain ⟨v, τ2, w1, w2, w3, w4⟩ := ih τ (a + 1) (by rw [eτ]; rfl) (by rw [eτ]; exact h1) (by omega) h
      rw [eτ] at w1 w3
      exact ⟨v, τ2, hn_P1 w1 q3 q4 q5, w2, hn_St hn_Si w3, w4⟩
    · rw [show v2 = 0 from q2] at h
      rw [if_pos rfl] at h
      exact ⟨a, μ, hn_P0 q3, h0, hn_S0, h⟩
/-- the number that m digits from a on make -/
noncomputable def hn_D (t : Nat → Int32) (a : Nat) : Nat → Int32
  | 0 => 0
  | m + 1 => hn_D t a m * 10 + (t (a + m) - 48)
noncomputable abbrev hn_t59 (k7 : hy_S → Int32 → Option (hy_S × Int32)) (x1 y : Int32) (τ : hy_S) : Option (hy_S × Int32) := if (τ.2 5) = (τ.2 7) then some (τ, 0) else (if ((τ.2 5) - (τ.2 7)) ≤ 5 then hy_pa τ 19 5 x1 y (fun σ7 => k7 σ7 (x1 + 1)) else some (τ, 0))
theorem hn_ii {a b : Nat} (ha : a ≤ 1000) (hb : b ≤ 1000) : (hv_i a - hv_i b).toInt = (a : Int) - (b : Int) := by
  have e := hv_ii (r := a) (by omega)
  have f := hv_ii (r := b) (by omega)
  rw [hs_sub (by omega) (by omega), e, f]
theorem hn_n59 {L : Nat} (L400 : L ≤ 400) {k7 : hy_S → Int32 → Option (hy_S × Int32)} {x1 : Int32} {o : hy_S × Int32} {b : Nat} : ∀ (n : Nat) (μ : hy_S) (m : Nat) (x2 : Int32), μ.2 5 = hv_i (b + m) → μ.2 7 = hv_i b → (μ.2 6).toInt = (L : Int) → b + m ≤ L → (m ≤ 5 → x2 = hn_D (μ.1 17) b m) → fX10_readNote_59 k7 n μ x1 x2 = some o → ∃ (v : Nat) (τ : hy_S) (y : Int32), hn_P (μ.1 17) L 48 57 (b + m) v ∧ τ.2 5 = hv_i v ∧ hn_S 5 5 μ τ ∧ (v - b ≤ 5 → y = hn_D (μ.1 17) b (v - b)) ∧ hn_t59 k7 x1 y τ = some o := by
  intro n
  induction n with
  | zero => intro μ m x2 h0 h7 h1 h2 hx h; cases h
  | succ n ih =>
    intro μ m x2 h0 h7 h1 h2 hx h
    unfold fX10_readNote_59 at h
    obtain ⟨σ1, v2, e1, h⟩ := hy_bd_some h
    obtain ⟨q1, q2⟩ := hn_at h0 h1 (by omega) e1
    have q1 : σ1 = μ := q1
    rw [q1] at h
    rcases q2 with ⟨q2, q3, q4, q5⟩ | ⟨q2, q3⟩
    · rw [show v2 = 1 from q2] at h
      rw [if_neg (by decide)] at h
      have gd : (μ.2 5 - μ.2 7).toInt = (m : Int) := by
        rw [h0, h7, hn_ii (by omega) (by omega)]
        omega
      have step : ∀ y : Int32, (m + 1 ≤ 5 → y = hn_D (μ.1 17) b (m + 1)) → fX10_readNote_104 k7 (fX10_readNote_59 k7 n) μ y x1 = some o → ∃ (v : Nat) (τ : hy_S) (y : Int32), hn_P (μ.1 17) L 48 57 (b + m) v ∧ τ.2 5 = hv_i v ∧ hn_S 5 5 μ τ ∧ (v - b ≤ 5 → y = hn_D (μ.1 17) b (v - b)) ∧ hn_t59 k7 x1 y τ = some o := by
        intro y hy h
        unfold fX10_readNote_104 at h
        obtain ⟨τ, eτ, h⟩ := hy_pf_some h
        rw [h0, hn_i1 (by omega)] at eτ
        obtain ⟨v, τ2, y2, w1, w2, w3, w4, w5⟩ := ih τ (m + 1) y (by rw [eτ]; rfl) (by rw [eτ]; exact h7) (by rw [eτ]; exact h1) (by omega) (by rw [eτ]; exact hy) h
        rw [eτ] at w1 w3 w4
        exact ⟨v, τ2, y2, hn_P1 w1 q3 q4 q5, w2, hn_St hn_Si w3, w4, w5⟩
      by_cases c : 5 ≤ μ.2 5 - μ.2 7
      · rw [if_pos c] at h
        have c1 : (5 : Int) ≤ (μ.2 5 - μ.2 7).toInt := hi_le.mp c
        exact step x2 (fun z => absurd z (by omega)) h
      · rw [if_neg c] at h
        have c1 : ¬ (5 : Int) ≤ (μ.2 5 - μ.2 7).toInt := hi_nle c
        obtain ⟨_, v11, e11, h⟩ := hy_ga_some h
        rw [h0, hv_iN (by omega)] at e11
        refine step _ (fun _ => ?_) h
        show _ = hn_D (μ.1 17) b m * 10 + (μ.1 17 (b + m) - 48)
        rw [← hx (by omega), ← e11, Int32.mul_comm, Int32.sub_eq_add_neg, Int32.sub_eq_add_neg, Int32.add_assoc]
    · rw [show v2 = 0 from q2] at h
      rw [if_pos rfl] at h
      refine ⟨b + m, μ, x2, hn_P0 q3, h0, hn_S0, fun z => ?_, h⟩
      rw [show b + m - b = m by omega] at z ⊢
      exact hx z
theorem hn_dg {σ : hy_S} {a b : Nat} (b400 : b ≤ 400) : ∀ (n m : Nat) (x3 : Int32) (o : hy_S × Int32), a + m ≤ b → x3 = hn_D (σ.1 0) a m → fX7_digitsFrom_5 n σ (hv_i b) x3 (hv_i (a + m)) = some o → o = (σ, hn_D (σ.1 0) a (b - a)) := by
  intro n
  induction n with
  | zero => intro m x3 o h0 h1 h; cases h
  | succ n ih =>
    intro m x3 o h0 h1 h
    have ea := hv_ii (r := a + m) (by omega)
    have eb := hv_ii (r := b) (by omega)
    unfold fX7_digitsFrom_5 at h
    by_cases c : hv_i b ≤ hv_i (a + m)
    · rw [if_pos c] at h
      have c1 : (hv_i b).toInt ≤ (hv_i (a + m)).toInt := hi_le.mp c
      rw [← Option.some.inj h, h1, show b - a = m by omega]
    · rw [if_neg c] at h
      have c1 := hi_nle c
      obtain ⟨_, v2, e2, h⟩ := hy_ga_some h
      rw [hv_iN (by omega)] at e2
      rw [hn_i1 (by omega)] at h
      refine ih (m + 1) _ o (by omega) ?_ h
      show _ = hn_D (σ.1 0) a m * 10 + (σ.1 0 (a + m) - 48)
      rw [h1, e2]
/-- the word of a number stands from a to b -/
noncomputable def hn_W (t : Nat → Int32) (w a b : Nat) : Prop := (b : Int) - (a : Int) = ((hy_sl.getD w 0 : Nat) : Int) ∧ ∀ i, i < hy_sl.getD w 0 → t (a + i) = hy_chr w (hv_i i)
theorem hn_rd15 {σ : hy_S} {a b w : Nat} (b400 : b ≤ 400) {x3 : Int32} (hw : x3.toNatClampNeg = w) : ∀ (n i : Nat) (o : hy_S × Int32), a + i ≤ b → fX7_reads_15 n σ (hv_i a) (hv_i b) x3 (hv_i (a + i)) = some o → o.1 = σ ∧ ((o.2 = 1 ∧ ∀ j, i ≤ j → a + j < b → σ.1 0 (a + j) = hy_chr w (hv_i j)) ∨ (o.2 = 0 ∧ ∃ j, i ≤ j ∧ a + j < b ∧ ¬ σ.1 0 (a + j) = hy_chr w (hv_i j))) := by
  intro n
  induction n with
  | zero => intro i o h0 h; cases h
  | succ n ih =>
    intro i o h0 h
    have ea := hv_ii (r := a + i) (by omega)
    have eb := hv_ii (r := b) (by omega)
    unfold fX7_reads_15 at h
    by_cases c : hv_i b ≤ hv_i (a + i)
    · rw [if_pos c] at h
      have c1 : (hv_i b).toInt ≤ (hv_i (a + i)).toInt := hi_le.mp c
      exact ⟨(hi_pr h).1, Or.inl ⟨(hi_pr h).2, fun j j1 j2 => absurd j2 (by omega)⟩⟩
    · rw [if_neg c] at h
      have c1 := hi_nle c
      obtain ⟨_, v2, e2, h⟩ := hy_ga_some h
      rw [hv_iN (by omega)] at e2
      obtain ⟨_, h⟩ := hy_ck_some h
      have ed : hv_i (a + i) - hv_i a = hv_i i := Int32.toInt_inj.mp (by
        rw [hn_ii (by omega) (by omega), hv_ii (by omega)]
        omega)
      rw [ed, hw] at h
      by_cases d : v2 = hy_chr w (hv_i i)
      · rw [if_pos d] at h
        rw [hn_i1 (by omega)] at h
        obtain ⟨q1, q2⟩ := ih (i + 1) o (by omega) h
        refine ⟨q1, ?_⟩
        rcases q2 with ⟨q2, q3⟩ | ⟨q2, j, j1, j2, j3⟩
        · refine Or.inl ⟨q2, fun j j1 j2 => ?_⟩
          by_cases e : j = i
          · rw [e, ← e2]
            exact d
          · exact q3 j (by omega) j2
        · exact Or.inr ⟨q2, j, by omega, j2, j3⟩
      · rw [if_neg d] at h
        refine ⟨(hi_pr h).1, Or.inr ⟨(hi_pr h).2, i, Nat.le_refl _, by omega, ?_⟩⟩
        rw [← e2]
        exact d
theorem hn_rds {σ : hy_S} {a b w : Nat} (ab : a ≤ b) (b400 : b ≤ 400) {x3 : Int32} (hw : x3.toNatClampNeg = w) (w5 : w < 5) {o : hy_S × Int32} (h : fX7_reads σ (hv_i a) (hv_i b) x3 = some o) : o.1 = σ ∧ ((o.2 = 1 ∧ hn_W (σ.1 0) w a b) ∨ (o.2 = 0 ∧ ¬ hn_W (σ.1 0) w a b)) := by
  unfold fX7_reads at h
  obtain ⟨_, h⟩ := hy_ck_some h
  rw [hw] at h
  have el := hs_len w w5
  by_cases c : hv_i b - hv_i a = hy_len w
  · rw [if_pos c] at h
    have c1 : (b : Int) - (a : Int) = ((hy_sl.getD w 0 : Nat) : Int) := by
      rw [← hn_ii (a := b) (b := a) (by omega) (by omega), c]
      exact el
    obtain ⟨q1, q2⟩ := hn_rd15 (a := a) b400 hw hy_fu 0 o (by omega) h
    refine ⟨q1, ?_⟩
    rcases q2 with ⟨q2, q3⟩ | ⟨q2, j, j1, j2, j3⟩
    · exact Or.inl ⟨q2, c1, fun i hi => q3 i (Nat.zero_le _) (by omega)⟩
    · exact Or.inr ⟨q2, fun z => j3 (z.2 j (by omega))⟩
  · rw [if_neg c] at h
    refine ⟨(hi_pr h).1, Or.inr ⟨(hi_pr h).2, fun z => c (Int32.toInt_inj.mp ?_)⟩⟩
    rw [hn_ii (by omega) (by omega), z.1]
    exact el.symm
theorem hn_iw24 {μ : hy_S} {a w : Nat} (a400 : a ≤ 400) (h7 : μ.2 7 = hv_i a) (w5 : w < 5) {x1 : Int32} (hw : x1.toNatClampNeg = w) : ∀ (n i : Nat) (o : hy_S × Int32), i ≤ hy_sl.getD w 0 → fX10_isWord_24 n μ x1 1 (hv_i i) = some o → o.1 = μ ∧ ((o.2 = 1 ∧ ∀ j, i ≤ j → j < hy_sl.getD w 0 → μ.1 17 (a + j) = hy_chr w (hv_i j)) ∨ (o.2 = 0 ∧ ∃ j, i ≤ j ∧ j < hy_sl.getD w 0 ∧ ¬ μ.1 17 (a + j) = hy_chr w (hv_i j))) := by
  have el := hs_len w w5
  have l5 := hs_sl5 w w5
  intro n
  induction n with
  | zero => intro i o h0 h; cases h
  | succ n ih =>
    intro i o h0 h
    have ei := hv_ii (r := i) (by omega)
    unfold fX10_isWord_24 at h
    rw [if_neg (by decide)] at h
    obtain ⟨_, h⟩ := hy_ck_some h
    rw [hw] at h
    by_cases c : hy_len w ≤ hv_i i
    · rw [if_pos c] at h
      have c1 : (hy_len w).toInt ≤ (hv_i i).toInt := hi_le.mp c
      unfold fX10_isWord_67 at h
      obtain ⟨_, h⟩ := hy_ck_some h
      exact ⟨(hi_pr h).1, Or.inl ⟨(hi_pr h).2, fun j j1 j2 => absurd j2 (by omega)⟩⟩
    · rw [if_neg c] at h
      have c1 := hi_nle c
      obtain ⟨_, v4, e4, h⟩ := hy_ga_some h
      have gn : (μ.2 7 + hv_i i).toNatClampNeg = a + i := by
        have ea := hv_ii (r := a) (by omega)
        have g : (hv_i a + hv_i i).toInt = (a : Int) + (i : Int) := by rw [hs_add (by omega) (by omega), ea, ei]
        have := hs_tn (x := hv_i a + hv_i i) (by rw [g]; omega)
        rw [g] at this
        rw [h7]
        omega
      rw [gn] at e4
      obtain ⟨_, h⟩ := hy_ck_some h
      by_cases d : v4 = hy_chr w (hv_i i)
      · rw [if_pos d] at h
        unfold fX10_isWord_60 at h
        rw [hn_i1 (by omega)] at h
        obtain ⟨q1, q2⟩ := ih (i + 1) o (by omega) h
        refine ⟨q1, ?_⟩
        rcases q2 with ⟨q2, q3⟩ | ⟨q2, j, j1, j2, j3⟩
        · refine Or.inl ⟨q2, fun j j1 j2 => ?_⟩
          by_cases e : j = i
          · rw [e, ← e4]
            exact d
          · exact q3 j (by omega) j2
        · exact Or.inr ⟨q2, j, by omega, j2, j3⟩
      · rw [if_neg d] at h
        unfold fX10_isWord_60 at h
        cases n with
        | zero => cases h
        | succ n =>
          unfold fX10_isWord_24 at h
          rw [if_pos rfl] at h
          unfold fX10_isWord_67 at h
          obtain ⟨_, h⟩ := hy_ck_some h
          refine ⟨(hi_pr h).1, Or.inr ⟨(hi_pr h).2, i, Nat.le_refl _, by omega, ?_⟩⟩
          rw [← e4]
          exact d
theorem hn_iw {μ : hy_S} {a b w : Nat} (ab : a ≤ b) (b400 : b ≤ 400) (h7 : μ.2 7 = hv_i a) (h5 : μ.2 5 = hv_i b) {x1 : Int32} (hw : x1.toNatClampNeg = w) (w5 : w < 5) {o : hy_S × Int32} (h : fX10_isWord μ x1 = some o) : o.1 = μ ∧ ((o.2 = 1 ∧ hn_W (μ.1 17) w a b) ∨ (o.2 = 0 ∧ ¬ hn_W (μ.1 17) w a b)) := by
  unfold fX10_isWord at h
  obtain ⟨_, h⟩ := hy_ck_some h
  rw [hw, h5, h7] at h
  have el := hs_len w w5
  by_cases c : hv_i b - hv_i a = hy_len w
  · rw [if_pos c] at h
    have c1 : (b : Int) - (a : Int) = ((hy_sl.getD w 0 : Nat) : Int) := by
      rw [← hn_ii (a := b) (b := a) (by omega) (by omega), c]
      exact el
    unfold fX10_isWord_21 at h
    obtain ⟨q1, q2⟩ := hn_iw24 (a := a) (by omega) h7 w5 hw hy_fu 0 o (Nat.zero_le _) h
    refine ⟨q1, ?_⟩
    rcases q2 with ⟨q2, q3⟩ | ⟨q2, j, j1, j2, j3⟩
    · exact Or.inl ⟨q2, c1, fun i hi => q3 i (Nat.zero_le _) hi⟩
    · exact Or.inr ⟨q2, fun z => j3 (z.2 j j2)⟩
  · rw [if_neg c] at h
    unfold fX10_isWord_21 at h
    have h : fX10_isWord_24 (4999 + 1) μ x1 0 0 = some o := h
    unfold fX10_isWord_24 at h
    rw [if_pos rfl] at h
    unfold fX10_isWord_67 at h
    obtain ⟨_, h⟩ := hy_ck_some h
    refine ⟨(hi_pr h).1, Or.inr ⟨(hi_pr h).2, fun z => c (Int32.toInt_inj.mp ?_)⟩⟩
    rw [hn_ii (by omega) (by omega), z.1]
    exact el.symm
