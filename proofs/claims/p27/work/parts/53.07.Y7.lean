/-! The reference's rounds. -/
theorem hg_Pw {e : Nat → Nat → Int → Prop} (he : ∀ a b w, e a b w → a < 13 ∧ b < 13) {G S : Nat → Int32} {n : Nat} (hG : ∀ a b, a < 13 → b < 13 → hg_X hg_V (G (13 * a + b)).toInt (hg_W e n a b)) (hS : ∀ a b, a < 13 → b < 13 → hg_X hg_V (S (13 * a + b)).toInt (e a b)) {a b : Nat} (a13 : a < 13) (b13 : b < 13) {v : Int} (h : hg_X hg_V v (hg_P G S 13 a b)) : hg_X hg_V v (hg_W e (n + 1) a b) := by
  have up : ∀ x, hg_W e (n + 1) a b x → ∃ y, x ≤ y ∧ hg_P G S 13 a b y := by
    intro x ⟨k, w, k1, k2⟩
    have k13 := (he _ _ _ k2).1
    rcases hG a k a13 k13 with ⟨_, x2⟩ | ⟨x1, x2, x3⟩
    · exact absurd k1 (x2 _)
    · rcases hS k b k13 b13 with ⟨_, y2⟩ | ⟨y1, y2, y3⟩
      · exact absurd k2 (y2 _)
      · have := x3 _ k1
        have := y3 _ k2
        exact ⟨_, by omega, k, k13, x1, y1, rfl⟩
  rcases h with ⟨h1, h2⟩ | ⟨h1, ⟨j, j13, j1, j2, j3⟩, h3⟩
  · refine Or.inl ⟨h1, fun x hx => ?_⟩
    obtain ⟨y, _, y2⟩ := up x hx
    exact h2 y y2
  · refine Or.inr ⟨h1, ?_, fun x hx => ?_⟩
    · rcases hG a j a13 j13 with ⟨x1, _⟩ | ⟨x1, x2, x3⟩
      · exact absurd x1 j1
      · rcases hS j b j13 b13 with ⟨y1, _⟩ | ⟨y1, y2, y3⟩
        · exact absurd y1 j2
        · refine ⟨j, _, ?_, y2⟩
          rw [j3, show ∀ p q : Int, p + q - q = p from fun p q => by omega]
          exact x2
    · obtain ⟨y, y1, y2⟩ := up x hx
      have := h3 y y2
      omega
theorem hg_n51 {k34 : hy_S → Int32 → Option (hy_S × Int32)} {k42 : hy_S → Int32 → Int32 → Option (hy_S × Int32)} {x2 : Int32} {a : Nat} (a13 : a < 13) {o : hy_S × Int32} {G S : Nat → Int32} {K : Nat} (K20 : K ≤ 20) (hG : hg_mb G K) (hS : hg_mb S 1) : ∀ (u : Nat) (σ : hy_S) (b : Nat), σ.1 29 = G → σ.1 28 = S → b ≤ 13 → (∀ c, c < b → hg_X hg_V (σ.1 30 (13 * a + c)).toInt (hg_P G S 13 a c)) → fX10_round_51 k34 k42 u σ x2 (hv_i a) (hv_i b) = some o → ∃ τ, hg_G 30 30 σ τ ∧ (∀ c, c < 13 → hg_X hg_V (τ.1 30 (13 * a + c)).toInt (hg_P G S 13 a c)) ∧ (∀ d c, ¬ d = a → c < 13 → τ.1 30 (13 * d + c) = σ.1 30 (13 * d + c)) ∧ k42 τ x2 (hv_i (a + 1)) = some o := by
  intro u
  induction u with
  | zero => intro σ b h29 h28 hb hX h; cases h
  | succ u ih =>
    intro σ b h29 h28 hb hX h
    have V : hg_V = -100000000 := rfl
    have eb := hv_ii (r := b) (by omega)
    unfold fX10_round_51 at h
    by_cases c : 13 ≤ hv_i b
    · rw [if_pos c] at h
      have c1 : (13 : Int) ≤ (hv_i b).toInt := hi_le.mp c
      rw [hn_i1' (by omega)] at h
      exact ⟨σ, hg_G0, fun d hd => hX d (by omega), fun _ _ _ _ => rfl, h⟩
    · rw [if_neg c] at h
      have c1 : ¬ (13 : Int) ≤ (hv_i b).toInt := hi_nle c
      obtain ⟨y, y1, h⟩ := hg_n65 a13 (show b < 13 by omega) (σ := σ) K20 (by rw [h29]; exact hG) (by rw [h28]; exact hS) hy_fu 0 (-100000000) (by omega) (Or.inl ⟨rfl, fun x ⟨j, j1, _⟩ => absurd j1 (Nat.not_lt_zero _)⟩) h
      rw [h29, h28] at y1
      obtain ⟨τ, t1, t2, t3, t4⟩ := ih (hy_sc σ 30 (upd (σ.1 30) (13 * a + b) y)) (b + 1) h29 h28 (by omega) (by
        intro d hd
        show hg_X hg_V (upd (σ.1 30) (13 * a + b) y (13 * a + d)).toInt _
        by_cases ed : d = b
        · rw [ed, hs_upds]
          exact y1
        · rw [hs_upd (by omega)]
          exact hX d (by omega)) h
      refine ⟨τ, hg_Gt hg_Gl t1, t2, fun d q hd hq => ?_, t4⟩
      rw [t3 d q hd hq]
      show upd (σ.1 30) (13 * a + b) y (13 * d + q) = σ.1 30 (13 * d + q)
      rw [hs_upd (fun z => hd (hg_ij hq (by omega) z).1)]
theorem hg_n42 {k34 : hy_S → Int32 → Option (hy_S × Int32)} {x2 : Int32} {o : hy_S × Int32} {G S : Nat → Int32} {K : Nat} (K20 : K ≤ 20) (hG : hg_mb G K) (hS : hg_mb S 1) : ∀ (u : Nat) (σ : hy_S) (a : Nat), σ.1 29 = G → σ.1 28 = S → a ≤ 13 → (∀ d c, d < a → c < 13 → hg_X hg_V (σ.1 30 (13 * d + c)).toInt (hg_P G S 13 d c)) → fX10_round_42 k34 u σ x2 (hv_i a) = some o → ∃ τ, hg_G 30 30 σ τ ∧ (∀ d c, d < 13 → c < 13 → hg_X hg_V (τ.1 30 (13 * d + c)).toInt (hg_P G S 13 d c)) ∧ fX10_round_174 k34 hy_fu τ x2 0 = some o := by
  intro u
  induction u with
  | zero => intro σ a h29 h28 ha hX h; cases h
  | succ u ih =>
    intro σ a h29 h28 ha hX h
    have V : hg_V = -100000000 := rfl
    have ea := hv_ii (r := a) (by omega)
    unfold fX10_round_42 at h
    by_cases c : 13 ≤ hv_i a
    · rw [if_pos c] at h
      have c1 : (13 : Int) ≤ (hv_i a).toInt := hi_le.mp c
      exact ⟨σ, hg_G0, fun d q hd hq => hX d q (by omega) hq, h⟩
    · rw [if_neg c] at h
      have c1 : ¬ (13 : Int) ≤ (hv_i a).toInt := hi_nle c
      obtain ⟨τ, t1, t2, t3, h⟩ := hg_n51 (show a < 13 by omega) K20 hG hS hy_fu σ 0 h29 h28 (by omega) (fun c hc => absurd hc (Nat.not_lt_zero _)) h
      obtain ⟨τ2, s1, s2, s3⟩ := ih τ (a + 1) (by rw [t1.1 29 (by decide) (by decide)]; exact h29) (by rw [t1.1 28 (by decide) (by decide)]; exact h28) (by omega) (by
        intro d q hd hq
        by_cases ed : d = a
        · rw [ed]
          exact t2 q hq
        · rw [t3 d q ed hq]
          exact hX d q (by omega) hq) h
      exact ⟨τ2, hg_Gt t1 s1, s2, s3⟩
theorem hg_n174 {k34 : hy_S → Int32 → Option (hy_S × Int32)} {x2 : Int32} {o : hy_S × Int32} : ∀ (u : Nat) (σ : hy_S) (i : Nat), i ≤ 169 → (∀ k, k < i → σ.1 29 k = σ.1 30 k) → fX10_round_174 k34 u σ x2 (hv_i i) = some o → ∃ τ, hg_G 29 29 σ τ ∧ (∀ k, k < 169 → τ.1 29 k = σ.1 30 k) ∧ fX10_round_201 k34 hy_fu τ x2 0 = some o := by
  intro u
  induction u with
  | zero => intro σ i hi hv h; cases h
  | succ u ih =>
    intro σ i hi hv h
    have V : hg_V = -100000000 := rfl
    have ei := hv_ii (r := i) (by omega)
    unfold fX10_round_174 at h
    by_cases c : 169 ≤ hv_i i
    · rw [if_pos c] at h
      have c1 : (169 : Int) ≤ (hv_i i).toInt := hi_le.mp c
      exact ⟨σ, hg_G0, fun k hk => hv k (by omega), h⟩
    · rw [if_neg c] at h
      have c1 : ¬ (169 : Int) ≤ (hv_i i).toInt := hi_nle c
      obtain ⟨_, v2, e2, h⟩ := hy_ga_some h
      rw [hv_iN (by omega)] at e2
      obtain ⟨_, τ, e, h⟩ := hy_pa_some h
      rw [hv_iN (by omega)] at e
      rw [hn_i1' (by omega)] at h
      obtain ⟨τ2, q1, q2, q3⟩ := ih τ (i + 1) (by omega) (by
        intro k hk
        rw [e]
        show upd (σ.1 29) i v2 k = σ.1 30 k
        by_cases ek : k = i
        · rw [ek, hs_upds, e2]
        · rw [hs_upd ek]
          exact hv k (by omega)) h
      rw [e] at q1 q2
      exact ⟨τ2, hg_Gt hg_Gl q1, q2, q3⟩
theorem hg_n201 {k34 : hy_S → Int32 → Option (hy_S × Int32)} {x2 : Int32} {σ : hy_S} {o : hy_S × Int32} : ∀ (u a : Nat), a ≤ 13 → fX10_round_201 k34 u σ x2 (hv_i a) = some o → (∃ d, d < 13 ∧ 0 < (σ.1 29 (13 * d + d)).toInt ∧ o = (σ, x2)) ∨ ((∀ d, a ≤ d → d < 13 → ¬ 0 < (σ.1 29 (13 * d + d)).toInt) ∧ k34 σ (x2 + 1) = some o) := by
  intro u
  induction u with
  | zero => intro a ha h; cases h
  | succ u ih =>
    intro a ha h
    have V : hg_V = -100000000 := rfl
    have ea := hv_ii (r := a) (by omega)
    unfold fX10_round_201 at h
    by_cases c : 13 ≤ hv_i a
    · rw [if_pos c] at h
      have c1 : (13 : Int) ≤ (hv_i a).toInt := hi_le.mp c
      exact Or.inr ⟨fun d d1 d2 => absurd d2 (by omega), h⟩
    · rw [if_neg c] at h
      have c1 : ¬ (13 : Int) ≤ (hv_i a).toInt := hi_nle c
      obtain ⟨_, v2, e2, h⟩ := hy_ga_some h
      rw [hg_ix (show a < 13 by omega) (show a < 13 by omega)] at e2
      by_cases d : v2 ≤ 0
      · rw [if_pos d] at h
        have d1 : v2.toInt ≤ 0 := hi_le.mp d
        rw [hn_i1' (by omega)] at h
        rcases ih (a + 1) (by omega) h with z | ⟨z1, z2⟩
        · exact Or.inl z
        · refine Or.inr ⟨fun q q1 q2 => ?_, z2⟩
          by_cases eq : q = a
          · rw [eq, ← e2]
            omega
          · exact z1 q (by omega) q2
      · rw [if_neg d] at h
        have d1 : ¬ v2.toInt ≤ 0 := hi_nle d
        exact Or.inl ⟨a, by omega, by rw [← e2]; omega, (Option.some.inj h).symm⟩
theorem hg_n34 {e : Nat → Nat → Int → Prop} (he : ∀ a b w, e a b w → a < 13 ∧ b < 13) : ∀ (u : Nat) (σ : hy_S) (r : Nat) (o : hy_S × Int32), 1 ≤ r → r ≤ 13 → hg_mb (σ.1 28) 1 → hg_mb (σ.1 29) r → (∀ a b, a < 13 → b < 13 → hg_X hg_V (σ.1 28 (13 * a + b)).toInt (e a b)) → (∀ a b, a < 13 → b < 13 → hg_X hg_V (σ.1 29 (13 * a + b)).toInt (hg_W e r a b)) → (∀ k p, 1 ≤ k → k ≤ r → p < 13 → ¬ hg_ring e k p) → fX10_round_34 u σ (hv_i (r + 1)) = some o → hg_G 29 30 σ o.1 ∧ ((o.2 = 0 ∧ ∀ k p, 1 ≤ k → k ≤ 13 → p < 13 → ¬ hg_ring e k p) ∨ ∃ s p, o.2 = hv_i s ∧ 2 ≤ s ∧ s ≤ 13 ∧ p < 13 ∧ hg_ring e s p ∧ ∀ k p, 1 ≤ k → k < s → p < 13 → ¬ hg_ring e k p) := by
  intro u
  induction u with
  | zero => intro σ r o r1 r13 b28 b29 hS hG hr h; cases h
  | succ u ih =>
    intro σ r o r1 r13 b28 b29 hS hG hr h
    have V : hg_V = -100000000 := rfl
    have er := hv_ii (r := r + 1) (by omega)
    unfold fX10_round_34 at h
    by_cases c : 13 < hv_i (r + 1)
    · rw [if_pos c] at h
      have c1 : (13 : Int) < (hv_i (r + 1)).toInt := Int32.lt_iff_toInt_lt.mp c
      obtain ⟨s1, s2⟩ := hi_pr h
      rw [s1, s2]
      exact ⟨hg_G0, Or.inl ⟨rfl, fun k p k1 k2 => hr k p k1 (by omega)⟩⟩
    · rw [if_neg c] at h
      have c1 : ¬ (13 : Int) < (hv_i (r + 1)).toInt := hi_nlt c
      obtain ⟨τ, t1, t2, h⟩ := hg_n42 (K := r) (by omega) b29 b28 hy_fu σ 0 rfl rfl (by omega) (fun d c hd => absurd hd (Nat.not_lt_zero _)) h
      obtain ⟨ω, w1, w2, h⟩ := hg_n174 hy_fu τ 0 (by omega) (fun k hk => absurd hk (Nat.not_lt_zero _)) h
      have gσ : hg_G 29 30 σ ω := ⟨fun k k1 k2 => (w1.1 k k1 k1).trans (t1.1 k k2 k2), w1.2.trans t1.2⟩
      have k28 : ω.1 28 = σ.1 28 := gσ.1 28 (by decide) (by decide)
      have X : ∀ a b, a < 13 → b < 13 → hg_X hg_V (ω.1 29 (13 * a + b)).toInt (hg_W e (r + 1) a b) := by
        intro a b ha hb
        rw [w2 _ (by omega)]
        exact hg_Pw he hG hS ha hb (t2 a b ha hb)
      have B : hg_mb (ω.1 29) (r + 1) := by
        intro a b ha hb
        rw [w2 _ (by omega)]
        rcases t2 a b ha hb with z | ⟨_, ⟨j, j13, j1, j2, j3⟩, _⟩
        · exact Or.inl z.1
        · rcases b29 a j ha j13 with y | y
          · exact absurd y j1
          · rcases b28 j b j13 hb with x | x
            · exact absurd x j2
            · exact Or.inr ⟨by omega, by omega⟩
      rcases hg_n201 hy_fu 0 (by omega) h with ⟨d, d13, d1, d2⟩ | ⟨d1, h⟩
      · rw [d2]
        refine ⟨gσ, Or.inr ⟨r + 1, d, rfl, by omega, by omega, d13, ?_, fun k p k1 k2 => hr k p k1 (by omega)⟩⟩
        rcases X d d d13 d13 with ⟨x1, x2⟩ | ⟨x1, x2, x3⟩
        · exfalso
          omega
        · exact ⟨_, d1, x2⟩
      · rw [hn_i1' (by omega)] at h
        obtain ⟨q1, q2⟩ := ih ω (r + 1) o (by omega) (by omega) (by rw [k28]; exact b28) B (by rw [k28]; exact hS) X (by
          intro k p k1 k2 hp ⟨x, x0, x1⟩
          by_cases ek : k = r + 1
          · rw [ek] at x1
            rcases X p p hp hp with ⟨y1, y2⟩ | ⟨y1, y2, y3⟩
            · exact y2 x x1
            · have := y3 x x1
              exact d1 p (Nat.zero_le _) hp (by omega)
          · exact hr k p k1 (by omega) hp ⟨x, x0, x1⟩) h
        exact ⟨hg_Gt gσ q1, q2⟩
theorem hg_n7 {o : hy_S × Int32} : ∀ (u : Nat) (σ : hy_S) (i : Nat), i ≤ 169 → (∀ k, k < i → σ.1 29 k = σ.1 28 k) → fX10_round_7 u σ (hv_i i) = some o → ∃ τ, hg_G 29 29 σ τ ∧ (∀ k, k < 169 → τ.1 29 k = σ.1 28 k) ∧ fX10_round_34 hy_fu τ 2 = some o := by
  intro u
  induction u with
  | zero => intro σ i hi hv h; cases h
  | succ u ih =>
    intro σ i hi hv h
    have V : hg_V = -100000000 := rfl
    have ei := hv_ii (r := i) (by omega)
    unfold fX10_round_7 at h
    by_cases c : 169 ≤ hv_i i
    · rw [if_pos c] at h
      have c1 : (169 : Int) ≤ (hv_i i).toInt := hi_le.mp c
      exact ⟨σ, hg_G0, fun k hk => hv k (by omega), h⟩
    · rw [if_neg c] at h
      have c1 : ¬ (169 : Int) ≤ (hv_i i).toInt := hi_nle c
      obtain ⟨_, v2, e2, h⟩ := hy_ga_some h
      rw [hv_iN (by omega)] at e2
      obtain ⟨_, τ, e, h⟩ := hy_pa_some h
      rw [hv_iN (by omega)] at e
      rw [hn_i1' (by omega)] at h
      obtain ⟨τ2, q1, q2, q3⟩ := ih τ (i + 1) (by omega) (by
        intro k hk
        rw [e]
        show upd (σ.1 29) i v2 k = σ.1 28 k
        by_cases ek : k = i
        · rw [ek, hs_upds, e2]
        · rw [hs_upd ek]
          exact hv k (by omega)) h
      rw [e] at q1 q2
      exact ⟨τ2, hg_Gt hg_Gl q1, q2, q3⟩
theorem hg_EM13 {μ : hy_S} {n : Nat} (hT : hg_T μ n) {d : Int} : ∀ a b w, hg_EM μ n d a b w → a < 13 ∧ b < 13 ∧ ¬ a = b ∧ -1000 ≤ w ∧ w ≤ 1000 := by
  intro a b w ⟨i, i1, _, i3, i4, i5⟩
  obtain ⟨⟨p, p1, p2⟩, ⟨q, q1, q2⟩, ne, y0, y1⟩ := hT.2.2.1 i i1
  rw [p2, hv_iN (by omega)] at i3
  rw [q2, hv_iN (by omega)] at i4
  rw [i5] at y0 y1
  refine ⟨by omega, by omega, fun z => ne ?_, y0, y1⟩
  rw [p2, q2, i3, i4, z]
theorem hg_round {μ : hy_S} {n : Nat} (hT : hg_T μ n) {x1 : Int32} {o : hy_S × Int32} (h : fX10_round μ x1 = some o) : (∀ k, ¬ k = 28 → ¬ k = 29 → ¬ k = 30 → o.1.1 k = μ.1 k) ∧ o.1.2 = μ.2 ∧ (∀ a b, a < 13 → b < 13 → hg_X hg_V (o.1.1 28 (13 * a + b)).toInt (hg_EM μ n x1.toInt a b)) ∧ ((o.2 = 0 ∧ ∀ k p, 1 ≤ k → k ≤ 13 → p < 13 → ¬ hg_ring (hg_EM μ n x1.toInt) k p) ∨ ∃ s p, o.2 = hv_i s ∧ 2 ≤ s ∧ s ≤ 13 ∧ p < 13 ∧ hg_ring (hg_EM μ n x1.toInt) s p ∧ ∀ k p, 1 ≤ k → k < s → p < 13 → ¬ hg_ring (hg_EM μ n x1.toInt) k p) := by
  unfold fX10_round at h
  obtain ⟨σ1, v2, e1, h⟩ := hy_bd_some h
  obtain ⟨g1, X1⟩ := hg_steps hT e1
  have g1 : hg_G 28 28 μ σ1 := g1
  have X1 : ∀ a b, a < 13 → b < 13 → hg_X hg_V (σ1.1 28 (13 * a + b)).toInt (hg_EM μ n x1.toInt a b) := X1
  have E13 := hg_EM13 hT (d := x1.toInt)
  have B1 : hg_mb (σ1.1 28) 1 := by
    intro a b ha hb
    rcases X1 a b ha hb with z | ⟨_, z, _⟩
    · exact Or.inl z.1
    · obtain ⟨_, _, _, y0, y1⟩ := E13 _ _ _ z
      exact Or.inr ⟨by omega, by omega⟩
  obtain ⟨τ, t1, t2, h⟩ := hg_n7 hy_fu σ1 0 (by omega) (fun k hk => absurd hk (Nat.not_lt_zero _)) h
  have k28 : τ.1 28 = σ1.1 28 := t1.1 28 (by decide) (by decide)
  obtain ⟨q1, q2⟩ := hg_n34 (e := hg_EM μ n x1.toInt) (fun a b w z => ⟨(E13 a b w z).1, (E13 a b w z).2.1⟩) hy_fu τ 1 o (by omega) (by omega) (by rw [k28]; exact B1) (by
    intro a b ha hb
    rw [t2 _ (by omega)]
    exact B1 a b ha hb) (by rw [k28]; exact X1) (by
    intro a b ha hb
    rw [t2 _ (by omega)]
    refine hg_Xeq (X1 a b ha hb) (fun x => ⟨fun z => ⟨a, x, ⟨rfl, by omega⟩, z⟩, fun ⟨m, w, ⟨y1, y2⟩, y3⟩ => ?_⟩)
    rw [← y1, show w = x by omega] at y3
    exact y3) (by
    intro k p k1 k2 hp hr
    have ek : k = 0 + 1 := by omega
    rw [ek] at hr
    obtain ⟨x, x0, hw⟩ := hr
    have hw : hg_W (hg_EM μ n x1.toInt) (0 + 1) p p x := hw
    obtain ⟨m, w, w1, w2⟩ := hw
    have w1 : hg_W (hg_EM μ n x1.toInt) 0 p m (x - w) := w1
    exact (E13 _ _ _ w2).2.2.1 w1.1.symm) h
  refine ⟨fun k z1 z2 z3 => ?_, ?_, ?_, q2⟩
  · rw [q1.1 k z2 z3, t1.1 k z2 z2]
    exact g1.1 k z1 z1
  · rw [q1.2, t1.2]
    exact g1.2
  · rw [q1.1 28 (by decide) (by decide), k28]
    exact X1
