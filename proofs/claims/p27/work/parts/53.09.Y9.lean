/-! The least and the greatest year: all ways closed up, on the reference's side. -/
noncomputable abbrev hg_M (f : Nat → Int32) (a b : Nat) : Int := (f (13 * a + b)).toInt
/-- one round over the point m -/
noncomputable def hg_w (F : Nat → Nat → Int) (m a b : Nat) : Int := if ¬ F a m = hg_V ∧ ¬ F m b = hg_V ∧ F a b < F a m + F m b then F a m + F m b else F a b
theorem hg_wm {F : Nat → Nat → Int} {m : Nat} (h : F m m = hg_V ∨ F m m ≤ 0) (a : Nat) : hg_w F m a m = F a m ∧ hg_w F m m a = F m a := by
  unfold hg_w
  constructor
  · rw [if_neg]
    intro z
    rcases h with h | h
    · exact z.2.1 h
    · omega
  · rw [if_neg]
    intro z
    rcases h with h | h
    · exact z.1 h
    · omega
theorem hg_n63 {k43 : hy_S → Int32 → Int32 → Int32 → Option (hy_S × Int32)} {k53 : hy_S → Int32 → Int32 → Int32 → Int32 → Option (hy_S × Int32)} {x1 x2 : Int32} {o : hy_S × Int32} {F : Nat → Nat → Int} {m a : Nat} (m13 : m < 13) (a13 : a < 13) {K : Int} (K0 : 0 ≤ K) (K9 : K ≤ 50000000) (hF : ∀ p q, p < 13 → q < 13 → F p q = hg_V ∨ (-K ≤ F p q ∧ F p q ≤ K)) (hmm : F m m = hg_V ∨ F m m ≤ 0) : ∀ (u : Nat) (σ : hy_S) (b : Nat), b ≤ 13 → (∀ p q, p < 13 → q < 13 → hg_M (σ.1 28) p q = if p < a ∨ (p = a ∧ q < b) then hg_w F m p q else F p q) → fX10_span_63 k43 k53 u σ x1 x2 (hv_i m) (hv_i a) (hv_i b) = some o → ∃ τ, hg_G 28 28 σ τ ∧ (∀ p q, p < 13 → q < 13 → hg_M (τ.1 28) p q = if p < a + 1 then hg_w F m p q else F p q) ∧ k53 τ x1 x2 (hv_i m) (hv_i (a + 1)) = some o := by
  intro u
  induction u with
  | zero => intro σ b hb hX h; cases h
  | succ u ih =>
    intro σ b hb hX h
    have V : hg_V = -100000000 := rfl
    have eb := hv_ii (r := b) (by omega)
    unfold fX10_span_63 at h
    by_cases c : 13 ≤ hv_i b
    · rw [if_pos c] at h
      have c1 : (13 : Int) ≤ (hv_i b).toInt := hi_le.mp c
      rw [hn_i1' (by omega)] at h
      refine ⟨σ, hg_G0, fun p q hp hq => ?_, h⟩
      rw [hX p q hp hq]
      by_cases z : p < a + 1
      · rw [if_pos z, if_pos (by omega)]
      · rw [if_neg z, if_neg (by omega)]
    · rw [if_neg c] at h
      have c1 : ¬ (13 : Int) ≤ (hv_i b).toInt := hi_nle c
      have b13 : b < 13 := by omega
      have ram : ∀ p, p < 13 → hg_M (σ.1 28) p m = F p m := by
        intro p hp
        rw [hX p m hp m13]
        split
        · exact (hg_wm hmm p).1
        · rfl
      have rmb : ∀ q, q < 13 → hg_M (σ.1 28) m q = F m q := by
        intro q hq
        rw [hX m q m13 hq]
        split
        · exact (hg_wm hmm q).2
        · rfl
      have rab : hg_M (σ.1 28) a b = F a b := by
        rw [hX a b a13 b13, if_neg (by omega)]
      have skip : hg_w F m a b = F a b → fX10_span_148 k43 k53 (fX10_span_63 k43 k53 u) σ x1 x2 (hv_i m) (hv_i a) (hv_i b) = some o → ∃ τ, hg_G 28 28 σ τ ∧ (∀ p q, p < 13 → q < 13 → hg_M (τ.1 28) p q = if p < a + 1 then hg_w F m p q else F p q) ∧ k53 τ x1 x2 (hv_i m) (hv_i (a + 1)) = some o := by
        intro z h
        unfold fX10_span_148 at h
        rw [hn_i1' (by omega)] at h
        refine ih σ (b + 1) (by omega) (fun p q hp hq => ?_) h
        rw [hX p q hp hq]
        by_cases y : p = a ∧ q = b
        · rw [y.1, y.2, if_neg (by omega), if_pos (by omega), z]
        · by_cases y2 : p < a ∨ (p = a ∧ q < b)
          · rw [if_pos y2, if_pos (by omega)]
          · rw [if_neg y2, if_neg (by omega)]
      obtain ⟨_, v2, e2, h⟩ := hy_ga_some h
      rw [hg_ix a13 m13] at e2
      obtain ⟨_, v5, e5, h⟩ := hy_ga_some h
      rw [hg_ix m13 b13] at e5
      have f2 : v2.toInt = F a m := by rw [e2]; exact ram a a13
      have f5 : v5.toInt = F m b := by rw [e5]; exact rmb b b13
      have g2 := hF a m a13 m13
      have g5 := hF m b m13 b13
      by_cases d : v2 ≤ -100000000
      · rw [if_pos d] at h
        have d1 : v2.toInt ≤ hg_V := hi_le.mp d
        refine skip ?_ h
        unfold hg_w
        rw [if_neg (fun z => z.1 (by omega))]
      · rw [if_neg d] at h
        have d1 : ¬ v2.toInt ≤ hg_V := hi_nle d
        by_cases f : v5 ≤ -100000000
        · rw [if_pos f] at h
          have f1 : v5.toInt ≤ hg_V := hi_le.mp f
          refine skip ?_ h
          unfold hg_w
          rw [if_neg (fun z => z.2.1 (by omega))]
        · rw [if_neg f] at h
          have f1 : ¬ v5.toInt ≤ hg_V := hi_nle f
          have ga : (v2 + v5).toInt = v2.toInt + v5.toInt := hs_add (by omega) (by omega)
          obtain ⟨_, v10, e10, h⟩ := hy_ga_some h
          rw [hg_ix a13 b13] at e10
          have f10 : v10.toInt = F a b := by rw [e10]; exact rab
          obtain ⟨_, τ, eτ, h⟩ := hy_pa_some h
          rw [hg_ix a13 b13] at eτ
          unfold fX10_span_148 at h
          rw [hn_i1' (by omega)] at h
          have nv : (if v10 < v2 + v5 then v2 + v5 else v10).toInt = hg_w F m a b := by
            unfold hg_w
            by_cases q : v10 < v2 + v5
            · have q1 := Int32.lt_iff_toInt_lt.mp q
              rw [if_pos q, if_pos ⟨by omega, by omega, by omega⟩]
              omega
            · have q1 := hi_nlt q
              rw [if_neg q, if_neg (fun z => by omega)]
              exact f10
          obtain ⟨ω, w1, w2, w3⟩ := ih τ (b + 1) (by omega) (by
            intro p q hp hq
            rw [eτ]
            show (upd (σ.1 28) (13 * a + b) _ (13 * p + q)).toInt = _
            by_cases y : p = a ∧ q = b
            · rw [y.1, y.2, hs_upds, nv, if_pos (Or.inr ⟨rfl, Nat.lt_succ_self b⟩)]
            · rw [hs_upd (fun z => y (hg_ij hq b13 z))]
              have := hX p q hp hq
              have this : (σ.1 28 (13 * p + q)).toInt = _ := this
              rw [this]
              by_cases y2 : p < a ∨ (p = a ∧ q < b)
              · rw [if_pos y2, if_pos (by omega)]
              · rw [if_neg y2, if_neg (by omega)]) h
          rw [eτ] at w1
          exact ⟨ω, hg_Gt hg_Gl w1, w2, w3⟩
theorem hg_n53 {k43 : hy_S → Int32 → Int32 → Int32 → Option (hy_S × Int32)} {x1 x2 : Int32} {o : hy_S × Int32} {F : Nat → Nat → Int} {m : Nat} (m13 : m < 13) {K : Int} (K0 : 0 ≤ K) (K9 : K ≤ 50000000) (hF : ∀ p q, p < 13 → q < 13 → F p q = hg_V ∨ (-K ≤ F p q ∧ F p q ≤ K)) (hmm : F m m = hg_V ∨ F m m ≤ 0) : ∀ (u : Nat) (σ : hy_S) (a : Nat), a ≤ 13 → (∀ p q, p < 13 → q < 13 → hg_M (σ.1 28) p q = if p < a then hg_w F m p q else F p q) → fX10_span_53 k43 u σ x1 x2 (hv_i m) (hv_i a) = some o → ∃ τ, hg_G 28 28 σ τ ∧ (∀ p q, p < 13 → q < 13 → hg_M (τ.1 28) p q = hg_w F m p q) ∧ k43 τ x1 x2 (hv_i (m + 1)) = some o := by
  intro u
  induction u with
  | zero => intro σ a ha hX h; cases h
  | succ u ih =>
    intro σ a ha hX h
    have V : hg_V = -100000000 := rfl
    have ea := hv_ii (r := a) (by omega)
    unfold fX10_span_53 at h
    by_cases c : 13 ≤ hv_i a
    · rw [if_pos c] at h
      have c1 : (13 : Int) ≤ (hv_i a).toInt := hi_le.mp c
      rw [hn_i1' (by omega)] at h
      refine ⟨σ, hg_G0, fun p q hp hq => ?_, h⟩
      rw [hX p q hp hq, if_pos (by omega)]
    · rw [if_neg c] at h
      have c1 : ¬ (13 : Int) ≤ (hv_i a).toInt := hi_nle c
      obtain ⟨τ, t1, t2, h⟩ := hg_n63 m13 (show a < 13 by omega) K0 K9 hF hmm hy_fu σ 0 (by omega) (by
        intro p q hp hq
        rw [hX p q hp hq]
        by_cases y : p < a
        · rw [if_pos y, if_pos (Or.inl y)]
        · rw [if_neg y, if_neg (by omega)]) h
      obtain ⟨ω, w1, w2, w3⟩ := ih τ (a + 1) (by omega) t2 h
      exact ⟨ω, hg_Gt t1 w1, w2, w3⟩
/-- what holds of the matrix when the points below m are done -/
noncomputable def hg_J (e : Nat → Nat → Int → Prop) (F : Nat → Nat → Int) (m : Nat) : Prop := (∀ p q, p < 13 → q < 13 → F p q = hg_V ∨ (-(1000 * 2 ^ m) ≤ F p q ∧ F p q ≤ 1000 * 2 ^ m)) ∧ (∀ p q, p < 13 → q < 13 → ¬ F p q = hg_V → ∃ n, 1 ≤ n ∧ hg_W e n p q (F p q)) ∧ (∀ p q w, e p q w → ¬ F p q = hg_V ∧ w ≤ F p q) ∧ (∀ c p q, c < m → p < 13 → q < 13 → ¬ F p c = hg_V → ¬ F c q = hg_V → ¬ F p q = hg_V ∧ F p c + F c q ≤ F p q)
theorem hg_Jw {e : Nat → Nat → Int → Prop} (he : ∀ a b w, e a b w → a < 13 ∧ b < 13) (hall : ∀ n p x, hg_W e n p p x → x ≤ 0) {F : Nat → Nat → Int} {m : Nat} (m13 : m < 13) (h : hg_J e F m) : hg_J e (hg_w F m) (m + 1) ∧ (F m m = hg_V ∨ F m m ≤ 0) := by
  have V : hg_V = -100000000 := rfl
  obtain ⟨h1, h2, h3, h4⟩ := h
  have p2 : (2 : Int) ^ (m + 1) = 2 ^ m * 2 := Int.pow_succ 2 m
  have pb : (1 : Int) ≤ 2 ^ m ∧ (2 : Int) ^ m ≤ 8192 := by
    rcases (show m = 0 ∨ m = 1 ∨ m = 2 ∨ m = 3 ∨ m = 4 ∨ m = 5 ∨ m = 6 ∨ m = 7 ∨ m = 8 ∨ m = 9 ∨ m = 10 ∨ m = 11 ∨ m = 12 by omega) with rfl | rfl | rfl | rfl | rfl | rfl | rfl | rfl | rfl | rfl | rfl | rfl | rfl <;> decide
  have hmm : F m m = hg_V ∨ F m m ≤ 0 := by
    by_cases z : F m m = hg_V
    · exact Or.inl z
    · obtain ⟨n, _, hn⟩ := h2 m m m13 m13 z
      exact Or.inr (hall n m _ hn)
  have up : ∀ p q, p < 13 → q < 13 → ¬ F p q = hg_V → ¬ hg_w F m p q = hg_V ∧ F p q ≤ hg_w F m p q := by
    intro p q hp hq z
    unfold hg_w
    by_cases c : ¬ F p m = hg_V ∧ ¬ F m q = hg_V ∧ F p q < F p m + F m q
    · rw [if_pos c]
      have a := h1 p m hp m13
      have b := h1 m q m13 hq
      exact ⟨by omega, by omega⟩
    · rw [if_neg c]
      exact ⟨z, Int.le_refl _⟩
  have via : ∀ p q, p < 13 → q < 13 → ¬ F p m = hg_V → ¬ F m q = hg_V → ¬ hg_w F m p q = hg_V ∧ F p m + F m q ≤ hg_w F m p q := by
    intro p q hp hq z1 z2
    have a := h1 p m hp m13
    have b := h1 m q m13 hq
    have d := h1 p q hp hq
    unfold hg_w
    by_cases c : F p q < F p m + F m q
    · rw [if_pos ⟨z1, z2, c⟩]
      exact ⟨by omega, Int.le_refl _⟩
    · rw [if_neg (fun z => c z.2.2)]
      exact ⟨by omega, by omega⟩
  have which : ∀ p q, p < 13 → q < 13 → ¬ hg_w F m p q = hg_V → (¬ F p q = hg_V ∧ hg_w F m p q = F p q) ∨ (¬ F p m = hg_V ∧ ¬ F m q = hg_V ∧ hg_w F m p q = F p m + F m q) := by
    intro p q hp hq z
    unfold hg_w at z ⊢
    by_cases c : ¬ F p m = hg_V ∧ ¬ F m q = hg_V ∧ F p q < F p m + F m q
    · rw [if_pos c]
      exact Or.inr ⟨c.1, c.2.1, rfl⟩
    · rw [if_neg c] at z ⊢
      exact Or.inl ⟨z, rfl⟩
  refine ⟨⟨fun p q hp hq => ?_, fun p q hp hq z => ?_, fun p q w hw => ?_, fun c p q hc hp hq z1 z2 => ?_⟩, hmm⟩
  · by_cases z : hg_w F m p q = hg_V
    · exact Or.inl z
    · refine Or.inr ?_
      rcases which p q hp hq z with ⟨y1, y2⟩ | ⟨y1, y2, y3⟩
      · have := h1 p q hp hq
        rw [y2]
        omega
      · have a := h1 p m hp m13
        have b := h1 m q m13 hq
        rw [y3]
        omega
  · rcases which p q hp hq z with ⟨y1, y2⟩ | ⟨y1, y2, y3⟩
    · rw [y2]
      exact h2 p q hp hq y1
    · obtain ⟨n, n1, hn⟩ := h2 p m hp m13 y1
      obtain ⟨k, k1, hk⟩ := h2 m q m13 hq y2
      rw [y3]
      exact ⟨n + k, by omega, hg_app hn k q _ hk⟩
  · obtain ⟨y1, y2⟩ := h3 p q w hw
    obtain ⟨p13, q13⟩ := he p q w hw
    obtain ⟨y3, y4⟩ := up p q p13 q13 y1
    exact ⟨y3, by omega⟩
  · by_cases cm : c = m
    · rw [cm] at z1 z2 ⊢
      rw [(hg_wm hmm p).1] at z1 ⊢
      rw [(hg_wm hmm q).2] at z2 ⊢
      exact via p q hp hq z1 z2
    · have c13 : c < 13 := by omega
      have cm2 : c < m := by omega
      rcases which p c hp c13 z1 with ⟨a1, a2⟩ | ⟨a1, a2, a3⟩
      · rcases which c q c13 hq z2 with ⟨b1, b2⟩ | ⟨b1, b2, b3⟩
        · obtain ⟨y1, y2⟩ := h4 c p q cm2 hp hq a1 b1
          obtain ⟨y3, y4⟩ := up p q hp hq y1
          rw [a2, b2]
          exact ⟨y3, by omega⟩
        · obtain ⟨y1, y2⟩ := h4 c p m cm2 hp m13 a1 b1
          obtain ⟨y3, y4⟩ := via p q hp hq y1 b2
          rw [a2, b3]
          exact ⟨y3, by omega⟩
      · rcases which c q c13 hq z2 with ⟨b1, b2⟩ | ⟨b1, b2, b3⟩
        · obtain ⟨y1, y2⟩ := h4 c m q cm2 m13 hq a2 b1
          obtain ⟨y3, y4⟩ := via p q hp hq a1 y1
          rw [a3, b2]
          exact ⟨y3, by omega⟩
        · obtain ⟨y1, y2⟩ := h4 c m m cm2 m13 m13 a2 b1
          obtain ⟨y3, y4⟩ := via p q hp hq a1 b2
          rw [a3, b3]
          rcases hmm with w | w
          · exact absurd w y1
          · exact ⟨y3, by omega⟩
theorem hg_n43 {e : Nat → Nat → Int → Prop} (he : ∀ a b w, e a b w → a < 13 ∧ b < 13) (hall : ∀ n p x, hg_W e n p p x → x ≤ 0) {x1 x2 : Int32} {o : hy_S × Int32} : ∀ (u : Nat) (σ : hy_S) (m : Nat), m ≤ 13 → hg_J e (hg_M (σ.1 28)) m → fX10_span_43 u σ x1 x2 (hv_i m) = some o → ∃ τ, hg_G 28 28 σ τ ∧ hg_J e (hg_M (τ.1 28)) 13 ∧ (if x2 = 0 then hy_ga τ 28 169 (156 + x1) (fun v3 => fX10_span_195 τ v3 x2) else hy_ga τ 28 169 ((13 * x1) + 12) (fun v6 => fX10_span_195 τ v6 x2)) = some o := by
  intro u
  induction u with
  | zero => intro σ m hm hJ h; cases h
  | succ u ih =>
    intro σ m hm hJ h
    have V : hg_V = -100000000 := rfl
    have em := hv_ii (r := m) (by omega)
    unfold fX10_span_43 at h
    by_cases c : 13 ≤ hv_i m
    · rw [if_pos c] at h
      have c1 : (13 : Int) ≤ (hv_i m).toInt := hi_le.mp c
      have e13 : m = 13 := by omega
      rw [e13] at hJ
      exact ⟨σ, hg_G0, hJ, h⟩
    · rw [if_neg c] at h
      have c1 : ¬ (13 : Int) ≤ (hv_i m).toInt := hi_nle c
      have m13 : m < 13 := by omega
      obtain ⟨J2, hmm⟩ := hg_Jw he hall m13 hJ
      have pb : (1 : Int) ≤ 2 ^ m ∧ (2 : Int) ^ m ≤ 8192 := by
        rcases (show m = 0 ∨ m = 1 ∨ m = 2 ∨ m = 3 ∨ m = 4 ∨ m = 5 ∨ m = 6 ∨ m = 7 ∨ m = 8 ∨ m = 9 ∨ m = 10 ∨ m = 11 ∨ m = 12 by omega) with rfl | rfl | rfl | rfl | rfl | rfl | rfl | rfl | rfl | rfl | rfl | rfl | rfl <;> decide
      obtain ⟨τ, t1, t2, h⟩ := hg_n53 (F := hg_M (σ.1 28)) m13 (K := 1000 * 2 ^ m) (by omega) (by omega) hJ.1 hmm hy_fu σ 0 (by omega) (by
        intro p q hp hq
        rw [if_neg (Nat.not_lt_zero _)]) h
      have J3 : hg_J e (hg_M (τ.1 28)) (m + 1) := by
        obtain ⟨j1, j2, j3, j4⟩ := J2
        refine ⟨fun p q hp hq => by rw [t2 p q hp hq]; exact j1 p q hp hq, fun p q hp hq => by rw [t2 p q hp hq]; exact j2 p q hp hq, fun p q w hw => ?_, fun c p q hc hp hq => ?_⟩
        · obtain ⟨p13, q13⟩ := he p q w hw
          rw [t2 p q p13 q13]
          exact j3 p q w hw
        · rw [t2 p c hp (by omega), t2 c q (by omega) hq, t2 p q hp hq]
          exact j4 c p q hc hp hq
      obtain ⟨ω, w1, w2, w3⟩ := ih τ (m + 1) (by omega) J3 h
      exact ⟨ω, hg_Gt t1 w1, w2, w3⟩
/-- a closed matrix has the greatest of all walks -/
theorem hg_JX {e : Nat → Nat → Int → Prop} (he : ∀ a b w, e a b w → a < 13 ∧ b < 13) {F : Nat → Nat → Int} (h : hg_J e F 13) {a b : Nat} (a13 : a < 13) (b13 : b < 13) (ab : ¬ a = b) : hg_X hg_V (F a b) (fun x => ∃ n, hg_W e n a b x) := by
  obtain ⟨_, h2, h3, h4⟩ := h
  have comp : ∀ (n b : Nat) (x : Int), hg_W e (n + 1) a b x → ¬ F a b = hg_V ∧ x ≤ F a b := by
    intro n
    induction n with
    | zero =>
      intro b x ⟨k, w, k1, k2⟩
      have k1 : a = k ∧ x - w = 0 := k1
      rw [← k1.1] at k2
      obtain ⟨y1, y2⟩ := h3 a b w k2
      exact ⟨y1, by omega⟩
    | succ n ih =>
      intro b x ⟨k, w, k1, k2⟩
      obtain ⟨y1, y2⟩ := ih k _ k1
      obtain ⟨y3, y4⟩ := h3 k b w k2
      obtain ⟨k13, b13⟩ := he k b w k2
      obtain ⟨y5, y6⟩ := h4 k a b k13 a13 b13 y1 y3
      exact ⟨y5, by omega⟩
  have all : ∀ n x, hg_W e n a b x → ¬ F a b = hg_V ∧ x ≤ F a b := by
    intro n x hw
    cases n with
    | zero => exact absurd hw.1 ab
    | succ n => exact comp n b x hw
  by_cases z : F a b = hg_V
  · exact Or.inl ⟨z, fun x ⟨n, hw⟩ => (all n x hw).1 z⟩
  · obtain ⟨n, _, hn⟩ := h2 a b a13 b13 z
    exact Or.inr ⟨z, ⟨n, hn⟩, fun x ⟨n, hw⟩ => (all n x hw).2⟩
theorem hg_span {R : hy_S → Prop} {σ μ : hy_S} {x1 x2 x3 : Int32} {o : hy_O} {o2 : hy_S × Int32} (hC : hc_I R σ) (hR : ht_R σ μ) (h1 : fX9_span σ x1 x2 x3 = some o) (h2 : fX10_span μ x1 x2 x3 = some o2) : ((o.2.2 = 0 ∧ o2.1.2 0 = 0) ∨ (o.2.2 = 1 ∧ o2.1.2 0 = 1) ∨ (o.2.2 = 4 ∧ o2.1.2 0 = 2)) ∧ (o.2.2 = 0 → o2.2 = o.2.1) := by
  unfold fX9_span at h1
  unfold fX10_span at h2
  obtain ⟨ν, eν, h2⟩ := hy_pf_some h2
  have ν0 : ν.2 0 = 0 := by rw [eν]; rfl
  rcases hi_nt h2 with ⟨a1, a2, h2⟩ | ⟨a1, h2⟩
  · have h2 := hi_t0 h2
    rw [if_pos rfl] at h2
    rcases hi_ix h1 with ⟨c1, c2, h1⟩ | ⟨c1, h1⟩
    · obtain ⟨β, v, e, h1⟩ := hy_bd_some h1
      obtain ⟨m, ok, ee⟩ := hg_link hC hR e
      have ok : hg_ok β m := ok
      have ee : ∀ a b w, hg_e β m a b w ↔ hg_EM μ (σ.2 8).toNatClampNeg x3.toInt a b w := ee
      obtain ⟨σ4, v5, e4, h1⟩ := hy_bd_some h1
      obtain ⟨F4, c⟩ := hg_cah ok e4
      have F4 : hg_F β σ4 := F4
      have c : (v5 = 1 ∧ ∀ n p x, hg_W (hg_e β m) n p p x → x ≤ 0) ∨ (v5 = 0 ∧ ¬ hg_N (hg_e β m)) := c
      obtain ⟨σ10, v11, e10, h2⟩ := hy_bd_some h2
      have hT0 := hg_TM hC hR
      have hT : hg_T ν (σ.2 8).toNatClampNeg := by rw [eν]; exact hT0
      obtain ⟨q0, q9, qX, q⟩ := hg_round hT e10
      rw [eν] at q qX
      have q9 : σ10.2 = ν.2 := q9
      have qX : ∀ a b, a < 13 → b < 13 → hg_X hg_V (σ10.1 28 (13 * a + b)).toInt (hg_EM μ (σ.2 8).toNatClampNeg x3.toInt a b) := qX
      have q : (v11 = 0 ∧ ∀ k p, 1 ≤ k → k ≤ 13 → p < 13 → ¬ hg_ring (hg_EM μ (σ.2 8).toNatClampNeg x3.toInt) k p) ∨ ∃ s p, v11 = hv_i s ∧ 2 ≤ s ∧ s ≤ 13 ∧ p < 13 ∧ hg_ring (hg_EM μ (σ.2 8).toNatClampNeg x3.toInt) s p ∧ ∀ k p, 1 ≤ k → k < s → p < 13 → ¬ hg_ring (hg_EM μ (σ.2 8).toNatClampNeg x3.toInt) k p := q
      have E13 := hg_EM13 hT0 (d := x3.toInt)
      have nx := hs_tn a1
      have ex : x1 = hv_i x1.toNatClampNeg := hv_of a1 (by omega)
      rcases c with ⟨cv, call⟩ | ⟨cv, cN⟩
      · rw [cv] at h1
        rw [if_neg (by decide)] at h1
        have callM : ∀ n p x, hg_W (hg_EM μ (σ.2 8).toNatClampNeg x3.toInt) n p p x → x ≤ 0 := fun n p x hw => call n p x ((hg_Wc ee n p p x).mpr hw)
        rcases q with ⟨q1, q2⟩ | ⟨s, p, q1, s2, s13, p13, ⟨x, x0, xw⟩, _⟩
        · rw [q1] at h2
          rw [if_pos (by decide)] at h2
          unfold fX10_span_31 at h2
          have h2 := hi_t0 h2
          rw [if_pos rfl] at h2
          have J0 : hg_J (hg_EM μ (σ.2 8).toNatClampNeg x3.toInt) (hg_M (σ10.1 28)) 0 := by
            refine ⟨fun p q hp hq => ?_, fun p q hp hq z => ?_, fun p q w hw => ?_, fun c p q hc => absurd hc (Nat.not_lt_zero _)⟩
            · rcases qX p q hp hq with z | ⟨_, z, _⟩
              · exact Or.inl z.1
              · obtain ⟨_, _, _, y0, y1⟩ := E13 _ _ _ z
                exact Or.inr ⟨by show -(1000 * 1) ≤ (σ10.1 28 (13 * p + q)).toInt; omega, by show (σ10.1 28 (13 * p + q)).toInt ≤ 1000 * 1; omega⟩
            · rcases qX p q hp hq with y | ⟨_, y, _⟩
              · exact absurd y.1 z
              · exact ⟨1, by omega, p, (σ10.1 28 (13 * p + q)).toInt, ⟨rfl, by show (σ10.1 28 (13 * p + q)).toInt - (σ10.1 28 (13 * p + q)).toInt = 0; omega⟩, y⟩
            · obtain ⟨p13, q13, _⟩ := E13 p q w hw
              rcases qX p q p13 q13 with y | ⟨y1, _, y3⟩
              · exact absurd hw (y.2 w)
              · exact ⟨y1, y3 w hw⟩
          obtain ⟨τ, t1, t2, h2⟩ := hg_n43 (fun a b w z => ⟨(E13 a b w z).1, (E13 a b w z).2.1⟩) callM hy_fu σ10 0 (by omega) J0 h2
          have τ0 : τ.2 0 = 0 := by rw [t1.2, q9]; exact ν0
          -- the class's and the reference's value over the same walks
          have fin : ∀ (w : Int32) (y : Int32) (τ9 : hy_S), ((w.toInt = hg_U ∧ y.toInt = hg_V) ∨ (¬ w.toInt = hg_U ∧ ¬ y.toInt = hg_V ∧ w.toInt = y.toInt)) → fX9_span_61 τ9 w x2 = some o → fX10_span_195 τ y x2 = some o2 → ((o.2.2 = 0 ∧ o2.1.2 0 = 0) ∨ (o.2.2 = 1 ∧ o2.1.2 0 = 1) ∨ (o.2.2 = 4 ∧ o2.1.2 0 = 2)) ∧ (o.2.2 = 0 → o2.2 = o.2.1) := by
            intro w y τ9 hwy g1 g2
            unfold fX9_span_61 at g1
            unfold fX10_span_195 at g2
            rcases hwy with ⟨z1, z2⟩ | ⟨z1, z2, z3⟩
            · rw [if_pos (Int32.toInt_inj.mp z1)] at g1
              rw [if_pos (Int32.toInt_inj.mp z2)] at g2
              unfold fX10_span_210 at g2
              have g2 := hi_t1 g2
              rw [if_neg (by decide)] at g2
              rw [← Option.some.inj g1, ← Option.some.inj g2]
              exact ⟨Or.inr (Or.inr ⟨rfl, rfl⟩), fun z => absurd z (Nat.succ_ne_zero _)⟩
            · have ew : w = y := Int32.toInt_inj.mp z3
              rw [if_neg (fun z => z1 (by rw [z]; rfl))] at g1
              rw [if_neg (fun z => z2 (by rw [z]; rfl))] at g2
              unfold fX10_span_210 at g2
              have g2 := hi_t0 g2
              rw [if_pos rfl] at g2
              by_cases d : x2 = 0
              · rw [if_pos d] at g1 g2
                rw [← Option.some.inj g1, ← Option.some.inj g2]
                exact ⟨Or.inl ⟨rfl, τ0⟩, fun _ => ew.symm⟩
              · rw [if_neg d] at g1 g2
                rw [← Option.some.inj g1, ← Option.some.inj g2]
                exact ⟨Or.inl ⟨rfl, τ0⟩, fun _ => by show -y = -w; rw [ew]⟩
          have ok4 : hg_ok σ4 m := hg_Fok F4 ok
          have ee4 : ∀ a b w, hg_e σ4 m a b w ↔ hg_EM μ (σ.2 8).toNatClampNeg x3.toInt a b w := by
            intro a b w
            rw [← ee a b w]
            unfold hg_e
            constructor
            · intro ⟨i, i1, i2, i3, i4⟩
              obtain ⟨z1, z2, z3⟩ := hg_FA F4 i
              exact ⟨i, i1, by rw [← z1]; exact i2, by rw [← z2]; exact i3, by rw [← z3]; exact i4⟩
            · intro ⟨i, i1, i2, i3, i4⟩
              obtain ⟨z1, z2, z3⟩ := hg_FA F4 i
              exact ⟨i, i1, by rw [z1]; exact i2, by rw [z2]; exact i3, by rw [z3]; exact i4⟩
          have call4 : ∀ n p x, hg_W (hg_e σ4 m) n p p x → x ≤ 0 := fun n p x hw => callM n p x ((hg_Wc ee4 n p p x).mp hw)
          by_cases d : x2 = 0
          · rw [if_pos d] at h1 h2
            obtain ⟨τ9, w, e9, h1⟩ := hy_bd_some h1
            rw [ex] at e9
            obtain ⟨_, X⟩ := hg_yb ok4 call4 (p := 12) (q := x1.toNatClampNeg) (by omega) (by omega) e9
            have X : hg_X hg_U w.toInt (fun x => ∃ n, hg_W (hg_e σ4 m) n 12 x1.toNatClampNeg x) := X
            have X2 := hg_Xeq X (fun x => ⟨fun ⟨n, hn⟩ => (⟨n, (hg_Wc ee4 n _ _ x).mp hn⟩ : ∃ n, hg_W (hg_EM μ (σ.2 8).toNatClampNeg x3.toInt) n 12 x1.toNatClampNeg x), fun ⟨n, hn⟩ => ⟨n, (hg_Wc ee4 n _ _ x).mpr hn⟩⟩)
            obtain ⟨_, y, ey, h2⟩ := hy_ga_some h2
            have ix : (156 + x1).toNatClampNeg = 13 * 12 + x1.toNatClampNeg := by
              have g : (156 + x1).toInt = 156 + x1.toInt := hs_addl 156 rfl (by omega) (by omega)
              have := hs_tn (x := 156 + x1) (by rw [g]; omega)
              rw [g] at this
              omega
            rw [ix] at ey
            have Y := hg_JX (fun a b w z => ⟨(E13 a b w z).1, (E13 a b w z).2.1⟩) t2 (a := 12) (b := x1.toNatClampNeg) (by omega) (by omega) (by omega)
            have Y : hg_X hg_V (τ.1 28 (13 * 12 + x1.toNatClampNeg)).toInt _ := Y
            rw [← ey] at Y
            exact fin w y τ9 (hg_XX X2 Y) h1 h2
          · rw [if_neg d] at h1 h2
            obtain ⟨τ9, w, e9, h1⟩ := hy_bd_some h1
            rw [ex] at e9
            obtain ⟨_, X⟩ := hg_yb ok4 call4 (p := x1.toNatClampNeg) (q := 12) (by omega) (by omega) e9
            have X : hg_X hg_U w.toInt (fun x => ∃ n, hg_W (hg_e σ4 m) n x1.toNatClampNeg 12 x) := X
            have X2 := hg_Xeq X (fun x => ⟨fun ⟨n, hn⟩ => (⟨n, (hg_Wc ee4 n _ _ x).mp hn⟩ : ∃ n, hg_W (hg_EM μ (σ.2 8).toNatClampNeg x3.toInt) n x1.toNatClampNeg 12 x), fun ⟨n, hn⟩ => ⟨n, (hg_Wc ee4 n _ _ x).mpr hn⟩⟩)
            obtain ⟨_, y, ey, h2⟩ := hy_ga_some h2
            have ix : (13 * x1 + 12).toNatClampNeg = 13 * x1.toNatClampNeg + 12 := by
              have := hg_ix (a := x1.toNatClampNeg) (b := 12) (by omega) (by omega)
              rw [← ex] at this
              exact this
            rw [ix] at ey
            have Y := hg_JX (fun a b w z => ⟨(E13 a b w z).1, (E13 a b w z).2.1⟩) t2 (a := x1.toNatClampNeg) (b := 12) (by omega) (by omega) (by omega)
            have Y : hg_X hg_V (τ.1 28 (13 * x1.toNatClampNeg + 12)).toInt _ := Y
            rw [← ey] at Y
            exact fin w y τ9 (hg_XX X2 Y) h1 h2
        · have := callM s p x xw
          exfalso
          omega
      · rw [cv] at h1
        rw [if_pos rfl] at h1
        rcases q with ⟨q1, q2⟩ | ⟨s, p, q1, s2, s13, p13, _, _⟩
        · exact absurd (hg_noN (hg_e13 ok) (fun k p k1 k2 k3 z => q2 k p k1 k2 k3 ((hg_rc2 ee).mp z))) cN
        · have n0 : ¬ v11 ≤ 0 := fun z => by
            have z : v11.toInt ≤ 0 := hi_le.mp z
            rw [q1, hv_ii (by omega)] at z
            omega
          rw [if_neg n0] at h2
          unfold fX10_span_31 at h2
          have h2 := hi_t1 h2
          rw [if_neg (by decide)] at h2
          rw [← Option.some.inj h1, ← Option.some.inj h2]
          exact ⟨Or.inr (Or.inr ⟨rfl, rfl⟩), fun z => absurd z (Nat.succ_ne_zero _)⟩
    · exfalso
      have c1 : x1.toInt < (0 : Int) ∨ (12 : Int) ≤ x1.toInt := c1
      omega
  · have h2 := hi_t1 h2
    rw [if_neg (by decide)] at h2
    rcases hi_ix h1 with ⟨c1, c2, h1⟩ | ⟨c1, h1⟩
    · exfalso
      have c2 : x1.toInt < (12 : Int) := c2
      omega
    · rw [h1, (hi_pr h2).1]
      exact ⟨Or.inr (Or.inl ⟨rfl, rfl⟩), fun z => absurd z (Nat.succ_ne_zero _)⟩
