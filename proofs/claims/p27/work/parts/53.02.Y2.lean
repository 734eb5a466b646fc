/-! Walks along told steps, and rings. -/
noncomputable def hg_W (e : Nat → Nat → Int → Prop) : Nat → Nat → Nat → Int → Prop
  | 0, a, b, x => a = b ∧ x = 0
  | n + 1, a, b, x => ∃ m w, hg_W e n a m (x - w) ∧ e m b w
theorem hg_app {e : Nat → Nat → Int → Prop} {n a b : Nat} {x : Int} (h : hg_W e n a b x) : ∀ (k c : Nat) (y : Int), hg_W e k b c y → hg_W e (n + k) a c (x + y) := by
  intro k
  induction k with
  | zero =>
    intro c y hk
    obtain ⟨h1, h2⟩ := hk
    rw [← h1, h2, Int.add_zero]
    exact h
  | succ k ih =>
    intro c y hk
    obtain ⟨m, w, h1, h2⟩ := hk
    refine ⟨m, w, ?_, h2⟩
    have := ih m (y - w) h1
    rw [show x + y - w = x + (y - w) by omega]
    exact this
/-- nodes and sums along a walk -/
noncomputable def hg_VV (e : Nat → Nat → Int → Prop) (n : Nat) (v : Nat → Nat) (s : Nat → Int) : Prop := ∀ i, i < n → e (v i) (v (i + 1)) (s (i + 1) - s i)
theorem hg_ofW {e : Nat → Nat → Int → Prop} : ∀ (n a b : Nat) (x : Int), hg_W e n a b x → ∃ (v : Nat → Nat) (s : Nat → Int), v 0 = a ∧ v n = b ∧ s 0 = 0 ∧ s n = x ∧ hg_VV e n v s := by
  intro n
  induction n with
  | zero =>
    intro a b x h
    exact ⟨fun _ => a, fun _ => 0, rfl, h.1, rfl, h.2.symm, fun i hi => absurd hi (Nat.not_lt_zero _)⟩
  | succ n ih =>
    intro a b x h
    obtain ⟨m, w, h1, h2⟩ := h
    obtain ⟨v, s, v0, vn, s0, sn, hv⟩ := ih a m (x - w) h1
    refine ⟨fun i => if i = n + 1 then b else v i, fun i => if i = n + 1 then x else s i, ?_, ?_, ?_, ?_, fun i hi => ?_⟩
    · show (if 0 = n + 1 then b else v 0) = a
      rw [if_neg (by omega)]
      exact v0
    · show (if n + 1 = n + 1 then b else v (n + 1)) = b
      rw [if_pos rfl]
    · show (if 0 = n + 1 then x else s 0) = 0
      rw [if_neg (by omega)]
      exact s0
    · show (if n + 1 = n + 1 then x else s (n + 1)) = x
      rw [if_pos rfl]
    · show e (if i = n + 1 then b else v i) (if i + 1 = n + 1 then b else v (i + 1)) ((if i + 1 = n + 1 then x else s (i + 1)) - (if i = n + 1 then x else s i))
      have a1 : ¬ i = n + 1 := by omega
      rw [if_neg a1, if_neg a1]
      by_cases c : i = n
      · have a2 : i + 1 = n + 1 := by omega
        rw [if_pos a2, if_pos a2, c, vn, sn, show x - (x - w) = w by omega]
        exact h2
      · have a2 : ¬ i + 1 = n + 1 := by omega
        rw [if_neg a2, if_neg a2]
        exact hv i (by omega)
theorem hg_seg {e : Nat → Nat → Int → Prop} {n : Nat} {v : Nat → Nat} {s : Nat → Int} (h : hg_VV e n v s) {i : Nat} : ∀ k, i + k ≤ n → hg_W e k (v i) (v (i + k)) (s (i + k) - s i) := by
  intro k
  induction k with
  | zero =>
    intro _
    exact ⟨rfl, by show s i - s i = 0; omega⟩
  | succ k ih =>
    intro hk
    refine ⟨v (i + k), s (i + k + 1) - s (i + k), ?_, h (i + k) (by omega)⟩
    have := ih (by omega)
    rw [show s (i + (k + 1)) - s i - (s (i + k + 1) - s (i + k)) = s (i + k) - s i by rw [show i + (k + 1) = i + k + 1 from rfl]; omega]
    exact this
theorem hg_pig : ∀ (N : Nat) (f : Nat → Nat), (∀ i, i ≤ N → f i < N) → ∃ i j, i < j ∧ j ≤ N ∧ f i = f j := by
  intro N
  induction N with
  | zero => intro f h; exact absurd (h 0 (Nat.le_refl _)) (Nat.not_lt_zero _)
  | succ N ih =>
    intro f h
    by_cases c : ∃ i, i ≤ N ∧ f i = f (N + 1)
    · obtain ⟨i, h1, h2⟩ := c
      exact ⟨i, N + 1, by omega, Nat.le_refl _, h2⟩
    · have ne : ∀ i, i ≤ N → ¬ f i = f (N + 1) := fun i hi e => c ⟨i, hi, e⟩
      obtain ⟨i, j, h1, h2, h3⟩ := ih (fun i => if f (N + 1) < f i then f i - 1 else f i) (by
        intro i hi
        have a := h i (by omega)
        have b := h (N + 1) (Nat.le_refl _)
        have d := ne i hi
        show (if f (N + 1) < f i then f i - 1 else f i) < N
        split <;> omega)
      refine ⟨i, j, h1, by omega, ?_⟩
      have a := ne i (by omega)
      have b := ne j h2
      have h3 : (if f (N + 1) < f i then f i - 1 else f i) = (if f (N + 1) < f j then f j - 1 else f j) := h3
      by_cases c1 : f (N + 1) < f i
      · by_cases c2 : f (N + 1) < f j
        · rw [if_pos c1, if_pos c2] at h3
          omega
        · rw [if_pos c1, if_neg c2] at h3
          omega
      · by_cases c2 : f (N + 1) < f j
        · rw [if_neg c1, if_pos c2] at h3
          omega
        · rw [if_neg c1, if_neg c2] at h3
          exact h3
/-- no ring of at most thirteen steps leads to more than 0 -/
noncomputable def hg_N (e : Nat → Nat → Int → Prop) : Prop := ∀ n p x, 1 ≤ n → n ≤ 13 → hg_W e n p p x → x ≤ 0
theorem hg_short {e : Nat → Nat → Int → Prop} (he : ∀ a b w, e a b w → a < 13 ∧ b < 13) (hN : hg_N e) : ∀ (n a b : Nat) (x : Int), hg_W e n a b x → ∃ k y, k ≤ 12 ∧ x ≤ y ∧ hg_W e k a b y ∧ (1 ≤ n → ¬ a = b → 1 ≤ k) := by
  intro n
  induction n using Nat.strongRecOn with
  | ind n ih =>
    intro a b x h
    by_cases c : n ≤ 12
    · exact ⟨n, x, c, Int.le_refl _, h, fun h _ => h⟩
    · obtain ⟨v, s, v0, vn, s0, sn, hv⟩ := hg_ofW n a b x h
      obtain ⟨i, j, h1, h2, h3⟩ := hg_pig 13 v (by
        intro i hi
        by_cases d : i < n
        · exact (he _ _ _ (hv i d)).1
        · have e2 := (he _ _ _ (hv (n - 1) (by omega))).2
          rw [show n - 1 + 1 = i by omega] at e2
          exact e2)
      have w1 := hg_seg hv (i := 0) i (by omega)
      have w2 := hg_seg hv (i := i) (j - i) (by omega)
      have w3 := hg_seg hv (i := j) (n - j) (by omega)
      rw [show i + (j - i) = j by omega, ← h3] at w2
      rw [show j + (n - j) = n by omega, ← h3, vn, sn] at w3
      rw [show 0 + i = i by omega, v0, s0] at w1
      have le := hN (j - i) (v i) _ (by omega) (by omega) w2
      have w4 := hg_app w1 (n - j) b _ w3
      obtain ⟨k, y, k1, k2, k3, k4⟩ := ih (i + (n - j)) (by omega) a b _ w4
      refine ⟨k, y, k1, by omega, k3, fun _ hab => ?_⟩
      by_cases z : k = 0
      · rw [z] at k3
        exact absurd k3.1 hab
      · omega
/-- years that no step pushes on forbid rings -/
theorem hg_pot {e : Nat → Nat → Int → Prop} {f : Nat → Int} (hf : ∀ a b w, e a b w → f a + w ≤ f b) : ∀ (n a b : Nat) (x : Int), hg_W e n a b x → f a + x ≤ f b := by
  intro n
  induction n with
  | zero =>
    intro a b x h
    rw [h.1, h.2]
    omega
  | succ n ih =>
    intro a b x h
    obtain ⟨m, w, h1, h2⟩ := h
    have i := ih a m _ h1
    have j := hf _ _ _ h2
    omega
/-- the first step of a walk -/
theorem hg_first {e : Nat → Nat → Int → Prop} : ∀ (n a b : Nat) (x : Int), hg_W e (n + 1) a b x → ∃ m w, e a m w ∧ hg_W e n m b (x - w) := by
  intro n a b x h
  obtain ⟨v, s, v0, vn, s0, sn, hv⟩ := hg_ofW (n + 1) a b x h
  refine ⟨v 1, s 1, ?_, ?_⟩
  · have := hv 0 (by omega)
    rw [v0, s0, Int.sub_zero] at this
    exact this
  · have := hg_seg hv (i := 1) n (by omega)
    rw [show 1 + n = n + 1 by omega, vn, sn] at this
    exact this
