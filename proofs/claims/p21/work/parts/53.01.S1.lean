/-! Vessels: each sherd knows the least of its vessel; counts and stamps of vessels. -/
noncomputable def hv_n (p : Nat → Bool) : Nat → Nat
  | 0 => 0
  | n + 1 => hv_n p n + (if p n = true then 1 else 0)
theorem hv_nle {p : Nat → Bool} : ∀ n : Nat, hv_n p n ≤ n := by
  intro n
  induction n with
  | zero => exact Nat.le_refl _
  | succ n ih =>
    show hv_n p n + (if p n = true then 1 else 0) ≤ n + 1
    split <;> omega
theorem hv_ncong {p q : Nat → Bool} : ∀ n : Nat, (∀ k, k < n → p k = q k) → hv_n p n = hv_n q n := by
  intro n
  induction n with
  | zero => exact fun _ => rfl
  | succ n ih =>
    intro h
    show hv_n p n + (if p n = true then 1 else 0) = hv_n q n + (if q n = true then 1 else 0)
    rw [ih (fun k hk => h k (by omega)), h n (by omega)]
theorem hv_nadd {p q r : Nat → Bool} : ∀ n : Nat, (∀ k, k < n → (p k = true ↔ q k = true ∨ r k = true) ∧ ¬ (q k = true ∧ r k = true)) → hv_n p n = hv_n q n + hv_n r n := by
  intro n
  induction n with
  | zero => exact fun _ => rfl
  | succ n ih =>
    intro h
    have i := ih (fun k hk => h k (by omega))
    obtain ⟨h1, h2⟩ := h n (by omega)
    show hv_n p n + (if p n = true then 1 else 0) = hv_n q n + (if q n = true then 1 else 0) + (hv_n r n + (if r n = true then 1 else 0))
    by_cases c1 : q n = true
    · by_cases c2 : r n = true
      · exact absurd ⟨c1, c2⟩ h2
      · rw [if_pos (h1.mpr (Or.inl c1)), if_pos c1, if_neg c2]
        omega
    · by_cases c2 : r n = true
      · rw [if_pos (h1.mpr (Or.inr c2)), if_neg c1, if_pos c2]
        omega
      · rw [if_neg (fun z => (h1.mp z).elim c1 c2), if_neg c1, if_neg c2]
        omega
theorem hv_n0 {p : Nat → Bool} : ∀ n : Nat, (∀ k, k < n → ¬ p k = true) → hv_n p n = 0 := by
  intro n
  induction n with
  | zero => exact fun _ => rfl
  | succ n ih =>
    intro h
    show hv_n p n + (if p n = true then 1 else 0) = 0
    rw [ih (fun k hk => h k (by omega)), if_neg (h n (by omega))]
noncomputable def hv_E (f m c S s : Nat → Int32) (n : Nat) : Prop := (∀ k, k < n → ∃ r, r ≤ k ∧ f k = hv_i r ∧ f r = hv_i r) ∧ (∀ k r, k < n → r < n → f k = hv_i r → c k = c r) ∧ (∀ r, r < n → f r = hv_i r → (S r = -1 ∨ 0 ≤ (S r).toInt) ∧ (∀ k, k < n → f k = hv_i r → (s k).toInt < 0 ∨ s k = S r) ∧ (0 ≤ (S r).toInt → ∃ k, k < n ∧ f k = hv_i r ∧ s k = S r)) ∧ (∀ r, r < n → f r = hv_i r → (m r).toInt = (hv_n (fun k => decide (f k = hv_i r)) n : Int))
theorem hv_Eadd {f m c S s : Nat → Int32} {n : Nat} (n60 : n < 60) (h : hv_E f m c S s n) {x y : Int32} (hy : y = -1 ∨ 0 ≤ y.toInt) : hv_E (upd f n (hv_i n)) (upd m n 1) (upd c n x) (upd S n y) (upd s n y) (n + 1) := by
  obtain ⟨h1, h2, h3, h4⟩ := h
  have old : ∀ k, k < n → upd f n (hv_i n) k = f k := fun k hk => hs_upd (by omega)
  have nn : ∀ k, k < n → ¬ f k = hv_i n := by
    intro k hk e
    obtain ⟨r, r1, r2, _⟩ := h1 k hk
    have := hv_inj (by omega) (by omega) (r2.symm.trans e)
    omega
  have sp : ∀ k, k < n + 1 → k < n ∨ k = n := fun k hk => by omega
  refine ⟨fun k hk => ?_, fun k r hk hr e => ?_, fun r hr e => ?_, fun r hr e => ?_⟩
  · rcases sp k hk with hk | hk
    · obtain ⟨r, r1, r2, r3⟩ := h1 k hk
      exact ⟨r, r1, by rw [old k hk]; exact r2, by rw [old r (by omega)]; exact r3⟩
    · exact ⟨n, by omega, by rw [hk, hs_upds], by rw [hs_upds]⟩
  · rcases sp k hk with hk | hk
    · rw [old k hk] at e
      rcases sp r hr with hr | hr
      · rw [hs_upd (by omega), hs_upd (by omega)]
        exact h2 k r hk hr e
      · rw [hr] at e
        exact absurd e (nn k hk)
    · rw [hk, hs_upds] at e
      have := hv_inj (by omega) (by omega) e
      rw [hk, ← this]
  · rcases sp r hr with hr | hr
    · rw [old r hr] at e
      rw [hs_upd (f := S) (by omega)]
      obtain ⟨a1, a2, a3⟩ := h3 r hr e
      refine ⟨a1, fun k hk z => ?_, fun z => ?_⟩
      · rcases sp k hk with hk | hk
        · rw [old k hk] at z
          rw [hs_upd (by omega)]
          exact a2 k hk z
        · rw [hk, hs_upds] at z
          have := hv_inj (by omega) (by omega) z
          omega
      · obtain ⟨k, k1, k2, k3⟩ := a3 z
        exact ⟨k, by omega, by rw [old k k1]; exact k2, by rw [hs_upd (by omega)]; exact k3⟩
    · rw [hr, hs_upds]
      refine ⟨hy, fun k hk z => ?_, fun _ => ⟨n, by omega, by rw [hs_upds], by rw [hs_upds]⟩⟩
      rcases sp k hk with hk | hk
      · rw [old k hk] at z
        exact absurd z (nn k hk)
      · rw [hk, hs_upds]
        exact Or.inr rfl
  · rcases sp r hr with hr | hr
    · rw [old r hr] at e
      rw [hs_upd (by omega), h4 r hr e]
      show (hv_n _ n : Int) = ((hv_n _ n + (if decide (upd f n (hv_i n) n = hv_i r) = true then 1 else 0) : Nat) : Int)
      rw [if_neg ?_, hv_ncong n (q := fun k => decide (upd f n (hv_i n) k = hv_i r)) (fun k hk => by show decide (f k = hv_i r) = decide (upd f n (hv_i n) k = hv_i r); rw [old k hk])]
      · rfl
      · intro z
        have z := of_decide_eq_true z
        rw [hs_upds] at z
        have := hv_inj (by omega) (by omega) z
        omega
    · rw [hr, hs_upds]
      show (1 : Int) = ((hv_n _ n + (if decide (upd f n (hv_i n) n = hv_i n) = true then 1 else 0) : Nat) : Int)
      rw [if_pos (decide_eq_true hs_upds), hv_n0 n (fun k hk z => nn k hk (by rw [← old k hk]; exact of_decide_eq_true z))]
      rfl
noncomputable def hv_g (f : Nat → Int32) (n : Nat) (p q : Int32) (k : Nat) : Int32 := if k < n ∧ f k = q then p else f k
theorem hv_g1 {f : Nat → Int32} {n : Nat} {p q : Int32} {k : Nat} (h1 : k < n) (h2 : f k = q) : hv_g f n p q k = p := if_pos ⟨h1, h2⟩
theorem hv_g2 {f : Nat → Int32} {n : Nat} {p q : Int32} {k : Nat} (h2 : ¬ f k = q) : hv_g f n p q k = f k := if_neg (fun z => h2 z.2)
theorem hv_Ejoin {f m c S s : Nat → Int32} {n : Nat} (n60 : n ≤ 60) (h : hv_E f m c S s n) {p q : Nat} (hpq : p < q) (hq : q < n) (fp : f p = hv_i p) (fq : f q = hv_i q) (hc : c p = c q) (hS : S p = -1 ∨ S q = -1 ∨ S p = S q) {v : Int32} (hv : v.toInt = (m p).toInt + (m q).toInt) {S2 : Nat → Int32} (hS2 : S2 = if S p = -1 then upd S p (S q) else S) : hv_E (hv_g f n (hv_i p) (hv_i q)) (upd m p v) c S2 s n := by
  obtain ⟨h1, h2, h3, h4⟩ := h
  have pq : ¬ hv_i p = hv_i q := fun e => by
    have := hv_inj (by omega) (by omega) e
    omega
  have fpq : ¬ f p = hv_i q := by rw [fp]; exact pq
  have inv : ∀ k r, k < n → r < n → hv_g f n (hv_i p) (hv_i q) k = hv_i r → (f k = hv_i q ∧ r = p) ∨ (¬ f k = hv_i q ∧ f k = hv_i r) := by
    intro k r hk hr e
    by_cases z : f k = hv_i q
    · rw [hv_g1 hk z] at e
      exact Or.inl ⟨z, (hv_inj (by omega) (by omega) e).symm⟩
    · rw [hv_g2 z] at e
      exact Or.inr ⟨z, e⟩
  have root : ∀ r, r < n → hv_g f n (hv_i p) (hv_i q) r = hv_i r → ¬ r = q ∧ f r = hv_i r := by
    intro r hr e
    rcases inv r r hr hr e with ⟨a, b⟩ | ⟨a, b⟩
    · rw [b] at a
      exact absurd a fpq
    · exact ⟨fun z => a (by rw [z]; exact fq), b⟩
  have ne : ∀ k r, r < n → ¬ r = q → f k = hv_i r → ¬ f k = hv_i q := by
    intro k r hr z e e2
    exact z (hv_inj (by omega) (by omega) (e.symm.trans e2))
  refine ⟨fun k hk => ?_, fun k r hk hr e => ?_, fun r hr e => ?_, fun r hr e => ?_⟩
  · obtain ⟨r, r1, r2, r3⟩ := h1 k hk
    by_cases z : f k = hv_i q
    · have : r = q := hv_inj (by omega) (by omega) (r2.symm.trans z)
      exact ⟨p, by omega, hv_g1 hk z, by rw [hv_g2 fpq]; exact fp⟩
    · have z2 : ¬ f r = hv_i q := by rw [r3, ← r2]; exact z
      exact ⟨r, r1, by rw [hv_g2 z]; exact r2, by rw [hv_g2 z2]; exact r3⟩
  · rcases inv k r hk hr e with ⟨a, b⟩ | ⟨a, b⟩
    · rw [b, hc]
      exact h2 k q hk hq a
    · exact h2 k r hk hr b
  · obtain ⟨rq, fr⟩ := root r hr e
    by_cases rp : r = p
    · rw [rp]
      obtain ⟨a1, a2, a3⟩ := h3 p (by omega) fp
      obtain ⟨b1, b2, b3⟩ := h3 q hq fq
      by_cases sp : S p = -1
      · have e2 : S2 p = S q := by rw [hS2, if_pos sp, hs_upds]
        rw [e2]
        refine ⟨b1, fun k hk z => ?_, fun z => ?_⟩
        · rcases inv k p hk (by omega) z with ⟨y1, y2⟩ | ⟨y1, y2⟩
          · exact b2 k hk y1
          · rcases a2 k hk y2 with y | y
            · exact Or.inl y
            · rw [sp] at y
              exact Or.inl (by rw [y]; decide)
        · obtain ⟨k, k1, k2, k3⟩ := b3 z
          exact ⟨k, k1, hv_g1 k1 k2, k3⟩
      · have e2 : S2 p = S p := by rw [hS2, if_neg sp]
        rw [e2]
        refine ⟨a1, fun k hk z => ?_, fun z => ?_⟩
        · rcases inv k p hk (by omega) z with ⟨y1, y2⟩ | ⟨y1, y2⟩
          · rcases b2 k hk y1 with y | y
            · exact Or.inl y
            · rcases hS with w | w | w
              · exact absurd w sp
              · rw [w] at y
                exact Or.inl (by rw [y]; decide)
              · exact Or.inr (by rw [y, w])
          · exact a2 k hk y2
        · obtain ⟨k, k1, k2, k3⟩ := a3 z
          exact ⟨k, k1, by rw [hv_g2 (ne k p (by omega) (by omega) k2)]; exact k2, k3⟩
    · have e2 : S2 r = S r := by
        rw [hS2]
        split
        · rw [hs_upd rp]
        · rfl
      rw [e2]
      obtain ⟨a1, a2, a3⟩ := h3 r hr fr
      refine ⟨a1, fun k hk z => ?_, fun z => ?_⟩
      · rcases inv k r hk hr z with ⟨y1, y2⟩ | ⟨y1, y2⟩
        · exact absurd y2 rp
        · exact a2 k hk y2
      · obtain ⟨k, k1, k2, k3⟩ := a3 z
        exact ⟨k, k1, by rw [hv_g2 (ne k r hr rq k2)]; exact k2, k3⟩
  · obtain ⟨rq, fr⟩ := root r hr e
    by_cases rp : r = p
    · rw [rp, hs_upds, hv, h4 p (by omega) fp, h4 q hq fq]
      rw [hv_nadd n (p := fun k => decide (hv_g f n (hv_i p) (hv_i q) k = hv_i p)) (q := fun k => decide (f k = hv_i p)) (r := fun k => decide (f k = hv_i q)) ?_]
      · exact (Int.natCast_add _ _).symm
      · intro k hk
        refine ⟨⟨fun z => ?_, fun z => ?_⟩, fun z => pq ((of_decide_eq_true z.1).symm.trans (of_decide_eq_true z.2))⟩
        · rcases inv k p hk (by omega) (of_decide_eq_true z) with ⟨y1, _⟩ | ⟨_, y2⟩
          · exact Or.inr (decide_eq_true y1)
          · exact Or.inl (decide_eq_true y2)
        · rcases z with z | z
          · have z := of_decide_eq_true z
            refine decide_eq_true ?_
            rw [hv_g2 (ne k p (by omega) (by omega) z)]
            exact z
          · exact decide_eq_true (hv_g1 hk (of_decide_eq_true z))
    · rw [hs_upd rp, h4 r hr fr]
      rw [hv_ncong n (p := fun k => decide (f k = hv_i r)) (q := fun k => decide (hv_g f n (hv_i p) (hv_i q) k = hv_i r)) ?_]
      intro k hk
      refine decide_eq_decide.mpr ⟨fun z => ?_, fun z => ?_⟩
      · rw [hv_g2 (ne k r hr rq z)]
        exact z
      · rcases inv k r hk hr z with ⟨y1, y2⟩ | ⟨y1, y2⟩
        · exact absurd y2 rp
        · exact y2
