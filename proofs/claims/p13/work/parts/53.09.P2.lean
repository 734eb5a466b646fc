/-! The lightest stacks of a row, by their height. -/
/-- out of the first i of a row c: h of them, in their order, that stand and weigh s -/
noncomputable def hq_Z (w b : Nat → Int) (c : Nat → Nat) : Nat → Nat → Int → Prop
  | 0, h, s => h = 0 ∧ s = 0
  | i + 1, h, s => hq_Z w b c i h s ∨ ∃ k t, h = k + 1 ∧ hq_Z w b c i k t ∧ t ≤ b (c i) ∧ s = t + w (c i)
theorem hq_Z0 {w b : Nat → Int} {c : Nat → Nat} : ∀ i, hq_Z w b c i 0 0 := by
  intro i
  induction i with
  | zero => exact ⟨rfl, rfl⟩
  | succ i ih => exact Or.inl ih
theorem hq_Zpos {w b : Nat → Int} {c : Nat → Nat} (w0 : ∀ x, 0 ≤ w x ∧ w x ≤ 1000) : ∀ i h s, hq_Z w b c i h s → 0 ≤ s ∧ s ≤ 1000 * (i : Int) ∧ h ≤ i ∧ (h = 0 → s = 0) := by
  intro i
  induction i with
  | zero =>
    intro h s z
    obtain ⟨z1, z2⟩ := z
    exact ⟨by omega, by omega, by omega, fun _ => z2⟩
  | succ i ih =>
    intro h s z
    rcases z with z | ⟨k, t, k1, k2, k3, k4⟩
    · obtain ⟨a1, a2, a3, a4⟩ := ih h s z
      exact ⟨a1, by omega, by omega, a4⟩
    · obtain ⟨a1, a2, a3, a4⟩ := ih k t k2
      have := w0 (c i)
      exact ⟨by omega, by omega, by omega, fun q => by omega⟩
/-- such a choice is a list that stands -/
theorem hq_Zl {w b : Nat → Int} {c : Nat → Nat} : ∀ i, (∀ p q, p < i → q < i → c p = c q → p = q) → ∀ h s, hq_Z w b c i h s → ∃ l : List Nat, l.length = h ∧ l.Nodup ∧ (∀ x ∈ l, ∃ p, p < i ∧ c p = x) ∧ hq_f w b l 0 ∧ hq_s w l = s := by
  intro i
  induction i with
  | zero =>
    intro _ h s z
    obtain ⟨z1, z2⟩ := z
    exact ⟨[], z1.symm, List.nodup_nil, fun x hx => absurd hx (List.not_mem_nil), trivial, z2.symm⟩
  | succ i ih =>
    intro inj h s z
    have inj2 : ∀ p q, p < i → q < i → c p = c q → p = q := fun p q hp hq => inj p q (by omega) (by omega)
    rcases z with z | ⟨k, t, k1, k2, k3, k4⟩
    · obtain ⟨l, l1, l2, l3, l4, l5⟩ := ih inj2 h s z
      refine ⟨l, l1, l2, fun x hx => ?_, l4, l5⟩
      obtain ⟨p, p1, p2⟩ := l3 x hx
      exact ⟨p, by omega, p2⟩
    · obtain ⟨l, l1, l2, l3, l4, l5⟩ := ih inj2 k t k2
      refine ⟨l ++ [c i], by rw [List.length_append, l1, k1]; rfl, ?_, fun x hx => ?_, ?_, ?_⟩
      · refine List.nodup_append.mpr ⟨l2, List.pairwise_singleton _ _, fun a ha d hd e => ?_⟩
        obtain ⟨p, p1, p2⟩ := l3 a ha
        have hd : d = c i := List.mem_singleton.mp hd
        have := inj p i (by omega) (by omega) (by rw [p2, e, hd])
        omega
      · rcases List.mem_append.mp hx with y | y
        · obtain ⟨p, p1, p2⟩ := l3 x y
          exact ⟨p, by omega, p2⟩
        · exact ⟨i, by omega, (List.mem_singleton.mp y).symm⟩
      · exact (hq_fapp l (c i) 0).mpr ⟨l4, by rw [l5]; omega⟩
      · rw [hq_sapp, l5, k4]
        show t + (w (c i) + 0) = t + w (c i)
        omega
theorem hq_uapp {pos : Nat → Nat} {l : List Nat} {x : Nat} (h : hq_u pos (l ++ [x])) : hq_u pos l ∧ ∀ y ∈ l, pos y ≤ pos x := by
  obtain ⟨h1, _, h3⟩ := List.pairwise_append.mp h
  exact ⟨h1, fun y hy => h3 y hy x (List.mem_singleton.mpr rfl)⟩
/-- a list in the order of the row is such a choice -/
theorem hq_lZ {w b : Nat → Int} {c : Nat → Nat} {pos : Nat → Nat} : ∀ (i : Nat) (l : List Nat), (∀ x ∈ l, pos x < i ∧ c (pos x) = x) → l.Nodup → hq_u pos l → hq_f w b l 0 → hq_Z w b c i l.length (hq_s w l) := by
  intro i
  induction i with
  | zero =>
    intro l hl _ _ _
    cases l with
    | nil => exact ⟨rfl, rfl⟩
    | cons x l => exact absurd (hl x List.mem_cons_self).1 (Nat.not_lt_zero _)
  | succ i ih =>
    intro l hl nd up hf
    rcases List.eq_nil_or_concat l with e | ⟨m, x, e⟩
    · rw [e]
      exact hq_Z0 (i + 1)
    · rw [List.concat_eq_append] at e
      subst e
      obtain ⟨u1, u2⟩ := hq_uapp up
      obtain ⟨n1, _, n3⟩ := List.nodup_append.mp nd
      obtain ⟨x1, x2⟩ := hl x (List.mem_append.mpr (Or.inr (List.mem_singleton.mpr rfl)))
      obtain ⟨f1, f2⟩ := (hq_fapp m x 0).mp hf
      by_cases c1 : pos x = i
      · refine Or.inr ⟨m.length, hq_s w m, by rw [List.length_append]; rfl, ih m (fun y hy => ?_) n1 u1 f1, by rw [← c1, x2]; omega, ?_⟩
        · obtain ⟨y1, y2⟩ := hl y (List.mem_append.mpr (Or.inl hy))
          refine ⟨?_, y2⟩
          by_cases c2 : pos y = i
          · exfalso
            refine n3 y hy x (List.mem_singleton.mpr rfl) ?_
            rw [← y2, ← x2, c1, c2]
          · omega
        · rw [hq_sapp, ← c1, x2]
          show hq_s w m + (w x + 0) = hq_s w m + w x
          omega
      · refine Or.inl (ih (m ++ [x]) (fun y hy => ?_) nd up hf)
        obtain ⟨y1, y2⟩ := hl y hy
        refine ⟨?_, y2⟩
        rcases List.mem_append.mp hy with z | z
        · have := u2 y z
          omega
        · rw [List.mem_singleton.mp z]
          omega
/-- heights of stacks: by the row in the order of reach as by any lists -/
theorem hq_ZL {w b : Nat → Int} {D : Nat → Prop} (w0 : ∀ x, 0 ≤ w x) {c pos : Nat → Nat} {n : Nat} (inj : ∀ p q, p < n → q < n → c p = c q → p = q) (mem : ∀ p, p < n → D (c p)) (hpos : ∀ x, D x → pos x < n ∧ c (pos x) = x) (so : ∀ p q, p ≤ q → q < n → w (c p) + b (c p) ≤ w (c q) + b (c q)) (h : Nat) : (∃ s, hq_Z w b c n h s) ↔ hq_L w b D h := by
  constructor
  · intro ⟨s, z⟩
    obtain ⟨l, l1, l2, l3, l4, _⟩ := hq_Zl n inj h s z
    refine ⟨l, l1, l2, fun x hx => ?_, l4⟩
    obtain ⟨p, p1, p2⟩ := l3 x hx
    rw [← p2]
    exact mem p p1
  · intro ⟨l, l1, l2, l3, l4⟩
    obtain ⟨m, m1, m2, m3⟩ := hq_sort (pos := pos) (D := D) w0 (by
      intro x y dx dy le
      obtain ⟨x1, x2⟩ := hpos x dx
      obtain ⟨y1, y2⟩ := hpos y dy
      have := so (pos y) (pos x) le x1
      rw [x2, y2] at this
      exact this) l 0 l3 l4
    have z := hq_lZ (c := c) n m (fun x hx => hpos x (l3 x (m1.mem_iff.mp hx))) (m1.nodup_iff.mpr l2) m2 m3
    rw [m1.length_eq, l1] at z
    exact ⟨_, z⟩
