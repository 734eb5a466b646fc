/-! Stacks that stand: any order that stands can be brought into the order of reach. -/
/-- from above: each bears the sum of those above it -/
noncomputable def hq_f (w b : Nat → Int) : List Nat → Int → Prop
  | [], _ => True
  | x :: l, s => s ≤ b x ∧ hq_f w b l (s + w x)
noncomputable def hq_s (w : Nat → Int) : List Nat → Int
  | [] => 0
  | x :: l => w x + hq_s w l
theorem hq_sapp {w : Nat → Int} : ∀ (l m : List Nat), hq_s w (l ++ m) = hq_s w l + hq_s w m := by
  intro l
  induction l with
  | nil => intro m; show hq_s w m = 0 + hq_s w m; omega
  | cons x l ih =>
    intro m
    show w x + hq_s w (l ++ m) = w x + hq_s w l + hq_s w m
    rw [ih m]
    omega
theorem hq_fapp {w b : Nat → Int} : ∀ (l : List Nat) (x : Nat) (s : Int), hq_f w b (l ++ [x]) s ↔ hq_f w b l s ∧ s + hq_s w l ≤ b x := by
  intro l
  induction l with
  | nil =>
    intro x s
    show (s ≤ b x ∧ True) ↔ (True ∧ s + 0 ≤ b x)
    constructor
    · intro h; exact ⟨trivial, by have := h.1; omega⟩
    · intro h; exact ⟨by have := h.2; omega, trivial⟩
  | cons y l ih =>
    intro x s
    show (s ≤ b y ∧ hq_f w b (l ++ [x]) (s + w y)) ↔ ((s ≤ b y ∧ hq_f w b l (s + w y)) ∧ s + (w y + hq_s w l) ≤ b x)
    rw [ih x (s + w y)]
    constructor
    · intro ⟨h1, h2, h3⟩; exact ⟨⟨h1, h2⟩, by omega⟩
    · intro ⟨⟨h1, h2⟩, h3⟩; exact ⟨h1, h2, by omega⟩
/-- put into a row by place -/
noncomputable def hq_i (pos : Nat → Nat) (x : Nat) : List Nat → List Nat
  | [] => [x]
  | y :: l => if pos x ≤ pos y then x :: y :: l else y :: hq_i pos x l
theorem hq_if {w b : Nat → Int} {pos : Nat → Nat} (w0 : ∀ x, 0 ≤ w x) {x : Nat} : ∀ (l : List Nat) (s : Int), (∀ y ∈ l, pos y ≤ pos x → w y + b y ≤ w x + b x) → hq_f w b (x :: l) s → hq_f w b (hq_i pos x l) s := by
  intro l
  induction l with
  | nil => intro s _ h; exact h
  | cons y l ih =>
    intro s hr h
    unfold hq_i
    by_cases c : pos x ≤ pos y
    · rw [if_pos c]
      exact h
    · rw [if_neg c]
      obtain ⟨h1, h2, h3⟩ := h
      have r := hr y (List.mem_cons_self) (by omega)
      have wx := w0 x
      have wy := w0 y
      refine ⟨by omega, ih (s + w y) (fun z hz => hr z (List.mem_cons_of_mem _ hz)) ⟨by omega, ?_⟩⟩
      rw [show s + w y + w x = s + w x + w y by omega]
      exact h3
theorem hq_ip {pos : Nat → Nat} {x : Nat} : ∀ (l : List Nat), (hq_i pos x l).Perm (x :: l) := by
  intro l
  induction l with
  | nil => exact List.Perm.refl _
  | cons y l ih =>
    unfold hq_i
    by_cases c : pos x ≤ pos y
    · rw [if_pos c]
    · rw [if_neg c]
      exact (List.Perm.cons y ih).trans (List.Perm.swap x y l)
/-- places go up -/
noncomputable def hq_u (pos : Nat → Nat) (l : List Nat) : Prop := l.Pairwise (fun x y => pos x ≤ pos y)
theorem hq_iu {pos : Nat → Nat} {x : Nat} : ∀ (l : List Nat), hq_u pos l → hq_u pos (hq_i pos x l) := by
  intro l
  induction l with
  | nil => intro _; exact List.pairwise_singleton _ _
  | cons y l ih =>
    intro h
    obtain ⟨h1, h2⟩ := List.pairwise_cons.mp h
    unfold hq_i
    by_cases c : pos x ≤ pos y
    · rw [if_pos c]
      refine List.pairwise_cons.mpr ⟨fun z hz => ?_, h⟩
      rcases List.mem_cons.mp hz with e | e
      · rw [e]
        exact c
      · exact Nat.le_trans c (h1 z e)
    · rw [if_neg c]
      refine List.pairwise_cons.mpr ⟨fun z hz => ?_, ih h2⟩
      rcases List.mem_cons.mp ((hq_ip l).mem_iff.mp hz) with e | e
      · rw [e]
        omega
      · exact h1 z e
/-- a stack that stands stands in the order of places too -/
theorem hq_sort {w b : Nat → Int} {pos : Nat → Nat} {D : Nat → Prop} (w0 : ∀ x, 0 ≤ w x) (hr : ∀ x y, D x → D y → pos y ≤ pos x → w y + b y ≤ w x + b x) : ∀ (l : List Nat) (s : Int), (∀ x ∈ l, D x) → hq_f w b l s → ∃ m : List Nat, m.Perm l ∧ hq_u pos m ∧ hq_f w b m s := by
  intro l
  induction l with
  | nil => intro s _ h; exact ⟨[], List.Perm.refl _, List.Pairwise.nil, h⟩
  | cons x l ih =>
    intro s hD h
    obtain ⟨h1, h2⟩ := h
    obtain ⟨m, m1, m2, m3⟩ := ih (s + w x) (fun y hy => hD y (List.mem_cons_of_mem _ hy)) h2
    refine ⟨hq_i pos x m, (hq_ip m).trans (List.Perm.cons x m1), hq_iu m m2, ?_⟩
    exact hq_if w0 m s (fun y hy => hr x y (hD x List.mem_cons_self) (hD y (List.mem_cons_of_mem _ (m1.mem_iff.mp hy)))) ⟨h1, m3⟩
/-- a stack of h things of D that stands -/
noncomputable def hq_L (w b : Nat → Int) (D : Nat → Prop) (h : Nat) : Prop := ∃ l : List Nat, l.length = h ∧ l.Nodup ∧ (∀ x ∈ l, D x) ∧ hq_f w b l 0
