/-! Sets of places and the stacks that stand. -/
/-- the places of a number, in their order -/
noncomputable def hq_y (m : Nat) : Nat → List Nat
  | 0 => []
  | i + 1 => hq_y m i ++ (if Nat.testBit m i = true then [i] else [])
noncomputable def hq_v (v : Nat → Int) (m i : Nat) : Int := if Nat.testBit m i = true then v i else 0
noncomputable def hq_S (v : Nat → Int) (m : Nat) : Nat → Int
  | 0 => 0
  | i + 1 => hq_S v m i + hq_v v m i
theorem hq_ym {m x : Nat} : ∀ n, x ∈ hq_y m n ↔ x < n ∧ Nat.testBit m x = true := by
  intro n
  induction n with
  | zero => exact ⟨fun z => absurd z (List.not_mem_nil), fun z => absurd z.1 (Nat.not_lt_zero _)⟩
  | succ n ih =>
    show x ∈ hq_y m n ++ (if Nat.testBit m n = true then [n] else []) ↔ _
    rw [List.mem_append, ih]
    by_cases c : Nat.testBit m n = true
    · rw [if_pos c, List.mem_singleton]
      constructor
      · intro z
        rcases z with z | z
        · exact ⟨by omega, z.2⟩
        · rw [z]
          exact ⟨by omega, c⟩
      · intro z
        by_cases d : x = n
        · exact Or.inr d
        · exact Or.inl ⟨by omega, z.2⟩
    · rw [if_neg c]
      constructor
      · intro z
        rcases z with z | z
        · exact ⟨by omega, z.2⟩
        · exact absurd z (List.not_mem_nil)
      · intro z
        by_cases d : x = n
        · rw [d] at z
          exact absurd z.2 c
        · exact Or.inl ⟨by omega, z.2⟩
theorem hq_yd {m : Nat} : ∀ n, (hq_y m n).Nodup := by
  intro n
  induction n with
  | zero => exact List.nodup_nil
  | succ n ih =>
    show (hq_y m n ++ (if Nat.testBit m n = true then [n] else [])).Nodup
    by_cases c : Nat.testBit m n = true
    · rw [if_pos c]
      refine List.nodup_append.mpr ⟨ih, List.pairwise_singleton _ _, fun a ha d hd e => ?_⟩
      have h1 := ((hq_ym n).mp ha).1
      have h2 : d = n := List.mem_singleton.mp hd
      omega
    · rw [if_neg c, List.append_nil]
      exact ih
theorem hq_yl {m : Nat} : ∀ n, (hq_y m n).length = hq_n (Nat.testBit m) n := by
  intro n
  induction n with
  | zero => rfl
  | succ n ih =>
    show (hq_y m n ++ (if Nat.testBit m n = true then [n] else [])).length = _
    rw [List.length_append, ih]
    by_cases c : Nat.testBit m n = true
    · rw [if_pos c, hq_n1 c]
      rfl
    · rw [if_neg c, hq_n0 c]
      rfl
theorem hq_ys {v : Nat → Int} {m : Nat} : ∀ n, hq_s v (hq_y m n) = hq_S v m n := by
  intro n
  induction n with
  | zero => rfl
  | succ n ih =>
    show hq_s v (hq_y m n ++ (if Nat.testBit m n = true then [n] else [])) = hq_S v m n + (if Nat.testBit m n = true then v n else 0)
    rw [hq_sapp, ih]
    by_cases c : Nat.testBit m n = true
    · rw [if_pos c, if_pos c]
      show _ + (v n + 0) = _
      omega
    · rw [if_neg c, if_neg c]
      rfl
theorem hq_sp {v : Nat → Int} {l k : List Nat} (h : l.Perm k) : hq_s v l = hq_s v k := by
  induction h with
  | nil => rfl
  | cons x _ ih =>
    show v x + _ = v x + _
    rw [ih]
  | swap x y l =>
    show v y + (v x + hq_s v l) = v x + (v y + hq_s v l)
    omega
  | trans _ _ i1 i2 => rw [i1, i2]
theorem hq_yp {m n : Nat} {l : List Nat} (nd : l.Nodup) (hm : ∀ x, x ∈ l ↔ x < n ∧ Nat.testBit m x = true) : l.Perm (hq_y m n) := (List.perm_ext_iff_of_nodup nd (hq_yd n)).mpr (fun x => by rw [hm, hq_ym])
/-- the places of a number, below n, can be stacked so that they stand -/
noncomputable def hq_T (v b : Nat → Int) (n m : Nat) : Prop := ∃ l : List Nat, l.Nodup ∧ (∀ x, x ∈ l ↔ x < n ∧ Nat.testBit m x = true) ∧ hq_f v b l 0
theorem hq_Tr {v b : Nat → Int} {n m : Nat} : hq_T v b n m ↔ (∀ x, x < n → ¬ Nat.testBit m x = true) ∨ ∃ i, i < n ∧ Nat.testBit m i = true ∧ hq_T v b n (m ^^^ 2 ^ i) ∧ hq_S v m n - v i ≤ b i := by
  constructor
  · intro ⟨l, l1, l2, l3⟩
    rcases List.eq_nil_or_concat l with e | ⟨k, x, e⟩
    · refine Or.inl (fun x hx z => ?_)
      have := (l2 x).mpr ⟨hx, z⟩
      rw [e] at this
      exact absurd this (List.not_mem_nil)
    · rw [List.concat_eq_append] at e
      subst e
      obtain ⟨n1, _, n3⟩ := List.nodup_append.mp l1
      obtain ⟨f1, f2⟩ := (hq_fapp k x 0).mp l3
      have mx := (l2 x).mp (List.mem_append.mpr (Or.inr (List.mem_singleton.mpr rfl)))
      have su := hq_sp (v := v) (hq_yp l1 l2)
      rw [hq_ys, hq_sapp] at su
      have su : hq_s v k + (v x + 0) = hq_S v m n := su
      refine Or.inr ⟨x, mx.1, mx.2, ⟨k, n1, fun y => ?_, f1⟩, by omega⟩
      rw [hq_tx]
      by_cases c : x = y
      · subst c
        rw [mx.2]
        constructor
        · intro z
          exact absurd rfl (n3 x z x (List.mem_singleton.mpr rfl))
        · intro z
          exact absurd z.2 (by simp)
      · have q := l2 y
        rw [List.mem_append, List.mem_singleton] at q
        constructor
        · intro z
          obtain ⟨q1, q2⟩ := q.mp (Or.inl z)
          exact ⟨q1, by rw [q2]; simp [c]⟩
        · intro ⟨z1, z2⟩
          have z3 : Nat.testBit m y = true := by
            simp [c] at z2
            exact z2
          rcases q.mpr ⟨z1, z3⟩ with r | r
          · exact r
          · exact absurd r.symm c
  · intro h
    rcases h with h | ⟨i, i1, i2, ⟨k, k1, k2, k3⟩, i4⟩
    · exact ⟨[], List.nodup_nil, fun x => ⟨fun z => absurd z (List.not_mem_nil), fun z => absurd z.2 (h x z.1)⟩, trivial⟩
    · have ni : ¬ i ∈ k := fun z => by
        have y := ((k2 i).mp z).2
        rw [hq_tx, i2] at y
        simp at y
      have nd : (k ++ [i]).Nodup := List.nodup_append.mpr ⟨k1, List.pairwise_singleton _ _, fun a ha d hd e => by
        have h2 : d = i := List.mem_singleton.mp hd
        rw [e, h2] at ha
        exact ni ha⟩
      have me : ∀ x, x ∈ k ++ [i] ↔ x < n ∧ Nat.testBit m x = true := by
        intro x
        rw [List.mem_append, List.mem_singleton, k2, hq_tx]
        by_cases c : i = x
        · subst c
          exact ⟨fun _ => ⟨i1, i2⟩, fun _ => Or.inr rfl⟩
        · constructor
          · intro z
            rcases z with z | z
            · refine ⟨z.1, ?_⟩
              have z2 := z.2
              simp [c] at z2
              exact z2
            · exact absurd z.symm c
          · intro z
            refine Or.inl ⟨z.1, ?_⟩
            rw [z.2]
            simp [c]
      refine ⟨k ++ [i], nd, me, (hq_fapp k i 0).mpr ⟨k3, ?_⟩⟩
      have su := hq_sp (v := v) (hq_yp nd me)
      rw [hq_ys, hq_sapp] at su
      have su : hq_s v k + (v i + 0) = hq_S v m n := su
      omega
theorem hq_no {m n : Nat} (hm : m < 2 ^ n) (h : ∀ x, x < n → ¬ Nat.testBit m x = true) : m = 0 := by
  apply Nat.eq_of_testBit_eq
  intro x
  rw [Nat.zero_testBit]
  by_cases c : x < n
  · cases hb : Nat.testBit m x with
    | false => rfl
    | true => exact absurd hb (h x c)
  · exact Nat.testBit_lt_two_pow (Nat.lt_of_lt_of_le hm (Nat.pow_le_pow_right (by decide) (by omega)))
theorem hq_n12 {m n : Nat} (hm : m < 2 ^ n) : ∀ d, hq_n (Nat.testBit m) (n + d) = hq_n (Nat.testBit m) n := by
  intro d
  induction d with
  | zero => rfl
  | succ d ih =>
    have z : Nat.testBit m (n + d) = false := Nat.testBit_lt_two_pow (Nat.lt_of_lt_of_le hm (Nat.pow_le_pow_right (by decide) (by omega)))
    rw [show n + (d + 1) = n + d + 1 from rfl, hq_n0 (by rw [z]; decide), ih]
/-- heights: by numbers as by lists -/
theorem hq_TL {v b : Nat → Int} {n h : Nat} : (∃ m, m < 2 ^ n ∧ hq_T v b n m ∧ hq_n (Nat.testBit m) n = h) ↔ hq_L v b (fun x => x < n) h := by
  constructor
  · intro ⟨m, _, ⟨l, l1, l2, l3⟩, m3⟩
    exact ⟨l, by rw [(hq_yp l1 l2).length_eq, hq_yl]; exact m3, l1, fun x hx => ((l2 x).mp hx).1, l3⟩
  · intro ⟨l, l0, l1, l2, l3⟩
    obtain ⟨m, m1, m2⟩ := hq_mk (P := fun x => x ∈ l) n
    have me : ∀ x, x ∈ l ↔ x < n ∧ Nat.testBit m x = true := fun x => ⟨fun z => ⟨l2 x z, (m2 x (l2 x z)).mpr z⟩, fun z => (m2 x z.1).mp z.2⟩
    refine ⟨m, m1, ⟨l, l1, me, l3⟩, ?_⟩
    rw [← hq_yl, ← (hq_yp l1 me).length_eq]
    exact l0
theorem hq_fm {w b : Nat → Int} {c : Nat → Nat} : ∀ (l : List Nat) (s : Int), hq_f w b (l.map c) s ↔ hq_f (fun i => w (c i)) (fun i => b (c i)) l s := by
  intro l
  induction l with
  | nil => intro s; exact Iff.rfl
  | cons x l ih =>
    intro s
    show (s ≤ b (c x) ∧ hq_f w b (l.map c) (s + w (c x))) ↔ (s ≤ b (c x) ∧ hq_f _ _ l (s + w (c x)))
    rw [ih]
/-- heights over a row of the things of D, none twice, as over its places -/
theorem hq_LL {w b : Nat → Int} {D : Nat → Prop} {c : Nat → Nat} {n : Nat} (inj : ∀ p q, p < n → q < n → c p = c q → p = q) (mem : ∀ p, p < n → D (c p)) (sur : ∀ x, D x → ∃ p, p < n ∧ c p = x) (h : Nat) : hq_L (fun i => w (c i)) (fun i => b (c i)) (fun x => x < n) h ↔ hq_L w b D h := by
  constructor
  · intro ⟨l, l0, l1, l2, l3⟩
    refine ⟨l.map c, by rw [List.length_map]; exact l0, ?_, fun x hx => ?_, (hq_fm l 0).mpr l3⟩
    · refine List.pairwise_map.mpr ?_
      refine List.Pairwise.imp_of_mem (R := fun a b => a ≠ b) (fun {a d} ha hd ne e => ?_) l1
      exact ne (inj a d (l2 a ha) (l2 d hd) e)
    · obtain ⟨a, a1, a2⟩ := List.mem_map.mp hx
      rw [← a2]
      exact mem a (l2 a a1)
  · intro ⟨l, l0, l1, l2, l3⟩
    have ex : ∀ x, ∃ p, D x → p < n ∧ c p = x := fun x => by
      by_cases d : D x
      · obtain ⟨p, p1⟩ := sur x d
        exact ⟨p, fun _ => p1⟩
      · exact ⟨0, fun z => absurd z d⟩
    obtain ⟨pos, hp⟩ := Classical.axiomOfChoice ex
    have e : (l.map pos).map c = l := by
      rw [List.map_map]
      have : ∀ x ∈ l, (c ∘ pos) x = id x := fun x hx => (hp x (l2 x hx)).2
      rw [List.map_congr_left this, List.map_id]
    refine ⟨l.map pos, by rw [List.length_map]; exact l0, ?_, fun x hx => ?_, ?_⟩
    · refine List.pairwise_map.mpr ?_
      refine List.Pairwise.imp_of_mem (R := fun a b => a ≠ b) (fun {a d} ha hd ne z => ?_) l1
      refine ne ?_
      rw [← (hp a (l2 a ha)).2, ← (hp d (l2 d hd)).2, z]
    · obtain ⟨a, a1, a2⟩ := List.mem_map.mp hx
      rw [← a2]
      exact (hp a (l2 a a1)).1
    · refine (hq_fm (c := c) (l.map pos) 0).mp ?_
      rw [e]
      exact l3
