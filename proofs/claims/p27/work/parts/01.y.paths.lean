/-! places in lists -/
theorem xh {a : Cond} {l : List Cond} : a ∈ a :: l := List.Mem.head _
theorem xt1 {a b0 : Cond} {l : List Cond} (h : a ∈ l) : a ∈ b0 :: l := List.Mem.tail _ (h)
theorem xt4 {a b0 b1 b2 b3 : Cond} {l : List Cond} (h : a ∈ l) : a ∈ b0 :: b1 :: b2 :: b3 :: l := List.Mem.tail _ (List.Mem.tail _ (List.Mem.tail _ (List.Mem.tail _ (h))))
theorem xt16 {a b0 b1 b2 b3 b4 b5 b6 b7 b8 b9 b10 b11 b12 b13 b14 b15 : Cond} {l : List Cond} (h : a ∈ l) : a ∈ b0 :: b1 :: b2 :: b3 :: b4 :: b5 :: b6 :: b7 :: b8 :: b9 :: b10 :: b11 :: b12 :: b13 :: b14 :: b15 :: l := List.Mem.tail _ (List.Mem.tail _ (List.Mem.tail _ (List.Mem.tail _ (List.Mem.tail _ (List.Mem.tail _ (List.Mem.tail _ (List.Mem.tail _ (List.Mem.tail _ (List.Mem.tail _ (List.Mem.tail _ (List.Mem.tail _ (List.Mem.tail _ (List.Mem.tail _ (List.Mem.tail _ (List.Mem.tail _ (h))))))))))))))))
theorem xl {a : Cond} {l r : List Cond} (h : a ∈ l) : a ∈ l ++ r := List.mem_append_left _ h
theorem xr {a : Cond} {l r : List Cond} (h : a ∈ r) : a ∈ l ++ r := List.mem_append_right _ h
theorem xc {p : Cond → Prop} {a : Cond} {l : List Cond} (h1 : p a) (h2 : ∀ x ∈ l, p x) : ∀ x ∈ a :: l, p x := List.forall_mem_cons.mpr ⟨h1, h2⟩
theorem xa {p : Cond → Prop} {l r : List Cond} (h1 : ∀ x ∈ l, p x) (h2 : ∀ x ∈ r, p x) : ∀ x ∈ l ++ r, p x := List.forall_mem_append.mpr ⟨h1, h2⟩
theorem xn {p : Cond → Prop} : ∀ x ∈ ([] : List Cond), p x := fun _ h => absurd h List.not_mem_nil
