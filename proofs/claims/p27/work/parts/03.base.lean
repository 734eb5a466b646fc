
/-! The state of either side: arrays by their numbers, int fields by theirs. -/
noncomputable abbrev hy_S : Type := (Nat → Nat → Int32) × (Nat → Int32)
noncomputable abbrev hy_G : Type := va_G × (Nat → ClassId) × Nat × (Nat → Nat) × (Nat → Nat) × (Nat → Nat) × (Nat → Nat)
noncomputable def hy_sc (σ : hy_S) (j : Nat) (f : Nat → Int32) : hy_S := (fun k => if k = j then f else σ.1 k, σ.2)
noncomputable def hy_si (σ : hy_S) (j : Nat) (v : Int32) : hy_S := (σ.1, fun k => if k = j then v else σ.2 k)
noncomputable def hy_tys (G : hy_G) : List (ClassId × FieldType) := [(G.2.1 0, .int), (G.2.1 1, .byte), (G.2.1 2, .boolean), (G.2.1 3, .long)]
/-! pure steps that may refuse -/
noncomputable def hy_ga {α : Type} (σ : hy_S) (j n : Nat) (i : Int32) (k : Int32 → Option α) : Option α := if i < 0 ∨ n ≤ i.toNatClampNeg then none else k (σ.1 j i.toNatClampNeg)
noncomputable def hy_pa {α : Type} (σ : hy_S) (j n : Nat) (i v : Int32) (k : hy_S → Option α) : Option α := if i < 0 ∨ n ≤ i.toNatClampNeg then none else k (hy_sc σ j (upd (σ.1 j) i.toNatClampNeg v))
noncomputable def hy_pf {α : Type} (σ : hy_S) (j : Nat) (v : Int32) (k : hy_S → Option α) : Option α := k (hy_si σ j v)
noncomputable def hy_cp {α : Type} (σ : hy_S) (j0 j1 : Nat) (sp dp n : Int32) (k : hy_S → Option α) : Option α := k (hy_sc σ j1 (va_cpy (σ.1 j0) (σ.1 j1) sp.toNatClampNeg dp.toNatClampNeg n.toNatClampNeg))
theorem hy_cp_some {α : Type} {σ : hy_S} {j0 j1 : Nat} {sp dp n : Int32} {k : hy_S → Option α} {o : α} (h : hy_cp σ j0 j1 sp dp n k = some o) : ∃ τ, τ = hy_sc σ j1 (va_cpy (σ.1 j0) (σ.1 j1) sp.toNatClampNeg dp.toNatClampNeg n.toNatClampNeg) ∧ k τ = some o := ⟨_, rfl, h⟩
noncomputable def hy_ck {α : Type} (c : Prop) [Decidable c] (k : Option α) : Option α := if c then k else none
noncomputable def hy_bd {α : Type} (x : Option (hy_S × Int32)) (k : hy_S → Int32 → Option α) : Option α := match x with
  | some o => k o.1 o.2
  | none => none
theorem hy_ga_some {α : Type} {σ : hy_S} {j n : Nat} {i : Int32} {k : Int32 → Option α} {o : α} (h : hy_ga σ j n i k = some o) : vp_in i n ∧ ∃ v, v = σ.1 j i.toNatClampNeg ∧ k v = some o := by
  unfold hy_ga at h
  by_cases c : i < 0 ∨ n ≤ i.toNatClampNeg
  · rw [if_pos c] at h; cases h
  · rw [if_neg c] at h; exact ⟨c, _, rfl, h⟩
theorem hy_pa_some {α : Type} {σ : hy_S} {j n : Nat} {i v : Int32} {k : hy_S → Option α} {o : α} (h : hy_pa σ j n i v k = some o) : vp_in i n ∧ ∃ τ, τ = hy_sc σ j (upd (σ.1 j) i.toNatClampNeg v) ∧ k τ = some o := by
  unfold hy_pa at h
  by_cases c : i < 0 ∨ n ≤ i.toNatClampNeg
  · rw [if_pos c] at h; cases h
  · rw [if_neg c] at h; exact ⟨c, _, rfl, h⟩
theorem hy_pf_some {α : Type} {σ : hy_S} {j : Nat} {v : Int32} {k : hy_S → Option α} {o : α} (h : hy_pf σ j v k = some o) : ∃ τ, τ = hy_si σ j v ∧ k τ = some o := ⟨_, rfl, h⟩
theorem hy_ck_some {α : Type} {c : Prop} [Decidable c] {k : Option α} {o : α} (h : hy_ck c k = some o) : c ∧ k = some o := by
  unfold hy_ck at h
  by_cases c0 : c
  · rw [if_pos c0] at h; exact ⟨c0, h⟩
  · rw [if_neg c0] at h; cases h
theorem hy_bd_some {α : Type} {x : Option (hy_S × Int32)} {k : hy_S → Int32 → Option α} {o : α} (h : hy_bd x k = some o) : ∃ τ v, x = some (τ, v) ∧ k τ v = some o := by
  cases x with
  | none => cases h
  | some q => exact ⟨q.1, q.2, rfl, h⟩
theorem hy_bool {v : Int32} (h : v = 0 ∨ v = 1) : narrow .boolean (.int v) = .int v := by
  rcases h with rfl | rfl <;> rfl

/-- what the tables say of the members of nest mates -/
noncomputable def hy_nl : List (String × Nat × String × String × String × String) := [("AmphoraYard", 95, "AmphoraYard$Kinds", "size", "I", "AmphoraYard"), ("AmphoraYard", 109, "AmphoraYard$Jars", "size", "I", "AmphoraYard"), ("AmphoraYard", 115, "AmphoraYard$Fleet", "size", "I", "AmphoraYard"), ("AmphoraYard", 136, "AmphoraYard$Jars", "place", "[I", "AmphoraYard"), ("AmphoraYard", 140, "AmphoraYard$Jars", "kindOf", "[I", "AmphoraYard"), ("AmphoraYard", 143, "AmphoraYard$Jars", "maker", "[I", "AmphoraYard"), ("AmphoraYard", 146, "AmphoraYard$Jars", "year", "[I", "AmphoraYard"), ("AmphoraYard", 149, "AmphoraYard$Jars", "oil", "[I", "AmphoraYard"), ("AmphoraYard", 155, "AmphoraYard$Jars", "pile", "[I", "AmphoraYard"), ("AmphoraYard", 183, "AmphoraYard$Ports", "rate", "[I", "AmphoraYard"), ("AmphoraYard", 205, "AmphoraYard$Ports", "foundFalse", "[I", "AmphoraYard"), ("AmphoraYard", 208, "AmphoraYard$Ports", "checked", "[I", "AmphoraYard"), ("AmphoraYard", 215, "AmphoraYard$Sherds", "size", "I", "AmphoraYard"), ("AmphoraYard", 227, "AmphoraYard$Sherds", "first", "[I", "AmphoraYard"), ("AmphoraYard", 230, "AmphoraYard$Sherds", "members", "[I", "AmphoraYard"), ("AmphoraYard", 233, "AmphoraYard$Sherds", "stamp", "[I", "AmphoraYard"), ("AmphoraYard", 240, "AmphoraYard$Tellings", "size", "I", "AmphoraYard"), ("AmphoraYard", 283, "AmphoraYard$Note", "numbers", "[I", "AmphoraYard"), ("AmphoraYard$Fleet", 26, "AmphoraYard$Jars", "place", "[I", "AmphoraYard"), ("AmphoraYard$Fleet", 54, "AmphoraYard$Jars", "pile", "[I", "AmphoraYard"), ("AmphoraYard$Jars", 38, "AmphoraYard$Kinds", "room", "[I", "AmphoraYard"), ("AmphoraYard$Jars", 43, "AmphoraYard$Kinds", "empty", "[I", "AmphoraYard"), ("AmphoraYard$Jars", 46, "AmphoraYard$Kinds", "bears", "[I", "AmphoraYard"), ("AmphoraYard$Stacker", 24, "AmphoraYard$Jars", "size", "I", "AmphoraYard"), ("AmphoraYard$Stacker", 27, "AmphoraYard$Jars", "place", "[I", "AmphoraYard")]
noncomputable def hy_nst (U : State) : Prop := ∀ q ∈ hy_nl, va_Nw (.fieldLinkNest q.1 q.2.1 q.2.2.1 q.2.2.2.1 q.2.2.2.2.1 q.2.2.2.2.2) U
theorem hy_nst.warm {s U : State} (hW : s.WarmedH U.vm) (h : hy_nst s) : hy_nst U := fun q hq => va_Nw.warmF hW (h q hq)
theorem hy_nst.same {s U : State} (hv : s.vm = U.vm) (h : hy_nst s) : hy_nst U := fun q hq => va_Nw.same rfl hv (h q hq)
noncomputable abbrev hy_O : Type := hy_S × Int32 × Nat
noncomputable def hy_en (k : Nat) : String := match k with
  | 1 => "java/lang/IndexOutOfBoundsException"
  | 2 => "java/lang/IllegalArgumentException"
  | 3 => "java/lang/UnsupportedOperationException"
  | _ => "java/util/NoSuchElementException"
noncomputable def hy_cl : List String := ["java/lang/IndexOutOfBoundsException", "java/lang/IllegalArgumentException", "java/lang/UnsupportedOperationException", "java/util/NoSuchElementException"]
noncomputable def hy_dc : List MethodName := [Bundle.initS "java/lang/RuntimeException", Bundle.initS "java/lang/Exception", Bundle.initS Bundle.tN]
noncomputable abbrev hy_nx : List String := ["java/lang/RuntimeException", "java/lang/Exception"]
noncomputable def hy_ts : List (String × Nat × String) := [(RX9, 169, "what is 0 to 8"), (RX9, 195, "the text is no note"), (RX9, 236, "what is 0 to 2"), (RX9, 238, "the two stamps are one"), (RX9, 254, "the tellings do not agree"), (RX9, 260, "there is no such bound"), (RX9, 273, "there is no such thing"), (RX9, 276, "the number is too small or too great"), (RX9, 280, "there are as many as there may be")]
noncomputable def hy_wl : List (String × Nat × String × Nat) := [(RX3, 37, "jar", 0), (RX3, 39, "oil", 1), (RX3, 41, "maker", 2), (RX3, 43, "year", 3), (RX3, 45, "due", 4), (RX10, 173, "jar", 0), (RX10, 175, "oil", 1), (RX10, 176, "maker", 2), (RX10, 177, "year", 3), (RX10, 178, "due", 4)]
noncomputable def hy_sl : List Nat := [3, 3, 5, 4, 3]
noncomputable def hy_sb : List (List Int32) := [[106, 97, 114], [111, 105, 108], [109, 97, 107, 101, 114], [121, 101, 97, 114], [100, 117, 101]]
noncomputable def hy_thr (G : hy_G) (U : State) : Prop := vx_Zq Bundle.tN "UNASSIGNED_STACK" Bundle.steD (fun q => G.2.2.1 ≤ q) U U.heap ∧ vx_Zq Bundle.tN "SUPPRESSED_SENTINEL" Bundle.listD (fun q => G.2.2.1 ≤ q) U U.heap ∧ (∀ q ∈ hy_ts, ∃ a, vk_R q.1 q.2.1 q.2.2 a U) ∧ (∀ X ∈ hy_cl, va_Nw (.castable X X) U) ∧ ∀ y ∈ hy_dc, va_Nw (.declares y) U
noncomputable def hy_str (G : hy_G) (U : State) : Prop := vk_S 5 hy_sl hy_sb G.2.2.2.2.2.1 G.2.2.2.2.2.2 (fun q => G.2.2.1 ≤ q) U U.heap ∧ va_Z "java/lang/String" "COMPACT_STRINGS" "Z" (.int 1) (fun q => G.2.2.1 ≤ q) U U.heap ∧ va_Zq "jdk/internal/util/Preconditions" "SIOOBE_FORMATTER" "Ljava/util/function/BiFunction;" (fun q => G.2.2.1 ≤ q) U U.heap ∧ ∀ q ∈ hy_wl, vk_R q.1 q.2.1 q.2.2.1 (G.2.2.2.2.2.1 q.2.2.2) U
theorem hy_thr.kept {G : hy_G} {s U : State} (hk : ∀ a : Nat, a < s.heap.size → ¬ (G.2.2.1 ≤ a) → U.heap[a]? = s.heap[a]?) (hW : s.WarmedH U.vm) (h : hy_thr G s) : hy_thr G U := by
  obtain ⟨h1, h2, h3, h4, h5⟩ := h
  refine ⟨(vx_Zq.kept h1 hk).moved hW.alike, (vx_Zq.kept h2 hk).moved hW.alike, fun q hq => ?_, fun X hX => va_Nw.warmC hW (h4 X hX), fun y hy => va_tabs rfl (rfl : (s.setVm U.vm).vm = U.vm) (by rw [Cond.declares_setVm hW.alike]; exact h5 y hy)⟩
  obtain ⟨a, ha⟩ := h3 q hq
  exact ⟨a, ha.warm hW⟩
theorem hy_str.kept {G : hy_G} {s U : State} (hk : ∀ a : Nat, a < s.heap.size → ¬ (G.2.2.1 ≤ a) → U.heap[a]? = s.heap[a]?) (hW : s.WarmedH U.vm) (h : hy_str G s) : hy_str G U := by
  obtain ⟨h1, h2, h3, h4⟩ := h
  exact ⟨vk_S.moved hW.alike (vk_S.kept h1 hk), va_Z.moved hW.alike (va_Z.kept h2 hk), va_Zq.moved hW.alike (va_Zq.kept h3 hk), fun q hq => (h4 q hq).warm hW⟩
noncomputable def hy_env (G : hy_G) (U : State) : Prop := hy_nst U ∧ hy_thr G U ∧ hy_str G U
theorem hy_env.kept {G : hy_G} {s U : State} {H : Heap} {locs : List Loc} {A : Nat → Prop} (hz : ∀ q, A q → G.2.2.1 ≤ q) (hS : va_S A s.heap H locs) (hU : U.heap = H) (hW : s.WarmedH U.vm) (h : hy_env G s) : hy_env G U := by
  have hk : ∀ a : Nat, a < s.heap.size → ¬ (G.2.2.1 ≤ a) → U.heap[a]? = s.heap[a]? := fun a ha hn => by rw [hU]; exact hS.2.1 a ha (fun z => hn (hz a z))
  exact ⟨h.1.warm hW, h.2.1.kept hk hW, h.2.2.kept hk hW⟩
theorem hy_env.calling {G : hy_G} {U : State} {g : JFrame} {mk : MethodId} {a : Array Value} (h : hy_env G U) : hy_env G (U.calling g mk a) := by
  obtain ⟨h0, ⟨h1, h2, h3, h4, h5⟩, ⟨k1, k2, k3, k4⟩⟩ := h
  refine ⟨h0.same rfl, ⟨vx_Zq.moved (u := U) (U := U.calling g mk a) (Vm.Alike.refl U.vm) h1, vx_Zq.moved (u := U) (U := U.calling g mk a) (Vm.Alike.refl U.vm) h2, fun q hq => ?_, fun X hX => va_Nw.same rfl (rfl : U.vm = (U.calling g mk a).vm) (h4 X hX), fun y hy => va_Nw.same rfl (rfl : U.vm = (U.calling g mk a).vm) (h5 y hy)⟩, ⟨vk_S.moved (u := U) (U := U.calling g mk a) (Vm.Alike.refl U.vm) k1, va_Z.moved (u := U) (U := U.calling g mk a) (Vm.Alike.refl U.vm) k2, va_Zq.moved (u := U) (U := U.calling g mk a) (Vm.Alike.refl U.vm) k3, fun q hq => vk_R.same (u := U) (U := U.calling g mk a) rfl (k4 q hq)⟩⟩
  obtain ⟨b, hb⟩ := h3 q hq
  exact ⟨b, vk_R.same (u := U) (U := U.calling g mk a) rfl hb⟩
noncomputable def hy_B (own : String) (cc : ByteArray) (nL : Nat) (Ts : List Cond) (G : hy_G) (A : Nat → Prop) (p : Program) (s : State) (m : MethodId) (args : Array Value) (c : Code) : Prop := CallFix p m c cc nL s args Ts own ∧ va_K G.1 vwCl (hy_tys G) s ∧ hy_env G s ∧ ∀ q, A q → G.2.2.1 ≤ q
noncomputable def hy_w (wf : hy_G → hy_S → va_W) (G : hy_G) (A : Nat → Prop) (s : State) (σ : hy_S) (H : Heap) (locs : List Loc) : Prop := va_P G.1 vwCl (wf G σ) H ∧ va_D A (wf G σ) ∧ va_S A s.heap H locs
/-- what a plain method begins and ends with -/
noncomputable def hy_pre (wf : hy_G → hy_S → va_W) (G : hy_G) (σ : hy_S) (sz : Nat) (U : State) : Prop := U.heap.size = sz ∧ va_P G.1 vwCl (wf G σ) U.heap ∧ va_K G.1 vwCl (hy_tys G) U ∧ va_D (fun _ => True) (wf G σ) ∧ hy_env G U ∧ ∀ q, va_A (wf G σ) sz q → G.2.2.1 ≤ q
noncomputable def hy_Q (wf : hy_G → hy_S → va_W) (G : hy_G) (σ : hy_S) (sz : Nat) (o : hy_S × Int32) : Array Value → State → Outcome → State → Prop := va_Qi (fun r u => r = o.2 ∧ u = o.1) (fun u t => va_P G.1 vwCl (wf G u) t.heap) (va_A (wf G σ) sz)
noncomputable def hy_Qv (wf : hy_G → hy_S → va_W) (G : hy_G) (σ : hy_S) (sz : Nat) (o : hy_S × Int32) : Array Value → State → Outcome → State → Prop := va_Qv (fun u => u = o.1) (fun u t => va_P G.1 vwCl (wf G u) t.heap) (va_A (wf G σ) sz)
noncomputable abbrev hy_M (l : Launch) (y : MethodName) (ws : List Cond) (rm : Room) (wf : hy_G → hy_S → va_W) (G : hy_G) (σ : hy_S) (sz : Nat) (av : List Value) (o : hy_S × Int32) : Prop := Met l y ws rm (va_Pc av (hy_pre wf G σ sz)) (hy_Q wf G σ sz o) 0 0 (va_A (wf G σ) sz)
noncomputable abbrev hy_Mv (l : Launch) (y : MethodName) (ws : List Cond) (rm : Room) (wf : hy_G → hy_S → va_W) (G : hy_G) (σ : hy_S) (sz : Nat) (av : List Value) (o : hy_S × Int32) : Prop := Met l y ws rm (va_Pc av (hy_pre wf G σ sz)) (hy_Qv wf G σ sz o) 0 0 (va_A (wf G σ) sz)
/-- the addresses are the same in every state -/
noncomputable def hy_fix (wf : hy_G → hy_S → va_W) : Prop := ∀ (G : hy_G) (σ τ : hy_S), (wf G σ).map (fun q => q.1) = (wf G τ).map (fun q => q.1)
theorem hy_fix.at {wf : hy_G → hy_S → va_W} (hf : hy_fix wf) {G : hy_G} {σ τ : hy_S} {k : Nat} {q : Nat × va_E} (h : (wf G σ)[k]? = some q) : ∃ q', (wf G τ)[k]? = some q' ∧ q'.1 = q.1 := by
  have e : ((wf G σ).map (fun q => q.1))[k]? = ((wf G τ).map (fun q => q.1))[k]? := by rw [hf G σ τ]
  rw [List.getElem?_map, List.getElem?_map, h] at e
  cases h2 : (wf G τ)[k]? with
  | none => rw [h2] at e; cases e
  | some q' => rw [h2] at e; exact ⟨q', rfl, (Option.some.inj e).symm⟩
theorem hy_fix.D {wf : hy_G → hy_S → va_W} (hf : hy_fix wf) {G : hy_G} {σ τ : hy_S} {A : Nat → Prop} (h : va_D A (wf G σ)) : va_D A (wf G τ) := by
  refine ⟨fun i j x y hi hj hxy => ?_, fun k q hk => ?_⟩
  · obtain ⟨x', h1, e1⟩ := hf.at (τ := σ) hi
    obtain ⟨y', h2, e2⟩ := hf.at (τ := σ) hj
    exact h.1 i j x' y' h1 h2 (by rw [e1, e2]; exact hxy)
  · obtain ⟨q', h1, e1⟩ := hf.at (τ := σ) hk
    rw [← e1]
    exact h.2 k q' h1
theorem hy_fix.A {wf : hy_G → hy_S → va_W} (hf : hy_fix wf) {G : hy_G} {σ τ : hy_S} {sz q : Nat} (h : va_A (wf G σ) sz q) : va_A (wf G τ) sz q := by
  rcases h with ⟨k, e, h⟩ | h
  · obtain ⟨q', h1, e1⟩ := hf.at (τ := τ) h
    refine Or.inl ⟨k, q'.2, ?_⟩
    have e2 : q'.1 = q := e1
    rw [h1, ← e2]
  · exact Or.inr h
section HYR
variable {p : Program} {l : Launch} {e : Env} {R : Room} {s : State} {m : MethodId} {args : Array Value} {below : List Frame} {meth : Method} {c : Code} {H : Heap} {locs : List Loc} {cells slots : Nat} {Q : State → Prop} {cc : ByteArray} {pc : Nat} {ls : Array Slot} {rest : List Value} {G : hy_G} {A : Nat → Prop} {own : String} {nL : Nat} {Ts : List Cond} {wf : hy_G → hy_S → va_W} {σ : hy_S}
theorem hy_iald (B : hy_B own cc nL Ts G A p s m args c) (w : hy_w wf G A s σ H locs) {q j n a : Nat} (hq : ∀ σ, (wf G σ)[q]? = some (a, .inl (G.2.1 0, n, .inl (σ.1 j)))) {i v : Int32} (hin : vp_in i n) (hv : v = σ.1 j i.toNatClampNeg) (d : decode cc pc = .ok (.iaload, 1)) (kk : W p l e R s m args below meth c H locs cells slots Q (F0 m (pc + 1) ls (.int v :: rest))) : W p l e R s m args below meth c H locs cells slots Q (F0 m pc ls (.int i :: .ref a :: rest)) := by
  rw [hv] at kk
  exact va_iald B.1.1 B.1.2.1 B.2.1 w.1 q 0 (hq σ) rfl hin d kk
theorem hy_iast (B : hy_B own cc nL Ts G A p s m args c) (w : hy_w wf G A s σ H locs) {q j n a : Nat} (hq : ∀ σ, (wf G σ)[q]? = some (a, .inl (G.2.1 0, n, .inl (σ.1 j)))) (hs : ∀ σ f, (wf G σ).set q (a, .inl (G.2.1 0, n, .inl f)) = wf G (hy_sc σ j f)) {i x : Int32} {τ : hy_S} (hin : vp_in i n) (hτ : τ = hy_sc σ j (upd (σ.1 j) i.toNatClampNeg (x))) (d : decode cc pc = .ok (.iastore, 1)) (kk : ∀ (H1 : Heap) (locs1 : List Loc), hy_w wf G A s τ H1 locs1 → W p l e R s m args below meth c H1 locs1 cells slots Q (F0 m (pc + 1) ls rest)) : W p l e R s m args below meth c H locs cells slots Q (F0 m pc ls (.int x :: .int i :: .ref a :: rest)) :=
  va_iast B.1.1 B.1.2.1 B.2.1 w.1 w.2.1 w.2.2 q 0 (hq σ) rfl hin d (fun H1 l1 h1 h2 h3 => kk H1 l1 ⟨by rw [hs, ← hτ] at h1; exact h1, by rw [hs, ← hτ] at h2; exact h2, h3⟩)
theorem hy_bald (B : hy_B own cc nL Ts G A p s m args c) (w : hy_w wf G A s σ H locs) {q j n a : Nat} (hq : ∀ σ, (wf G σ)[q]? = some (a, .inl (G.2.1 1, n, .inl (σ.1 j)))) {i v : Int32} (hin : vp_in i n) (hv : v = σ.1 j i.toNatClampNeg) (d : decode cc pc = .ok (.baload, 1)) (kk : W p l e R s m args below meth c H locs cells slots Q (F0 m (pc + 1) ls (.int v :: rest))) : W p l e R s m args below meth c H locs cells slots Q (F0 m pc ls (.int i :: .ref a :: rest)) := by
  rw [hv] at kk
  exact va_bald B.1.1 B.1.2.1 B.2.1 w.1 q 1 (hq σ) rfl hin d kk
theorem hy_bast (B : hy_B own cc nL Ts G A p s m args c) (w : hy_w wf G A s σ H locs) {q j n a : Nat} (hq : ∀ σ, (wf G σ)[q]? = some (a, .inl (G.2.1 1, n, .inl (σ.1 j)))) (hs : ∀ σ f, (wf G σ).set q (a, .inl (G.2.1 1, n, .inl f)) = wf G (hy_sc σ j f)) {i x : Int32} {τ : hy_S} (hin : vp_in i n) (hτ : τ = hy_sc σ j (upd (σ.1 j) i.toNatClampNeg (vp_nar .byte x))) (d : decode cc pc = .ok (.bastore, 1)) (kk : ∀ (H1 : Heap) (locs1 : List Loc), hy_w wf G A s τ H1 locs1 → W p l e R s m args below meth c H1 locs1 cells slots Q (F0 m (pc + 1) ls rest)) : W p l e R s m args below meth c H locs cells slots Q (F0 m pc ls (.int x :: .int i :: .ref a :: rest)) :=
  va_bast B.1.1 B.1.2.1 B.2.1 w.1 w.2.1 w.2.2 q 1 (hq σ) rfl hin d (fun H1 l1 h1 h2 h3 => kk H1 l1 ⟨by rw [hs, ← hτ] at h1; exact h1, by rw [hs, ← hτ] at h2; exact h2, h3⟩)
theorem hy_zald (B : hy_B own cc nL Ts G A p s m args c) (w : hy_w wf G A s σ H locs) {q j n a : Nat} (hq : ∀ σ, (wf G σ)[q]? = some (a, .inl (G.2.1 2, n, .inl (σ.1 j)))) {i v : Int32} (hin : vp_in i n) (hv : v = σ.1 j i.toNatClampNeg) (d : decode cc pc = .ok (.baload, 1)) (kk : W p l e R s m args below meth c H locs cells slots Q (F0 m (pc + 1) ls (.int v :: rest))) : W p l e R s m args below meth c H locs cells slots Q (F0 m pc ls (.int i :: .ref a :: rest)) := by
  rw [hv] at kk
  exact va_zald B.1.1 B.1.2.1 B.2.1 w.1 q 2 (hq σ) rfl hin d kk
theorem hy_zast (B : hy_B own cc nL Ts G A p s m args c) (w : hy_w wf G A s σ H locs) {q j n a : Nat} (hq : ∀ σ, (wf G σ)[q]? = some (a, .inl (G.2.1 2, n, .inl (σ.1 j)))) (hs : ∀ σ f, (wf G σ).set q (a, .inl (G.2.1 2, n, .inl f)) = wf G (hy_sc σ j f)) {i x : Int32} {τ : hy_S} (hin : vp_in i n) (hτ : τ = hy_sc σ j (upd (σ.1 j) i.toNatClampNeg (vp_nar .boolean x))) (d : decode cc pc = .ok (.bastore, 1)) (kk : ∀ (H1 : Heap) (locs1 : List Loc), hy_w wf G A s τ H1 locs1 → W p l e R s m args below meth c H1 locs1 cells slots Q (F0 m (pc + 1) ls rest)) : W p l e R s m args below meth c H locs cells slots Q (F0 m pc ls (.int x :: .int i :: .ref a :: rest)) :=
  va_zast B.1.1 B.1.2.1 B.2.1 w.1 w.2.1 w.2.2 q 2 (hq σ) rfl hin d (fun H1 l1 h1 h2 h3 => kk H1 l1 ⟨by rw [hs, ← hτ] at h1; exact h1, by rw [hs, ← hτ] at h2; exact h2, h3⟩)
theorem hy_get (B : hy_B own cc nL Ts G A p s m args c) (w : hy_w wf G A s σ H locs) {q ci N k a idx : Nat} {C : String} {T : u_T} {fs : hy_G → hy_S → List Value} {v : Value} (hq : ∀ σ, (wf G σ)[q]? = some (a, .inr (ci, fs G σ))) (hc : vwCl[ci]? = some (C, T, N)) (hin : ∀ w ∈ u_ws C T N, w ∈ Ts) (hk : k < N) (hl : Cond.fieldLink own idx (T k).1 (T k).2.1 (T k).2.2.1 ∈ Ts) (hv : (fs G σ)[k]? = some v) (d : decode cc pc = .ok (.getfield idx, 3)) (kk : W p l e R s m args below meth c H locs cells slots Q (F0 m (pc + 3) ls (v :: rest))) : W p l e R s m args below meth c H locs cells slots Q (F0 m pc ls (.ref a :: rest)) :=
  va_get B.1.1 B.1.2.1 B.1.2.2.2.2 hin B.1.2.2.2.1 B.2.1 w.1 q (hq σ) hc k hk (B.1.2.2.2.2 _ hl) (fun _ h => h) hv d kk
theorem hy_getN (B : hy_B own cc nL Ts G A p s m args c) (w : hy_w wf G A s σ H locs) {q ci N k a idx : Nat} {C : String} {T : u_T} {fs : hy_G → hy_S → List Value} {v : Value} (hq : ∀ σ, (wf G σ)[q]? = some (a, .inr (ci, fs G σ))) (hc : vwCl[ci]? = some (C, T, N)) (hin : ∀ w ∈ u_ws C T N, w ∈ Ts) (hk : k < N) (hl : (own, idx, (T k).1, (T k).2.1, (T k).2.2.1, "AmphoraYard") ∈ hy_nl) (hv : (fs G σ)[k]? = some v) (d : decode cc pc = .ok (.getfield idx, 3)) (kk : W p l e R s m args below meth c H locs cells slots Q (F0 m (pc + 3) ls (v :: rest))) : W p l e R s m args below meth c H locs cells slots Q (F0 m pc ls (.ref a :: rest)) :=
  va_getN B.1.1 B.1.2.1 B.1.2.2.2.2 hin B.1.2.2.2.1 B.2.1 w.1 q (hq σ) hc k hk (va_Nw.use rfl (B.2.2.1.1 _ hl)) (fun _ h => h) hv d kk
theorem hy_put (B : hy_B own cc nL Ts G A p s m args c) (w : hy_w wf G A s σ H locs) {q ci N k a idx j : Nat} {C : String} {T : u_T} {fs : hy_G → hy_S → List Value} {v : Int32} {τ : hy_S} (hq : ∀ σ, (wf G σ)[q]? = some (a, .inr (ci, fs G σ))) (hc : vwCl[ci]? = some (C, T, N)) (hin : ∀ w ∈ u_ws C T N, w ∈ Ts) (ty : Nat → FieldType) (hty : ∀ k, k < N → parseFieldDescriptor (T k).2.2.1 = some (ty k)) (hnm : ∀ a, a < N → ∀ b, b < N → a ≠ b → (T a).2.1 ≠ (T b).2.1) (hk : k < N) (hl : Cond.fieldLink own idx (T k).1 (T k).2.1 (T k).2.2.1 ∈ Ts) (hfin : (T k).2.2.2 = false) (hd : parseFieldDescriptor (T k).2.2.1 = some .int) (hlen : k < (fs G σ).length) (hs : ∀ σ v, (wf G σ).set q (a, .inr (ci, (fs G σ).set k (.int v))) = wf G (hy_si σ j v)) (hτ : τ = hy_si σ j v) (d : decode cc pc = .ok (.putfield idx, 3)) (kk : ∀ (H1 : Heap) (locs1 : List Loc), hy_w wf G A s τ H1 locs1 → W p l e R s m args below meth c H1 locs1 cells slots Q (F0 m (pc + 3) ls rest)) : W p l e R s m args below meth c H locs cells slots Q (F0 m pc ls (.int v :: .ref a :: rest)) :=
  va_put B.1.1 B.1.2.1 B.1.2.2.2.2 hin ty hty hnm B.1.2.2.2.1 B.2.1 w.1 w.2.1 w.2.2 q (hq σ) hc k hk (B.1.2.2.2.2 _ hl) (fun _ h => h) hfin hd rfl rfl hlen d (fun H1 l1 h1 h2 h3 => kk H1 l1 ⟨by rw [hs, ← hτ] at h1; exact h1, by rw [hs, ← hτ] at h2; exact h2, h3⟩)
theorem hy_blind {wf : hy_G → hy_S → va_W} {G : hy_G} {σ : hy_S} {sz : Nat} {av : List Value} : FrameBlind (va_Pc av (hy_pre wf G σ sz)) := by
  intro a U g mk q
  obtain ⟨q0, q1, qP, qK, qD, qN, qA⟩ := q
  exact ⟨q0, q1, qP, va_K.moved (u := U) (U := U.calling g mk a) (Vm.Alike.refl U.vm) qK, qD, qN.calling, qA⟩
theorem hy_freeA (hA : ∀ q : Nat, s.heap.size ≤ q → A q) (w : hy_w wf G A s σ H locs) : ∀ q, va_A (wf G σ) H.size q → A q := by
  intro q h
  rcases h with ⟨k, e, h⟩ | h
  · exact w.2.1.2 k (q, e) h
  · exact hA q (Nat.le_trans w.2.2.1 h)
theorem hy_preAt (hA : ∀ q : Nat, s.heap.size ≤ q → A q) (B : hy_B own cc nL Ts G A p s m args c) (w : hy_w wf G A s σ H locs) (av : List Value) : ∀ U : State, U.heap = H → s.WarmedH U.vm → va_Pc av (hy_pre wf G σ H.size) av.toArray U := fun U hU hW => ⟨rfl, by rw [hU], by rw [hU]; exact w.1, va_K.moved hW.alike B.2.1, w.2.1.weaken (fun _ _ _ _ => trivial), B.2.2.1.kept B.2.2.2 w.2.2 hU hW, fun q h => B.2.2.2 q (hy_freeA hA w q h)⟩
/-- a call of an instance method of either side that returns an int -/
theorem hy_cv (hfix : hy_fix wf) (hA : ∀ q : Nat, s.heap.size ≤ q → A q) (B : hy_B own cc nL Ts G A p s m args c) (w : hy_w wf G A s σ H locs) {y : MethodName} {bytes : ByteArray} {maxL n idx a q0 ci : Nat} {ret : Option FieldType} {ws : List Cond} {rm : Room} {cq : vw_C} {fs : List Value} {As : List Value} {o : hy_S × Int32} {st0 : List Value}
    (hM : ∀ sz, hy_M l y ws rm wf G σ sz (.ref a :: As) o) (cw : CallW R s args own cq.1 idx y bytes maxL ret ws rm 0 0 n) (hc : vwCl[ci]? = some cq) (he : (wf G σ)[q0]? = some (a, .inr (ci, fs))) (hn : As.length = n) (hsz : ls.size = nL) (hst : st0 = As.reverse ++ .ref a :: rest) (hW : (rest.map fun v => v.category).sum ≤ 8) (d : decode cc pc = .ok (.invokevirtual idx, 3)) (hcl : cells ≤ R.cells ∧ slots ≤ R.slots)
    (kk : ∀ (H1 : Heap) (locs1 : List Loc), hy_w wf G A s o.1 H1 locs1 → W p l e R s m args below meth c H1 locs1 cells slots Q (F0 m (pc + 3) ls (.int o.2 :: rest))) : W p l e R s m args below meth c H locs cells slots Q (F0 m pc ls st0) := by
  have hF := hy_freeA hA w
  refine va_calli (va_runV (As := As) (rest := rest) B.1 (hM H.size) cw ⟨hy_blind, va_recv B.2.1 w.1 hc he, hy_preAt hA B w (.ref a :: As)⟩ rfl hn hsz hst (lv_room hW) d hcl) w.2.2 (fun q _ h => hF q h) hF (fun r u t H1 locs1 ht hvm hw hB hz1 hk1 hS => ?_)
  obtain ⟨rfl, rfl⟩ := hw
  rw [ht] at hB
  exact kk H1 locs1 ⟨hB, hfix.D w.2.1, hS⟩
theorem hy_cvv (hfix : hy_fix wf) (hA : ∀ q : Nat, s.heap.size ≤ q → A q) (B : hy_B own cc nL Ts G A p s m args c) (w : hy_w wf G A s σ H locs) {y : MethodName} {bytes : ByteArray} {maxL n idx a q0 ci : Nat} {ret : Option FieldType} {ws : List Cond} {rm : Room} {cq : vw_C} {fs : List Value} {As : List Value} {o : hy_S × Int32} {st0 : List Value}
    (hM : ∀ sz, hy_Mv l y ws rm wf G σ sz (.ref a :: As) o) (cw : CallW R s args own cq.1 idx y bytes maxL ret ws rm 0 0 n) (hc : vwCl[ci]? = some cq) (he : (wf G σ)[q0]? = some (a, .inr (ci, fs))) (hn : As.length = n) (hsz : ls.size = nL) (hst : st0 = As.reverse ++ .ref a :: rest) (hW : (rest.map fun v => v.category).sum ≤ 8) (d : decode cc pc = .ok (.invokevirtual idx, 3)) (hcl : cells ≤ R.cells ∧ slots ≤ R.slots)
    (kk : ∀ (H1 : Heap) (locs1 : List Loc), hy_w wf G A s o.1 H1 locs1 → W p l e R s m args below meth c H1 locs1 cells slots Q (F0 m (pc + 3) ls rest)) : W p l e R s m args below meth c H locs cells slots Q (F0 m pc ls st0) := by
  have hF := hy_freeA hA w
  refine va_callv (va_runV (As := As) (rest := rest) B.1 (hM H.size) cw ⟨hy_blind, va_recv B.2.1 w.1 hc he, hy_preAt hA B w (.ref a :: As)⟩ rfl hn hsz hst (lv_room hW) d hcl) w.2.2 (fun q _ h => hF q h) hF (fun u t H1 locs1 ht hvm hw hB hz1 hk1 hS => ?_)
  obtain rfl := hw
  rw [ht] at hB
  exact kk H1 locs1 ⟨hB, hfix.D w.2.1, hS⟩
theorem hy_cs (hfix : hy_fix wf) (hA : ∀ q : Nat, s.heap.size ≤ q → A q) (B : hy_B own cc nL Ts G A p s m args c) (w : hy_w wf G A s σ H locs) {y : MethodName} {bytes : ByteArray} {maxL n idx : Nat} {ret : Option FieldType} {ws : List Cond} {rm : Room} {As : List Value} {o : hy_S × Int32} {st0 : List Value}
    (hM : ∀ sz, hy_M l y ws rm wf G σ sz As o) (cw : CallB R s args own idx y bytes maxL ret ws rm 0 0 n ∧ (Cond.static y).before args s = true) (hn : As.length = n) (hsz : ls.size = nL) (hst : st0 = As.reverse ++ rest) (hW : (rest.map fun v => v.category).sum ≤ 8) (d : decode cc pc = .ok (.invokestatic idx, 3)) (hcl : cells ≤ R.cells ∧ slots ≤ R.slots)
    (kk : ∀ (H1 : Heap) (locs1 : List Loc), hy_w wf G A s o.1 H1 locs1 → W p l e R s m args below meth c H1 locs1 cells slots Q (F0 m (pc + 3) ls (.int o.2 :: rest))) : W p l e R s m args below meth c H locs cells slots Q (F0 m pc ls st0) := by
  have hF := hy_freeA hA w
  refine va_calli (va_runS (As := As) (rest := rest) B.1 (hM H.size) cw ⟨hy_blind, hy_preAt hA B w As⟩ rfl hn hsz hst (lv_room hW) d hcl) w.2.2 (fun q _ h => hF q h) hF (fun r u t H1 locs1 ht hvm hw hB hz1 hk1 hS => ?_)
  obtain ⟨rfl, rfl⟩ := hw
  rw [ht] at hB
  exact kk H1 locs1 ⟨hB, hfix.D w.2.1, hS⟩
theorem hy_csv (hfix : hy_fix wf) (hA : ∀ q : Nat, s.heap.size ≤ q → A q) (B : hy_B own cc nL Ts G A p s m args c) (w : hy_w wf G A s σ H locs) {y : MethodName} {bytes : ByteArray} {maxL n idx : Nat} {ret : Option FieldType} {ws : List Cond} {rm : Room} {As : List Value} {o : hy_S × Int32} {st0 : List Value}
    (hM : ∀ sz, hy_Mv l y ws rm wf G σ sz As o) (cw : CallB R s args own idx y bytes maxL ret ws rm 0 0 n ∧ (Cond.static y).before args s = true) (hn : As.length = n) (hsz : ls.size = nL) (hst : st0 = As.reverse ++ rest) (hW : (rest.map fun v => v.category).sum ≤ 8) (d : decode cc pc = .ok (.invokestatic idx, 3)) (hcl : cells ≤ R.cells ∧ slots ≤ R.slots)
    (kk : ∀ (H1 : Heap) (locs1 : List Loc), hy_w wf G A s o.1 H1 locs1 → W p l e R s m args below meth c H1 locs1 cells slots Q (F0 m (pc + 3) ls rest)) : W p l e R s m args below meth c H locs cells slots Q (F0 m pc ls st0) := by
  have hF := hy_freeA hA w
  refine va_callv (va_runS (As := As) (rest := rest) B.1 (hM H.size) cw ⟨hy_blind, hy_preAt hA B w As⟩ rfl hn hsz hst (lv_room hW) d hcl) w.2.2 (fun q _ h => hF q h) hF (fun u t H1 locs1 ht hvm hw hB hz1 hk1 hS => ?_)
  obtain rfl := hw
  rw [ht] at hB
  exact kk H1 locs1 ⟨hB, hfix.D w.2.1, hS⟩
theorem hy_copy (B : hy_B own cc nL Ts G A p s m args c) (w : hy_w wf G A s σ H locs) {q0 q1 j0 j1 n0 n1 a0 a1 idx : Nat} {sp dp n : Int32} (hq0 : ∀ σ, (wf G σ)[q0]? = some (a0, .inl (G.2.1 0, n0, .inl (σ.1 j0)))) (hq1 : ∀ σ, (wf G σ)[q1]? = some (a1, .inl (G.2.1 0, n1, .inl (σ.1 j1)))) (hs : ∀ σ f, (wf G σ).set q1 (a1, .inl (G.2.1 0, n1, .inl f)) = wf G (hy_sc σ j1 f)) {τ : hy_S} (hτ : τ = hy_sc σ j1 (va_cpy (σ.1 j0) (σ.1 j1) sp.toNatClampNeg dp.toNatClampNeg n.toNatClampNeg)) (hsz : ls.size = nL) (hl1 : Cond.methodLink own idx arraycopyName ∈ Ts) (hl2 : Cond.native arraycopyName ∈ Ts) (hl3 : Cond.static arraycopyName ∈ Ts) (hl4 : Cond.initialized "java/lang/System" ∈ Ts) (h1 : ¬ sp < 0) (h2 : ¬ dp < 0) (h3 : ¬ n < 0) (h4 : sp.toNatClampNeg + n.toNatClampNeg ≤ n0) (h5 : dp.toNatClampNeg + n.toNatClampNeg ≤ n1) (hframes : 1 ≤ R.frames) (hlocals : (rest.map fun v => v.category).sum + (nativeFrameWords "java/lang/System" "arraycopy" 5 + 11) ≤ R.locals) (d : decode cc pc = .ok (.invokestatic idx, 3))
    (kk : ∀ (H1 : Heap) (locs1 : List Loc), hy_w wf G A s τ H1 locs1 → W p l e R s m args below meth c H1 locs1 cells slots Q (F0 m (pc + 3) ls rest)) : W p l e R s m args below meth c H locs cells slots Q (F0 m pc ls (.int n :: .int dp :: .ref a1 :: .int sp :: .ref a0 :: rest)) :=
  va_copyi (ty := .int) B.1.1 B.1.2.1 (B.1.2.2.1.trans hsz.symm) B.1.2.2.2.1 (B.1.2.2.2.2 _ hl1) (B.1.2.2.2.2 _ hl2) (B.1.2.2.2.2 _ hl3) (B.1.2.2.2.2 _ hl4) B.2.1 w.1 w.2.1 w.2.2 q0 q1 0 0 (hq0 σ) (hq1 σ) rfl rfl rfl h1 h2 h3 h4 h5 (fun _ _ => rfl) hframes hlocals d (fun H1 l1 h1 h2 h3 => kk H1 l1 ⟨by rw [hs, ← hτ] at h1; exact h1, by rw [hs, ← hτ] at h2; exact h2, h3⟩)
end HYR
noncomputable def cwf_0 (G : hy_G) (σ : hy_S) : List Value := [.ref (G.2.2.2.1 1), .ref (G.2.2.2.1 2), .ref (G.2.2.2.1 3), .ref (G.2.2.2.1 4), .ref (G.2.2.2.1 5), .ref (G.2.2.2.1 6), .ref (G.2.2.2.1 7), .ref (G.2.2.2.1 8), .ref (G.2.2.2.1 9), .int (σ.2 0), .int (σ.2 1)]
noncomputable def cwf_1 (G : hy_G) (σ : hy_S) : List Value := [.ref (G.2.2.2.1 10), .int (σ.2 2)]
noncomputable def cwf_2 (G : hy_G) (σ : hy_S) : List Value := [.ref (G.2.2.2.1 11)]
noncomputable def cwf_3 (G : hy_G) (σ : hy_S) : List Value := [.ref (G.2.2.2.1 12), .ref (G.2.2.2.1 13), .ref (G.2.2.2.1 14), .int (σ.2 3)]
noncomputable def cwf_4 (G : hy_G) (σ : hy_S) : List Value := [.ref (G.2.2.2.1 3), .ref (G.2.2.2.1 15), .ref (G.2.2.2.1 16), .ref (G.2.2.2.1 17), .ref (G.2.2.2.1 18), .ref (G.2.2.2.1 19), .ref (G.2.2.2.1 20), .int (σ.2 4)]
noncomputable def cwf_5 (G : hy_G) (σ : hy_S) : List Value := [.ref (G.2.2.2.1 4), .ref (G.2.2.2.1 21), .ref (G.2.2.2.1 22), .int (σ.2 5)]
noncomputable def cwf_6 (G : hy_G) (σ : hy_S) : List Value := [.ref (G.2.2.2.1 4), .ref (G.2.2.2.1 23), .ref (G.2.2.2.1 24), .int (σ.2 6)]
noncomputable def cwf_7 (G : hy_G) (σ : hy_S) : List Value := [.ref (G.2.2.2.1 25), .ref (G.2.2.2.1 26), .ref (G.2.2.2.1 27)]
noncomputable def cwf_8 (G : hy_G) (σ : hy_S) : List Value := [.ref (G.2.2.2.1 28), .ref (G.2.2.2.1 29), .ref (G.2.2.2.1 30), .ref (G.2.2.2.1 31), .int (σ.2 7)]
noncomputable def cwf_9 (G : hy_G) (σ : hy_S) : List Value := [.ref (G.2.2.2.1 32), .ref (G.2.2.2.1 33), .ref (G.2.2.2.1 34), .ref (G.2.2.2.1 35), .ref (G.2.2.2.1 36), .ref (G.2.2.2.1 37), .ref (G.2.2.2.1 38), .ref (G.2.2.2.1 39), .int (σ.2 8), .int (σ.2 9)]
noncomputable def cw (G : hy_G) (σ : hy_S) : va_W := [(G.2.2.2.1 0, .inr (9, cwf_0 G σ)), (G.2.2.2.1 1, .inr (7, cwf_1 G σ)), (G.2.2.2.1 2, .inr (3, cwf_2 G σ)), (G.2.2.2.1 3, .inr (2, cwf_3 G σ)), (G.2.2.2.1 4, .inr (1, cwf_4 G σ)), (G.2.2.2.1 5, .inr (0, cwf_5 G σ)), (G.2.2.2.1 6, .inr (6, cwf_6 G σ)), (G.2.2.2.1 7, .inr (4, cwf_7 G σ)), (G.2.2.2.1 8, .inr (5, cwf_8 G σ)), (G.2.2.2.1 9, .inr (8, cwf_9 G σ)), (G.2.2.2.1 10, .inl (G.2.1 1, 400, .inl (σ.1 0))), (G.2.2.2.1 11, .inl (G.2.1 0, 5, .inl (σ.1 1))), (G.2.2.2.1 12, .inl (G.2.1 0, 8, .inl (σ.1 2))), (G.2.2.2.1 13, .inl (G.2.1 0, 8, .inl (σ.1 3))), (G.2.2.2.1 14, .inl (G.2.1 0, 8, .inl (σ.1 4))), (G.2.2.2.1 15, .inl (G.2.1 0, 60, .inl (σ.1 5))), (G.2.2.2.1 16, .inl (G.2.1 0, 60, .inl (σ.1 6))), (G.2.2.2.1 17, .inl (G.2.1 0, 60, .inl (σ.1 7))), (G.2.2.2.1 18, .inl (G.2.1 0, 60, .inl (σ.1 8))), (G.2.2.2.1 19, .inl (G.2.1 0, 60, .inl (σ.1 9))), (G.2.2.2.1 20, .inl (G.2.1 0, 60, .inl (σ.1 10))), (G.2.2.2.1 21, .inl (G.2.1 0, 240, .inl (σ.1 11))), (G.2.2.2.1 22, .inl (G.2.1 0, 24, .inl (σ.1 12))), (G.2.2.2.1 23, .inl (G.2.1 0, 20, .inl (σ.1 13))), (G.2.2.2.1 24, .inl (G.2.1 0, 21, .inl (σ.1 14))), (G.2.2.2.1 25, .inl (G.2.1 0, 8, .inl (σ.1 15))), (G.2.2.2.1 26, .inl (G.2.1 0, 8, .inl (σ.1 16))), (G.2.2.2.1 27, .inl (G.2.1 0, 8, .inl (σ.1 17))), (G.2.2.2.1 28, .inl (G.2.1 0, 60, .inl (σ.1 18))), (G.2.2.2.1 29, .inl (G.2.1 0, 60, .inl (σ.1 19))), (G.2.2.2.1 30, .inl (G.2.1 0, 60, .inl (σ.1 20))), (G.2.2.2.1 31, .inl (G.2.1 0, 60, .inl (σ.1 21))), (G.2.2.2.1 32, .inl (G.2.1 0, 60, .inl (σ.1 22))), (G.2.2.2.1 33, .inl (G.2.1 0, 60, .inl (σ.1 23))), (G.2.2.2.1 34, .inl (G.2.1 0, 60, .inl (σ.1 24))), (G.2.2.2.1 35, .inl (G.2.1 0, 60, .inl (σ.1 25))), (G.2.2.2.1 36, .inl (G.2.1 0, 60, .inl (σ.1 26))), (G.2.2.2.1 37, .inl (G.2.1 0, 60, .inl (σ.1 27))), (G.2.2.2.1 38, .inl (G.2.1 0, 13, .inl (σ.1 28))), (G.2.2.2.1 39, .inl (G.2.1 0, 13, .inl (σ.1 29)))]
theorem cwq_0 (G : hy_G) (σ : hy_S) : (cw G σ)[0]? = some (G.2.2.2.1 0, .inr (9, cwf_0 G σ)) := rfl
theorem cwp_0 (G : hy_G) (σ : hy_S) (v : Int32) : (cw G σ).set 0 (G.2.2.2.1 0, .inr (9, (cwf_0 G σ).set 9 (.int v))) = cw G (hy_si σ 0 v) := rfl
theorem cwp_1 (G : hy_G) (σ : hy_S) (v : Int32) : (cw G σ).set 0 (G.2.2.2.1 0, .inr (9, (cwf_0 G σ).set 10 (.int v))) = cw G (hy_si σ 1 v) := rfl
theorem cwq_1 (G : hy_G) (σ : hy_S) : (cw G σ)[1]? = some (G.2.2.2.1 1, .inr (7, cwf_1 G σ)) := rfl
theorem cwp_2 (G : hy_G) (σ : hy_S) (v : Int32) : (cw G σ).set 1 (G.2.2.2.1 1, .inr (7, (cwf_1 G σ).set 1 (.int v))) = cw G (hy_si σ 2 v) := rfl
theorem cwq_2 (G : hy_G) (σ : hy_S) : (cw G σ)[2]? = some (G.2.2.2.1 2, .inr (3, cwf_2 G σ)) := rfl
theorem cwq_3 (G : hy_G) (σ : hy_S) : (cw G σ)[3]? = some (G.2.2.2.1 3, .inr (2, cwf_3 G σ)) := rfl
theorem cwp_3 (G : hy_G) (σ : hy_S) (v : Int32) : (cw G σ).set 3 (G.2.2.2.1 3, .inr (2, (cwf_3 G σ).set 3 (.int v))) = cw G (hy_si σ 3 v) := rfl
theorem cwq_4 (G : hy_G) (σ : hy_S) : (cw G σ)[4]? = some (G.2.2.2.1 4, .inr (1, cwf_4 G σ)) := rfl
theorem cwp_4 (G : hy_G) (σ : hy_S) (v : Int32) : (cw G σ).set 4 (G.2.2.2.1 4, .inr (1, (cwf_4 G σ).set 7 (.int v))) = cw G (hy_si σ 4 v) := rfl
theorem cwq_5 (G : hy_G) (σ : hy_S) : (cw G σ)[5]? = some (G.2.2.2.1 5, .inr (0, cwf_5 G σ)) := rfl
theorem cwp_5 (G : hy_G) (σ : hy_S) (v : Int32) : (cw G σ).set 5 (G.2.2.2.1 5, .inr (0, (cwf_5 G σ).set 3 (.int v))) = cw G (hy_si σ 5 v) := rfl
theorem cwq_6 (G : hy_G) (σ : hy_S) : (cw G σ)[6]? = some (G.2.2.2.1 6, .inr (6, cwf_6 G σ)) := rfl
theorem cwp_6 (G : hy_G) (σ : hy_S) (v : Int32) : (cw G σ).set 6 (G.2.2.2.1 6, .inr (6, (cwf_6 G σ).set 3 (.int v))) = cw G (hy_si σ 6 v) := rfl
theorem cwq_7 (G : hy_G) (σ : hy_S) : (cw G σ)[7]? = some (G.2.2.2.1 7, .inr (4, cwf_7 G σ)) := rfl
theorem cwq_8 (G : hy_G) (σ : hy_S) : (cw G σ)[8]? = some (G.2.2.2.1 8, .inr (5, cwf_8 G σ)) := rfl
theorem cwp_7 (G : hy_G) (σ : hy_S) (v : Int32) : (cw G σ).set 8 (G.2.2.2.1 8, .inr (5, (cwf_8 G σ).set 4 (.int v))) = cw G (hy_si σ 7 v) := rfl
theorem cwq_9 (G : hy_G) (σ : hy_S) : (cw G σ)[9]? = some (G.2.2.2.1 9, .inr (8, cwf_9 G σ)) := rfl
theorem cwp_8 (G : hy_G) (σ : hy_S) (v : Int32) : (cw G σ).set 9 (G.2.2.2.1 9, .inr (8, (cwf_9 G σ).set 8 (.int v))) = cw G (hy_si σ 8 v) := rfl
theorem cwp_9 (G : hy_G) (σ : hy_S) (v : Int32) : (cw G σ).set 9 (G.2.2.2.1 9, .inr (8, (cwf_9 G σ).set 9 (.int v))) = cw G (hy_si σ 9 v) := rfl
theorem cwq_10 (G : hy_G) (σ : hy_S) : (cw G σ)[10]? = some (G.2.2.2.1 10, .inl (G.2.1 1, 400, .inl (σ.1 0))) := rfl
theorem cws_10 (G : hy_G) (σ : hy_S) (f : Nat → Int32) : (cw G σ).set 10 (G.2.2.2.1 10, .inl (G.2.1 1, 400, .inl f)) = cw G (hy_sc σ 0 f) := rfl
theorem cwq_11 (G : hy_G) (σ : hy_S) : (cw G σ)[11]? = some (G.2.2.2.1 11, .inl (G.2.1 0, 5, .inl (σ.1 1))) := rfl
theorem cws_11 (G : hy_G) (σ : hy_S) (f : Nat → Int32) : (cw G σ).set 11 (G.2.2.2.1 11, .inl (G.2.1 0, 5, .inl f)) = cw G (hy_sc σ 1 f) := rfl
theorem cwq_12 (G : hy_G) (σ : hy_S) : (cw G σ)[12]? = some (G.2.2.2.1 12, .inl (G.2.1 0, 8, .inl (σ.1 2))) := rfl
theorem cws_12 (G : hy_G) (σ : hy_S) (f : Nat → Int32) : (cw G σ).set 12 (G.2.2.2.1 12, .inl (G.2.1 0, 8, .inl f)) = cw G (hy_sc σ 2 f) := rfl
theorem cwq_13 (G : hy_G) (σ : hy_S) : (cw G σ)[13]? = some (G.2.2.2.1 13, .inl (G.2.1 0, 8, .inl (σ.1 3))) := rfl
theorem cws_13 (G : hy_G) (σ : hy_S) (f : Nat → Int32) : (cw G σ).set 13 (G.2.2.2.1 13, .inl (G.2.1 0, 8, .inl f)) = cw G (hy_sc σ 3 f) := rfl
theorem cwq_14 (G : hy_G) (σ : hy_S) : (cw G σ)[14]? = some (G.2.2.2.1 14, .inl (G.2.1 0, 8, .inl (σ.1 4))) := rfl
theorem cws_14 (G : hy_G) (σ : hy_S) (f : Nat → Int32) : (cw G σ).set 14 (G.2.2.2.1 14, .inl (G.2.1 0, 8, .inl f)) = cw G (hy_sc σ 4 f) := rfl
theorem cwq_15 (G : hy_G) (σ : hy_S) : (cw G σ)[15]? = some (G.2.2.2.1 15, .inl (G.2.1 0, 60, .inl (σ.1 5))) := rfl
theorem cws_15 (G : hy_G) (σ : hy_S) (f : Nat → Int32) : (cw G σ).set 15 (G.2.2.2.1 15, .inl (G.2.1 0, 60, .inl f)) = cw G (hy_sc σ 5 f) := rfl
theorem cwq_16 (G : hy_G) (σ : hy_S) : (cw G σ)[16]? = some (G.2.2.2.1 16, .inl (G.2.1 0, 60, .inl (σ.1 6))) := rfl
theorem cws_16 (G : hy_G) (σ : hy_S) (f : Nat → Int32) : (cw G σ).set 16 (G.2.2.2.1 16, .inl (G.2.1 0, 60, .inl f)) = cw G (hy_sc σ 6 f) := rfl
theorem cwq_17 (G : hy_G) (σ : hy_S) : (cw G σ)[17]? = some (G.2.2.2.1 17, .inl (G.2.1 0, 60, .inl (σ.1 7))) := rfl
theorem cws_17 (G : hy_G) (σ : hy_S) (f : Nat → Int32) : (cw G σ).set 17 (G.2.2.2.1 17, .inl (G.2.1 0, 60, .inl f)) = cw G (hy_sc σ 7 f) := rfl
theorem cwq_18 (G : hy_G) (σ : hy_S) : (cw G σ)[18]? = some (G.2.2.2.1 18, .inl (G.2.1 0, 60, .inl (σ.1 8))) := rfl
theorem cws_18 (G : hy_G) (σ : hy_S) (f : Nat → Int32) : (cw G σ).set 18 (G.2.2.2.1 18, .inl (G.2.1 0, 60, .inl f)) = cw G (hy_sc σ 8 f) := rfl
theorem cwq_19 (G : hy_G) (σ : hy_S) : (cw G σ)[19]? = some (G.2.2.2.1 19, .inl (G.2.1 0, 60, .inl (σ.1 9))) := rfl
theorem cws_19 (G : hy_G) (σ : hy_S) (f : Nat → Int32) : (cw G σ).set 19 (G.2.2.2.1 19, .inl (G.2.1 0, 60, .inl f)) = cw G (hy_sc σ 9 f) := rfl
theorem cwq_20 (G : hy_G) (σ : hy_S) : (cw G σ)[20]? = some (G.2.2.2.1 20, .inl (G.2.1 0, 60, .inl (σ.1 10))) := rfl
theorem cws_20 (G : hy_G) (σ : hy_S) (f : Nat → Int32) : (cw G σ).set 20 (G.2.2.2.1 20, .inl (G.2.1 0, 60, .inl f)) = cw G (hy_sc σ 10 f) := rfl
theorem cwq_21 (G : hy_G) (σ : hy_S) : (cw G σ)[21]? = some (G.2.2.2.1 21, .inl (G.2.1 0, 240, .inl (σ.1 11))) := rfl
theorem cws_21 (G : hy_G) (σ : hy_S) (f : Nat → Int32) : (cw G σ).set 21 (G.2.2.2.1 21, .inl (G.2.1 0, 240, .inl f)) = cw G (hy_sc σ 11 f) := rfl
theorem cwq_22 (G : hy_G) (σ : hy_S) : (cw G σ)[22]? = some (G.2.2.2.1 22, .inl (G.2.1 0, 24, .inl (σ.1 12))) := rfl
theorem cws_22 (G : hy_G) (σ : hy_S) (f : Nat → Int32) : (cw G σ).set 22 (G.2.2.2.1 22, .inl (G.2.1 0, 24, .inl f)) = cw G (hy_sc σ 12 f) := rfl
theorem cwq_23 (G : hy_G) (σ : hy_S) : (cw G σ)[23]? = some (G.2.2.2.1 23, .inl (G.2.1 0, 20, .inl (σ.1 13))) := rfl
theorem cws_23 (G : hy_G) (σ : hy_S) (f : Nat → Int32) : (cw G σ).set 23 (G.2.2.2.1 23, .inl (G.2.1 0, 20, .inl f)) = cw G (hy_sc σ 13 f) := rfl
theorem cwq_24 (G : hy_G) (σ : hy_S) : (cw G σ)[24]? = some (G.2.2.2.1 24, .inl (G.2.1 0, 21, .inl (σ.1 14))) := rfl
theorem cws_24 (G : hy_G) (σ : hy_S) (f : Nat → Int32) : (cw G σ).set 24 (G.2.2.2.1 24, .inl (G.2.1 0, 21, .inl f)) = cw G (hy_sc σ 14 f) := rfl
theorem cwq_25 (G : hy_G) (σ : hy_S) : (cw G σ)[25]? = some (G.2.2.2.1 25, .inl (G.2.1 0, 8, .inl (σ.1 15))) := rfl
theorem cws_25 (G : hy_G) (σ : hy_S) (f : Nat → Int32) : (cw G σ).set 25 (G.2.2.2.1 25, .inl (G.2.1 0, 8, .inl f)) = cw G (hy_sc σ 15 f) := rfl
theorem cwq_26 (G : hy_G) (σ : hy_S) : (cw G σ)[26]? = some (G.2.2.2.1 26, .inl (G.2.1 0, 8, .inl (σ.1 16))) := rfl
theorem cws_26 (G : hy_G) (σ : hy_S) (f : Nat → Int32) : (cw G σ).set 26 (G.2.2.2.1 26, .inl (G.2.1 0, 8, .inl f)) = cw G (hy_sc σ 16 f) := rfl
theorem cwq_27 (G : hy_G) (σ : hy_S) : (cw G σ)[27]? = some (G.2.2.2.1 27, .inl (G.2.1 0, 8, .inl (σ.1 17))) := rfl
theorem cws_27 (G : hy_G) (σ : hy_S) (f : Nat → Int32) : (cw G σ).set 27 (G.2.2.2.1 27, .inl (G.2.1 0, 8, .inl f)) = cw G (hy_sc σ 17 f) := rfl
theorem cwq_28 (G : hy_G) (σ : hy_S) : (cw G σ)[28]? = some (G.2.2.2.1 28, .inl (G.2.1 0, 60, .inl (σ.1 18))) := rfl
theorem cws_28 (G : hy_G) (σ : hy_S) (f : Nat → Int32) : (cw G σ).set 28 (G.2.2.2.1 28, .inl (G.2.1 0, 60, .inl f)) = cw G (hy_sc σ 18 f) := rfl
theorem cwq_29 (G : hy_G) (σ : hy_S) : (cw G σ)[29]? = some (G.2.2.2.1 29, .inl (G.2.1 0, 60, .inl (σ.1 19))) := rfl
theorem cws_29 (G : hy_G) (σ : hy_S) (f : Nat → Int32) : (cw G σ).set 29 (G.2.2.2.1 29, .inl (G.2.1 0, 60, .inl f)) = cw G (hy_sc σ 19 f) := rfl
theorem cwq_30 (G : hy_G) (σ : hy_S) : (cw G σ)[30]? = some (G.2.2.2.1 30, .inl (G.2.1 0, 60, .inl (σ.1 20))) := rfl
theorem cws_30 (G : hy_G) (σ : hy_S) (f : Nat → Int32) : (cw G σ).set 30 (G.2.2.2.1 30, .inl (G.2.1 0, 60, .inl f)) = cw G (hy_sc σ 20 f) := rfl
theorem cwq_31 (G : hy_G) (σ : hy_S) : (cw G σ)[31]? = some (G.2.2.2.1 31, .inl (G.2.1 0, 60, .inl (σ.1 21))) := rfl
theorem cws_31 (G : hy_G) (σ : hy_S) (f : Nat → Int32) : (cw G σ).set 31 (G.2.2.2.1 31, .inl (G.2.1 0, 60, .inl f)) = cw G (hy_sc σ 21 f) := rfl
theorem cwq_32 (G : hy_G) (σ : hy_S) : (cw G σ)[32]? = some (G.2.2.2.1 32, .inl (G.2.1 0, 60, .inl (σ.1 22))) := rfl
theorem cws_32 (G : hy_G) (σ : hy_S) (f : Nat → Int32) : (cw G σ).set 32 (G.2.2.2.1 32, .inl (G.2.1 0, 60, .inl f)) = cw G (hy_sc σ 22 f) := rfl
theorem cwq_33 (G : hy_G) (σ : hy_S) : (cw G σ)[33]? = some (G.2.2.2.1 33, .inl (G.2.1 0, 60, .inl (σ.1 23))) := rfl
theorem cws_33 (G : hy_G) (σ : hy_S) (f : Nat → Int32) : (cw G σ).set 33 (G.2.2.2.1 33, .inl (G.2.1 0, 60, .inl f)) = cw G (hy_sc σ 23 f) := rfl
theorem cwq_34 (G : hy_G) (σ : hy_S) : (cw G σ)[34]? = some (G.2.2.2.1 34, .inl (G.2.1 0, 60, .inl (σ.1 24))) := rfl
theorem cws_34 (G : hy_G) (σ : hy_S) (f : Nat → Int32) : (cw G σ).set 34 (G.2.2.2.1 34, .inl (G.2.1 0, 60, .inl f)) = cw G (hy_sc σ 24 f) := rfl
theorem cwq_35 (G : hy_G) (σ : hy_S) : (cw G σ)[35]? = some (G.2.2.2.1 35, .inl (G.2.1 0, 60, .inl (σ.1 25))) := rfl
theorem cws_35 (G : hy_G) (σ : hy_S) (f : Nat → Int32) : (cw G σ).set 35 (G.2.2.2.1 35, .inl (G.2.1 0, 60, .inl f)) = cw G (hy_sc σ 25 f) := rfl
theorem cwq_36 (G : hy_G) (σ : hy_S) : (cw G σ)[36]? = some (G.2.2.2.1 36, .inl (G.2.1 0, 60, .inl (σ.1 26))) := rfl
theorem cws_36 (G : hy_G) (σ : hy_S) (f : Nat → Int32) : (cw G σ).set 36 (G.2.2.2.1 36, .inl (G.2.1 0, 60, .inl f)) = cw G (hy_sc σ 26 f) := rfl
theorem cwq_37 (G : hy_G) (σ : hy_S) : (cw G σ)[37]? = some (G.2.2.2.1 37, .inl (G.2.1 0, 60, .inl (σ.1 27))) := rfl
theorem cws_37 (G : hy_G) (σ : hy_S) (f : Nat → Int32) : (cw G σ).set 37 (G.2.2.2.1 37, .inl (G.2.1 0, 60, .inl f)) = cw G (hy_sc σ 27 f) := rfl
theorem cwq_38 (G : hy_G) (σ : hy_S) : (cw G σ)[38]? = some (G.2.2.2.1 38, .inl (G.2.1 0, 13, .inl (σ.1 28))) := rfl
theorem cws_38 (G : hy_G) (σ : hy_S) (f : Nat → Int32) : (cw G σ).set 38 (G.2.2.2.1 38, .inl (G.2.1 0, 13, .inl f)) = cw G (hy_sc σ 28 f) := rfl
theorem cwq_39 (G : hy_G) (σ : hy_S) : (cw G σ)[39]? = some (G.2.2.2.1 39, .inl (G.2.1 0, 13, .inl (σ.1 29))) := rfl
theorem cws_39 (G : hy_G) (σ : hy_S) (f : Nat → Int32) : (cw G σ).set 39 (G.2.2.2.1 39, .inl (G.2.1 0, 13, .inl f)) = cw G (hy_sc σ 29 f) := rfl
theorem cw_map (G : hy_G) (σ τ : hy_S) : (cw G σ).map (fun q => q.1) = (cw G τ).map (fun q => q.1) := rfl
noncomputable def mwf_0 (G : hy_G) (σ : hy_S) : List Value := [.int (σ.2 0), .ref (G.2.2.2.2.1 1), .ref (G.2.2.2.2.1 2), .ref (G.2.2.2.2.1 3), .int (σ.2 1), .ref (G.2.2.2.2.1 4), .ref (G.2.2.2.2.1 5), .ref (G.2.2.2.2.1 6), .ref (G.2.2.2.2.1 7), .ref (G.2.2.2.2.1 8), .ref (G.2.2.2.2.1 9), .int (σ.2 2), .ref (G.2.2.2.2.1 10), .ref (G.2.2.2.2.1 11), .int (σ.2 3), .ref (G.2.2.2.2.1 12), .ref (G.2.2.2.2.1 13), .ref (G.2.2.2.2.1 14), .ref (G.2.2.2.2.1 15), .ref (G.2.2.2.2.1 16), .ref (G.2.2.2.2.1 17), .ref (G.2.2.2.2.1 18), .int (σ.2 4), .int (σ.2 5), .int (σ.2 6), .int (σ.2 7), .int (σ.2 8), .ref (G.2.2.2.2.1 19), .ref (G.2.2.2.2.1 20), .ref (G.2.2.2.2.1 21), .ref (G.2.2.2.2.1 22), .ref (G.2.2.2.2.1 23), .int (σ.2 9), .ref (G.2.2.2.2.1 24), .ref (G.2.2.2.2.1 25), .ref (G.2.2.2.2.1 26), .ref (G.2.2.2.2.1 27), .ref (G.2.2.2.2.1 28), .int (σ.2 10), .int (σ.2 11), .ref (G.2.2.2.2.1 29), .ref (G.2.2.2.2.1 30), .ref (G.2.2.2.2.1 31)]
noncomputable def mw (G : hy_G) (σ : hy_S) : va_W := [(G.2.2.2.2.1 0, .inr (10, mwf_0 G σ)), (G.2.2.2.2.1 1, .inl (G.2.1 0, 8, .inl (σ.1 0))), (G.2.2.2.2.1 2, .inl (G.2.1 0, 8, .inl (σ.1 1))), (G.2.2.2.2.1 3, .inl (G.2.1 0, 8, .inl (σ.1 2))), (G.2.2.2.2.1 4, .inl (G.2.1 0, 60, .inl (σ.1 3))), (G.2.2.2.2.1 5, .inl (G.2.1 0, 60, .inl (σ.1 4))), (G.2.2.2.2.1 6, .inl (G.2.1 0, 60, .inl (σ.1 5))), (G.2.2.2.2.1 7, .inl (G.2.1 0, 60, .inl (σ.1 6))), (G.2.2.2.2.1 8, .inl (G.2.1 0, 60, .inl (σ.1 7))), (G.2.2.2.2.1 9, .inl (G.2.1 0, 60, .inl (σ.1 8))), (G.2.2.2.2.1 10, .inl (G.2.1 0, 240, .inl (σ.1 9))), (G.2.2.2.2.1 11, .inl (G.2.1 0, 24, .inl (σ.1 10))), (G.2.2.2.2.1 12, .inl (G.2.1 2, 10, .inl (σ.1 11))), (G.2.2.2.2.1 13, .inl (G.2.1 2, 4096, .inl (σ.1 12))), (G.2.2.2.2.1 14, .inl (G.2.1 0, 12, .inl (σ.1 13))), (G.2.2.2.2.1 15, .inl (G.2.1 0, 8, .inl (σ.1 14))), (G.2.2.2.2.1 16, .inl (G.2.1 0, 8, .inl (σ.1 15))), (G.2.2.2.2.1 17, .inl (G.2.1 0, 8, .inl (σ.1 16))), (G.2.2.2.2.1 18, .inl (G.2.1 1, 400, .inl (σ.1 17))), (G.2.2.2.2.1 19, .inl (G.2.1 0, 5, .inl (σ.1 18))), (G.2.2.2.2.1 20, .inl (G.2.1 0, 5, .inl (σ.1 19))), (G.2.2.2.2.1 21, .inl (G.2.1 0, 60, .inl (σ.1 20))), (G.2.2.2.2.1 22, .inl (G.2.1 0, 60, .inl (σ.1 21))), (G.2.2.2.2.1 23, .inl (G.2.1 0, 60, .inl (σ.1 22))), (G.2.2.2.2.1 24, .inl (G.2.1 0, 60, .inl (σ.1 23))), (G.2.2.2.2.1 25, .inl (G.2.1 0, 60, .inl (σ.1 24))), (G.2.2.2.2.1 26, .inl (G.2.1 0, 60, .inl (σ.1 25))), (G.2.2.2.2.1 27, .inl (G.2.1 0, 60, .inl (σ.1 26))), (G.2.2.2.2.1 28, .inl (G.2.1 0, 60, .inl (σ.1 27))), (G.2.2.2.2.1 29, .inl (G.2.1 0, 169, .inl (σ.1 28))), (G.2.2.2.2.1 30, .inl (G.2.1 0, 169, .inl (σ.1 29))), (G.2.2.2.2.1 31, .inl (G.2.1 0, 169, .inl (σ.1 30)))]
theorem mwq_0 (G : hy_G) (σ : hy_S) : (mw G σ)[0]? = some (G.2.2.2.2.1 0, .inr (10, mwf_0 G σ)) := rfl
theorem mwp_0 (G : hy_G) (σ : hy_S) (v : Int32) : (mw G σ).set 0 (G.2.2.2.2.1 0, .inr (10, (mwf_0 G σ).set 0 (.int v))) = mw G (hy_si σ 0 v) := rfl
theorem mwp_1 (G : hy_G) (σ : hy_S) (v : Int32) : (mw G σ).set 0 (G.2.2.2.2.1 0, .inr (10, (mwf_0 G σ).set 4 (.int v))) = mw G (hy_si σ 1 v) := rfl
theorem mwp_2 (G : hy_G) (σ : hy_S) (v : Int32) : (mw G σ).set 0 (G.2.2.2.2.1 0, .inr (10, (mwf_0 G σ).set 11 (.int v))) = mw G (hy_si σ 2 v) := rfl
theorem mwp_3 (G : hy_G) (σ : hy_S) (v : Int32) : (mw G σ).set 0 (G.2.2.2.2.1 0, .inr (10, (mwf_0 G σ).set 14 (.int v))) = mw G (hy_si σ 3 v) := rfl
theorem mwp_4 (G : hy_G) (σ : hy_S) (v : Int32) : (mw G σ).set 0 (G.2.2.2.2.1 0, .inr (10, (mwf_0 G σ).set 22 (.int v))) = mw G (hy_si σ 4 v) := rfl
theorem mwp_5 (G : hy_G) (σ : hy_S) (v : Int32) : (mw G σ).set 0 (G.2.2.2.2.1 0, .inr (10, (mwf_0 G σ).set 23 (.int v))) = mw G (hy_si σ 5 v) := rfl
theorem mwp_6 (G : hy_G) (σ : hy_S) (v : Int32) : (mw G σ).set 0 (G.2.2.2.2.1 0, .inr (10, (mwf_0 G σ).set 24 (.int v))) = mw G (hy_si σ 6 v) := rfl
theorem mwp_7 (G : hy_G) (σ : hy_S) (v : Int32) : (mw G σ).set 0 (G.2.2.2.2.1 0, .inr (10, (mwf_0 G σ).set 25 (.int v))) = mw G (hy_si σ 7 v) := rfl
theorem mwp_8 (G : hy_G) (σ : hy_S) (v : Int32) : (mw G σ).set 0 (G.2.2.2.2.1 0, .inr (10, (mwf_0 G σ).set 26 (.int v))) = mw G (hy_si σ 8 v) := rfl
theorem mwp_9 (G : hy_G) (σ : hy_S) (v : Int32) : (mw G σ).set 0 (G.2.2.2.2.1 0, .inr (10, (mwf_0 G σ).set 32 (.int v))) = mw G (hy_si σ 9 v) := rfl
theorem mwp_10 (G : hy_G) (σ : hy_S) (v : Int32) : (mw G σ).set 0 (G.2.2.2.2.1 0, .inr (10, (mwf_0 G σ).set 38 (.int v))) = mw G (hy_si σ 10 v) := rfl
theorem mwp_11 (G : hy_G) (σ : hy_S) (v : Int32) : (mw G σ).set 0 (G.2.2.2.2.1 0, .inr (10, (mwf_0 G σ).set 39 (.int v))) = mw G (hy_si σ 11 v) := rfl
theorem mwq_1 (G : hy_G) (σ : hy_S) : (mw G σ)[1]? = some (G.2.2.2.2.1 1, .inl (G.2.1 0, 8, .inl (σ.1 0))) := rfl
theorem mws_1 (G : hy_G) (σ : hy_S) (f : Nat → Int32) : (mw G σ).set 1 (G.2.2.2.2.1 1, .inl (G.2.1 0, 8, .inl f)) = mw G (hy_sc σ 0 f) := rfl
theorem mwq_2 (G : hy_G) (σ : hy_S) : (mw G σ)[2]? = some (G.2.2.2.2.1 2, .inl (G.2.1 0, 8, .inl (σ.1 1))) := rfl
theorem mws_2 (G : hy_G) (σ : hy_S) (f : Nat → Int32) : (mw G σ).set 2 (G.2.2.2.2.1 2, .inl (G.2.1 0, 8, .inl f)) = mw G (hy_sc σ 1 f) := rfl
theorem mwq_3 (G : hy_G) (σ : hy_S) : (mw G σ)[3]? = some (G.2.2.2.2.1 3, .inl (G.2.1 0, 8, .inl (σ.1 2))) := rfl
theorem mws_3 (G : hy_G) (σ : hy_S) (f : Nat → Int32) : (mw G σ).set 3 (G.2.2.2.2.1 3, .inl (G.2.1 0, 8, .inl f)) = mw G (hy_sc σ 2 f) := rfl
theorem mwq_4 (G : hy_G) (σ : hy_S) : (mw G σ)[4]? = some (G.2.2.2.2.1 4, .inl (G.2.1 0, 60, .inl (σ.1 3))) := rfl
theorem mws_4 (G : hy_G) (σ : hy_S) (f : Nat → Int32) : (mw G σ).set 4 (G.2.2.2.2.1 4, .inl (G.2.1 0, 60, .inl f)) = mw G (hy_sc σ 3 f) := rfl
theorem mwq_5 (G : hy_G) (σ : hy_S) : (mw G σ)[5]? = some (G.2.2.2.2.1 5, .inl (G.2.1 0, 60, .inl (σ.1 4))) := rfl
theorem mws_5 (G : hy_G) (σ : hy_S) (f : Nat → Int32) : (mw G σ).set 5 (G.2.2.2.2.1 5, .inl (G.2.1 0, 60, .inl f)) = mw G (hy_sc σ 4 f) := rfl
theorem mwq_6 (G : hy_G) (σ : hy_S) : (mw G σ)[6]? = some (G.2.2.2.2.1 6, .inl (G.2.1 0, 60, .inl (σ.1 5))) := rfl
theorem mws_6 (G : hy_G) (σ : hy_S) (f : Nat → Int32) : (mw G σ).set 6 (G.2.2.2.2.1 6, .inl (G.2.1 0, 60, .inl f)) = mw G (hy_sc σ 5 f) := rfl
theorem mwq_7 (G : hy_G) (σ : hy_S) : (mw G σ)[7]? = some (G.2.2.2.2.1 7, .inl (G.2.1 0, 60, .inl (σ.1 6))) := rfl
theorem mws_7 (G : hy_G) (σ : hy_S) (f : Nat → Int32) : (mw G σ).set 7 (G.2.2.2.2.1 7, .inl (G.2.1 0, 60, .inl f)) = mw G (hy_sc σ 6 f) := rfl
theorem mwq_8 (G : hy_G) (σ : hy_S) : (mw G σ)[8]? = some (G.2.2.2.2.1 8, .inl (G.2.1 0, 60, .inl (σ.1 7))) := rfl
theorem mws_8 (G : hy_G) (σ : hy_S) (f : Nat → Int32) : (mw G σ).set 8 (G.2.2.2.2.1 8, .inl (G.2.1 0, 60, .inl f)) = mw G (hy_sc σ 7 f) := rfl
theorem mwq_9 (G : hy_G) (σ : hy_S) : (mw G σ)[9]? = some (G.2.2.2.2.1 9, .inl (G.2.1 0, 60, .inl (σ.1 8))) := rfl
theorem mws_9 (G : hy_G) (σ : hy_S) (f : Nat → Int32) : (mw G σ).set 9 (G.2.2.2.2.1 9, .inl (G.2.1 0, 60, .inl f)) = mw G (hy_sc σ 8 f) := rfl
theorem mwq_10 (G : hy_G) (σ : hy_S) : (mw G σ)[10]? = some (G.2.2.2.2.1 10, .inl (G.2.1 0, 240, .inl (σ.1 9))) := rfl
theorem mws_10 (G : hy_G) (σ : hy_S) (f : Nat → Int32) : (mw G σ).set 10 (G.2.2.2.2.1 10, .inl (G.2.1 0, 240, .inl f)) = mw G (hy_sc σ 9 f) := rfl
theorem mwq_11 (G : hy_G) (σ : hy_S) : (mw G σ)[11]? = some (G.2.2.2.2.1 11, .inl (G.2.1 0, 24, .inl (σ.1 10))) := rfl
theorem mws_11 (G : hy_G) (σ : hy_S) (f : Nat → Int32) : (mw G σ).set 11 (G.2.2.2.2.1 11, .inl (G.2.1 0, 24, .inl f)) = mw G (hy_sc σ 10 f) := rfl
theorem mwq_12 (G : hy_G) (σ : hy_S) : (mw G σ)[12]? = some (G.2.2.2.2.1 12, .inl (G.2.1 2, 10, .inl (σ.1 11))) := rfl
theorem mws_12 (G : hy_G) (σ : hy_S) (f : Nat → Int32) : (mw G σ).set 12 (G.2.2.2.2.1 12, .inl (G.2.1 2, 10, .inl f)) = mw G (hy_sc σ 11 f) := rfl
theorem mwq_13 (G : hy_G) (σ : hy_S) : (mw G σ)[13]? = some (G.2.2.2.2.1 13, .inl (G.2.1 2, 4096, .inl (σ.1 12))) := rfl
theorem mws_13 (G : hy_G) (σ : hy_S) (f : Nat → Int32) : (mw G σ).set 13 (G.2.2.2.2.1 13, .inl (G.2.1 2, 4096, .inl f)) = mw G (hy_sc σ 12 f) := rfl
theorem mwq_14 (G : hy_G) (σ : hy_S) : (mw G σ)[14]? = some (G.2.2.2.2.1 14, .inl (G.2.1 0, 12, .inl (σ.1 13))) := rfl
theorem mws_14 (G : hy_G) (σ : hy_S) (f : Nat → Int32) : (mw G σ).set 14 (G.2.2.2.2.1 14, .inl (G.2.1 0, 12, .inl f)) = mw G (hy_sc σ 13 f) := rfl
theorem mwq_15 (G : hy_G) (σ : hy_S) : (mw G σ)[15]? = some (G.2.2.2.2.1 15, .inl (G.2.1 0, 8, .inl (σ.1 14))) := rfl
theorem mws_15 (G : hy_G) (σ : hy_S) (f : Nat → Int32) : (mw G σ).set 15 (G.2.2.2.2.1 15, .inl (G.2.1 0, 8, .inl f)) = mw G (hy_sc σ 14 f) := rfl
theorem mwq_16 (G : hy_G) (σ : hy_S) : (mw G σ)[16]? = some (G.2.2.2.2.1 16, .inl (G.2.1 0, 8, .inl (σ.1 15))) := rfl
theorem mws_16 (G : hy_G) (σ : hy_S) (f : Nat → Int32) : (mw G σ).set 16 (G.2.2.2.2.1 16, .inl (G.2.1 0, 8, .inl f)) = mw G (hy_sc σ 15 f) := rfl
theorem mwq_17 (G : hy_G) (σ : hy_S) : (mw G σ)[17]? = some (G.2.2.2.2.1 17, .inl (G.2.1 0, 8, .inl (σ.1 16))) := rfl
theorem mws_17 (G : hy_G) (σ : hy_S) (f : Nat → Int32) : (mw G σ).set 17 (G.2.2.2.2.1 17, .inl (G.2.1 0, 8, .inl f)) = mw G (hy_sc σ 16 f) := rfl
theorem mwq_18 (G : hy_G) (σ : hy_S) : (mw G σ)[18]? = some (G.2.2.2.2.1 18, .inl (G.2.1 1, 400, .inl (σ.1 17))) := rfl
theorem mws_18 (G : hy_G) (σ : hy_S) (f : Nat → Int32) : (mw G σ).set 18 (G.2.2.2.2.1 18, .inl (G.2.1 1, 400, .inl f)) = mw G (hy_sc σ 17 f) := rfl
theorem mwq_19 (G : hy_G) (σ : hy_S) : (mw G σ)[19]? = some (G.2.2.2.2.1 19, .inl (G.2.1 0, 5, .inl (σ.1 18))) := rfl
theorem mws_19 (G : hy_G) (σ : hy_S) (f : Nat → Int32) : (mw G σ).set 19 (G.2.2.2.2.1 19, .inl (G.2.1 0, 5, .inl f)) = mw G (hy_sc σ 18 f) := rfl
theorem mwq_20 (G : hy_G) (σ : hy_S) : (mw G σ)[20]? = some (G.2.2.2.2.1 20, .inl (G.2.1 0, 5, .inl (σ.1 19))) := rfl
theorem mws_20 (G : hy_G) (σ : hy_S) (f : Nat → Int32) : (mw G σ).set 20 (G.2.2.2.2.1 20, .inl (G.2.1 0, 5, .inl f)) = mw G (hy_sc σ 19 f) := rfl
theorem mwq_21 (G : hy_G) (σ : hy_S) : (mw G σ)[21]? = some (G.2.2.2.2.1 21, .inl (G.2.1 0, 60, .inl (σ.1 20))) := rfl
theorem mws_21 (G : hy_G) (σ : hy_S) (f : Nat → Int32) : (mw G σ).set 21 (G.2.2.2.2.1 21, .inl (G.2.1 0, 60, .inl f)) = mw G (hy_sc σ 20 f) := rfl
theorem mwq_22 (G : hy_G) (σ : hy_S) : (mw G σ)[22]? = some (G.2.2.2.2.1 22, .inl (G.2.1 0, 60, .inl (σ.1 21))) := rfl
theorem mws_22 (G : hy_G) (σ : hy_S) (f : Nat → Int32) : (mw G σ).set 22 (G.2.2.2.2.1 22, .inl (G.2.1 0, 60, .inl f)) = mw G (hy_sc σ 21 f) := rfl
theorem mwq_23 (G : hy_G) (σ : hy_S) : (mw G σ)[23]? = some (G.2.2.2.2.1 23, .inl (G.2.1 0, 60, .inl (σ.1 22))) := rfl
theorem mws_23 (G : hy_G) (σ : hy_S) (f : Nat → Int32) : (mw G σ).set 23 (G.2.2.2.2.1 23, .inl (G.2.1 0, 60, .inl f)) = mw G (hy_sc σ 22 f) := rfl
theorem mwq_24 (G : hy_G) (σ : hy_S) : (mw G σ)[24]? = some (G.2.2.2.2.1 24, .inl (G.2.1 0, 60, .inl (σ.1 23))) := rfl
theorem mws_24 (G : hy_G) (σ : hy_S) (f : Nat → Int32) : (mw G σ).set 24 (G.2.2.2.2.1 24, .inl (G.2.1 0, 60, .inl f)) = mw G (hy_sc σ 23 f) := rfl
theorem mwq_25 (G : hy_G) (σ : hy_S) : (mw G σ)[25]? = some (G.2.2.2.2.1 25, .inl (G.2.1 0, 60, .inl (σ.1 24))) := rfl
theorem mws_25 (G : hy_G) (σ : hy_S) (f : Nat → Int32) : (mw G σ).set 25 (G.2.2.2.2.1 25, .inl (G.2.1 0, 60, .inl f)) = mw G (hy_sc σ 24 f) := rfl
theorem mwq_26 (G : hy_G) (σ : hy_S) : (mw G σ)[26]? = some (G.2.2.2.2.1 26, .inl (G.2.1 0, 60, .inl (σ.1 25))) := rfl
theorem mws_26 (G : hy_G) (σ : hy_S) (f : Nat → Int32) : (mw G σ).set 26 (G.2.2.2.2.1 26, .inl (G.2.1 0, 60, .inl f)) = mw G (hy_sc σ 25 f) := rfl
theorem mwq_27 (G : hy_G) (σ : hy_S) : (mw G σ)[27]? = some (G.2.2.2.2.1 27, .inl (G.2.1 0, 60, .inl (σ.1 26))) := rfl
theorem mws_27 (G : hy_G) (σ : hy_S) (f : Nat → Int32) : (mw G σ).set 27 (G.2.2.2.2.1 27, .inl (G.2.1 0, 60, .inl f)) = mw G (hy_sc σ 26 f) := rfl
theorem mwq_28 (G : hy_G) (σ : hy_S) : (mw G σ)[28]? = some (G.2.2.2.2.1 28, .inl (G.2.1 0, 60, .inl (σ.1 27))) := rfl
theorem mws_28 (G : hy_G) (σ : hy_S) (f : Nat → Int32) : (mw G σ).set 28 (G.2.2.2.2.1 28, .inl (G.2.1 0, 60, .inl f)) = mw G (hy_sc σ 27 f) := rfl
theorem mwq_29 (G : hy_G) (σ : hy_S) : (mw G σ)[29]? = some (G.2.2.2.2.1 29, .inl (G.2.1 0, 169, .inl (σ.1 28))) := rfl
theorem mws_29 (G : hy_G) (σ : hy_S) (f : Nat → Int32) : (mw G σ).set 29 (G.2.2.2.2.1 29, .inl (G.2.1 0, 169, .inl f)) = mw G (hy_sc σ 28 f) := rfl
theorem mwq_30 (G : hy_G) (σ : hy_S) : (mw G σ)[30]? = some (G.2.2.2.2.1 30, .inl (G.2.1 0, 169, .inl (σ.1 29))) := rfl
theorem mws_30 (G : hy_G) (σ : hy_S) (f : Nat → Int32) : (mw G σ).set 30 (G.2.2.2.2.1 30, .inl (G.2.1 0, 169, .inl f)) = mw G (hy_sc σ 29 f) := rfl
theorem mwq_31 (G : hy_G) (σ : hy_S) : (mw G σ)[31]? = some (G.2.2.2.2.1 31, .inl (G.2.1 0, 169, .inl (σ.1 30))) := rfl
theorem mws_31 (G : hy_G) (σ : hy_S) (f : Nat → Int32) : (mw G σ).set 31 (G.2.2.2.2.1 31, .inl (G.2.1 0, 169, .inl f)) = mw G (hy_sc σ 30 f) := rfl
theorem mw_map (G : hy_G) (σ τ : hy_S) : (mw G σ).map (fun q => q.1) = (mw G τ).map (fun q => q.1) := rfl
theorem cw_fix : hy_fix cw := cw_map
theorem mw_fix : hy_fix mw := mw_map
noncomputable def hy_fu : Nat := 5000
