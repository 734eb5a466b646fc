/-! Safety of the pure functions: what holds of every run of them, cell by cell in bounds. -/
noncomputable def hs_ok {α : Type} (x : Option α) (Q : α → Prop) : Prop := ∃ a, x = some a ∧ Q a
noncomputable def hs_ok2 (x : Option (hy_S × Int32)) (P : hy_S → Int32 → Prop) : Prop := hs_ok x (fun o => P o.1 o.2)
noncomputable def hs_I (a i : Nat → Int × Int) (R : hy_S → Prop) (σ : hy_S) : Prop := (∀ j k, (a j).1 ≤ (σ.1 j k).toInt ∧ (σ.1 j k).toInt ≤ (a j).2) ∧ (∀ j, (i j).1 ≤ (σ.2 j).toInt ∧ (σ.2 j).toInt ≤ (i j).2) ∧ R σ
theorem hs_any (v : Int32) : (-2147483648 : Int) ≤ v.toInt ∧ v.toInt ≤ (2147483647 : Int) := ⟨by have := Int32.le_toInt v; omega, by have := Int32.toInt_lt v; omega⟩
theorem hs_bm {x : Int} (h1 : -2147483648 ≤ x) (h2 : x < 2147483648) : x.bmod (2 ^ 32) = x := by
  show x.bmod 4294967296 = x
  exact Int.bmod_eq_of_le (by omega) (by omega)
theorem hs_add {x y : Int32} (h1 : -2147483648 ≤ x.toInt + y.toInt) (h2 : x.toInt + y.toInt < 2147483648) : (x + y).toInt = x.toInt + y.toInt := by rw [Int32.toInt_add, hs_bm h1 h2]
theorem hs_sub {x y : Int32} (h1 : -2147483648 ≤ x.toInt - y.toInt) (h2 : x.toInt - y.toInt < 2147483648) : (x - y).toInt = x.toInt - y.toInt := by rw [Int32.toInt_sub, hs_bm h1 h2]
theorem hs_addk {x y : Int32} (k : Int) (hy : y.toInt = k) (h1 : -2147483648 ≤ x.toInt + k) (h2 : x.toInt + k < 2147483648) : (x + y).toInt = x.toInt + k := by rw [Int32.toInt_add, hy, hs_bm h1 h2]
theorem hs_addl {x y : Int32} (k : Int) (hx : x.toInt = k) (h1 : -2147483648 ≤ k + y.toInt) (h2 : k + y.toInt < 2147483648) : (x + y).toInt = k + y.toInt := by rw [Int32.toInt_add, hx, hs_bm h1 h2]
theorem hs_subk {x y : Int32} (k : Int) (hy : y.toInt = k) (h1 : -2147483648 ≤ x.toInt - k) (h2 : x.toInt - k < 2147483648) : (x - y).toInt = x.toInt - k := by rw [Int32.toInt_sub, hy, hs_bm h1 h2]
theorem hs_subl {x y : Int32} (k : Int) (hx : x.toInt = k) (h1 : -2147483648 ≤ k - y.toInt) (h2 : k - y.toInt < 2147483648) : (x - y).toInt = k - y.toInt := by rw [Int32.toInt_sub, hx, hs_bm h1 h2]
theorem hs_neg {x : Int32} (h1 : -2147483648 ≤ -x.toInt) (h2 : -x.toInt < 2147483648) : (-x).toInt = -x.toInt := by rw [Int32.toInt_neg, hs_bm h1 h2]
theorem hs_mulr {x y : Int32} (k : Int) (hy : y.toInt = k) (h1 : -2147483648 ≤ x.toInt * k) (h2 : x.toInt * k < 2147483648) : (x * y).toInt = x.toInt * k := by rw [Int32.toInt_mul, hy, hs_bm h1 h2]
theorem hs_mull {x y : Int32} (k : Int) (hy : x.toInt = k) (h1 : -2147483648 ≤ k * y.toInt) (h2 : k * y.toInt < 2147483648) : (x * y).toInt = k * y.toInt := by rw [Int32.toInt_mul, hy, hs_bm h1 h2]
theorem hs_div {x y : Int32} (k : Int) (hy : y.toInt = k) (hk : 1 ≤ k) (h0 : 0 ≤ x.toInt) : (x / y).toInt = x.toInt / k := by
  have hb := hs_any x
  have h3 : x.toInt / k ≤ x.toInt := Int.ediv_le_self _ h0
  have h4 : 0 ≤ x.toInt / k := Int.ediv_nonneg h0 (by omega)
  rw [Int32.toInt_div, hy, Int.tdiv_eq_ediv_of_nonneg h0, hs_bm (by omega) (by omega)]
theorem hs_nat {i : Int32} {n : Nat} (h0 : 0 ≤ i.toInt) (h1 : i.toInt < (n : Int)) : ¬ (i < 0 ∨ n ≤ i.toNatClampNeg) := by
  intro h
  rcases h with h | h
  · have := Int32.lt_iff_toInt_lt.mp h
    rw [show (0 : Int32).toInt = 0 from rfl] at this
    omega
  · have e : (i.toNatClampNeg : Int) = i.toInt := by rw [Int32.toNatClampNeg, Int.toNat_of_nonneg h0]
    omega
section HS
variable {α : Type} {a i : Nat → Int × Int} {R : hy_S → Prop} {σ : hy_S} {j n : Nat} {idx v : Int32} {Q : α → Prop}
theorem hs_some {x : α} (h : Q x) : hs_ok (some x) Q := ⟨x, rfl, h⟩
theorem hs_ga {k : Int32 → Option α} (I : hs_I a i R σ) (h0 : 0 ≤ idx.toInt) (h1 : idx.toInt < (n : Int)) (h : ∀ v : Int32, v = σ.1 j idx.toNatClampNeg → ((a j).1 ≤ v.toInt ∧ v.toInt ≤ (a j).2) → hs_ok (k v) Q) : hs_ok (hy_ga σ j n idx k) Q := by
  unfold hy_ga
  rw [if_neg (hs_nat h0 h1)]
  exact h _ rfl (I.1 _ _)
theorem hs_pa {k : hy_S → Option α} (I : hs_I a i R σ) (h0 : 0 ≤ idx.toInt) (h1 : idx.toInt < (n : Int)) (hv : (a j).1 ≤ v.toInt ∧ v.toInt ≤ (a j).2) (hR : R σ → R (hy_sc σ j (upd (σ.1 j) idx.toNatClampNeg v))) (h : ∀ τ : hy_S, τ = hy_sc σ j (upd (σ.1 j) idx.toNatClampNeg v) → hs_I a i R τ → hs_ok (k τ) Q) : hs_ok (hy_pa σ j n idx v k) Q := by
  unfold hy_pa
  rw [if_neg (hs_nat h0 h1)]
  refine h _ rfl ⟨fun j' k' => ?_, I.2.1, hR I.2.2⟩
  show (a j').1 ≤ ((if j' = j then upd (σ.1 j) idx.toNatClampNeg v else σ.1 j') k').toInt ∧ _
  by_cases e : j' = j
  · subst e
    show _ ∧ ((if j' = j' then upd (σ.1 j') idx.toNatClampNeg v else σ.1 j') k').toInt ≤ _
    rw [if_pos rfl]
    show (a j').1 ≤ (if k' = _ then v else σ.1 j' k').toInt ∧ (if k' = _ then v else σ.1 j' k').toInt ≤ _
    by_cases e2 : k' = idx.toNatClampNeg
    · rw [if_pos e2]; exact hv
    · rw [if_neg e2]; exact I.1 _ _
  · show _ ∧ ((if j' = j then upd (σ.1 j) idx.toNatClampNeg v else σ.1 j') k').toInt ≤ _
    rw [if_neg e]
    exact I.1 _ _
theorem hs_pf {k : hy_S → Option α} (I : hs_I a i R σ) (hv : (i j).1 ≤ v.toInt ∧ v.toInt ≤ (i j).2) (hR : R σ → R (hy_si σ j v)) (h : ∀ τ : hy_S, τ = hy_si σ j v → hs_I a i R τ → hs_ok (k τ) Q) : hs_ok (hy_pf σ j v k) Q := by
  refine h _ rfl ⟨I.1, fun j' => ?_, hR I.2.2⟩
  show (i j').1 ≤ (if j' = j then v else σ.2 j').toInt ∧ (if j' = j then v else σ.2 j').toInt ≤ (i j').2
  by_cases e : j' = j
  · subst e
    rw [if_pos rfl]; exact hv
  · rw [if_neg e]; exact I.2.1 _
theorem hs_cp {k : hy_S → Option α} {j0 j1 : Nat} {sp dp m : Int32} (I : hs_I a i R σ) (hv : ∀ q, (a j1).1 ≤ (σ.1 j0 q).toInt ∧ (σ.1 j0 q).toInt ≤ (a j1).2) (hR : ∀ f, R σ → R (hy_sc σ j1 f)) (h : ∀ τ : hy_S, τ.2 = σ.2 → hs_I a i R τ → hs_ok (k τ) Q) : hs_ok (hy_cp σ j0 j1 sp dp m k) Q := by
  refine h _ rfl ⟨fun j' k' => ?_, I.2.1, hR _ I.2.2⟩
  show (a j').1 ≤ ((if j' = j1 then va_cpy (σ.1 j0) (σ.1 j1) sp.toNatClampNeg dp.toNatClampNeg m.toNatClampNeg else σ.1 j') k').toInt ∧ ((if j' = j1 then va_cpy (σ.1 j0) (σ.1 j1) sp.toNatClampNeg dp.toNatClampNeg m.toNatClampNeg else σ.1 j') k').toInt ≤ (a j').2
  by_cases e : j' = j1
  · subst e
    rw [if_pos rfl]
    unfold va_cpy
    by_cases e2 : dp.toNatClampNeg ≤ k' ∧ k' < dp.toNatClampNeg + m.toNatClampNeg
    · rw [if_pos e2]; exact hv _
    · rw [if_neg e2]; exact I.1 _ _
  · rw [if_neg e]; exact I.1 _ _
theorem hs_bd {x : Option (hy_S × Int32)} {k : hy_S → Int32 → Option α} (h : hs_ok2 x (fun τ v => hs_ok (k τ v) Q)) : hs_ok (hy_bd x k) Q := by
  obtain ⟨o, e, h⟩ := h
  rw [e]
  exact h
theorem hs_ite {c : Prop} [Decidable c] {x y : Option α} (h1 : c → hs_ok x Q) (h2 : ¬ c → hs_ok y Q) : hs_ok (if c then x else y) Q := by
  by_cases h : c
  · rw [if_pos h]; exact h1 h
  · rw [if_neg h]; exact h2 h
theorem hs_ck {c : Prop} [Decidable c] {x : Option α} (hc : c) (h : hs_ok x Q) : hs_ok (hy_ck c x) Q := by
  unfold hy_ck
  rw [if_pos hc]; exact h
theorem hs_01 {x : Int32} (h0 : 0 ≤ x.toInt) (h1 : x.toInt ≤ 1) : x = 0 ∨ x = 1 := by
  rcases (show x.toInt = 0 ∨ x.toInt = 1 by omega) with h | h
  · exact Or.inl (Int32.toInt_inj.mp h)
  · exact Or.inr (Int32.toInt_inj.mp h)
end HS
theorem hs_same (σ : hy_S) (j k : Nat) (v : Int32) : ((hy_sc σ j (upd (σ.1 j) k v)).1 j k).toInt = v.toInt := by
  show ((if j = j then upd (σ.1 j) k v else σ.1 j) k).toInt = _
  rw [if_pos rfl]
  show (if k = k then v else σ.1 j k).toInt = _
  rw [if_pos rfl]
theorem hs_inc {A B : List Nat} (h : ∀ j ∈ A, j ∈ B) {j : Nat} (hj : j ∈ A) : j ∈ B := h j hj
/-- rows and fields that stay as they were -/
noncomputable def hs_k (KA KI : List Nat) (σ τ : hy_S) : Prop := (∀ j ∈ KA, τ.1 j = σ.1 j) ∧ ∀ j ∈ KI, τ.2 j = σ.2 j
theorem hs_k0 {KA KI : List Nat} {σ : hy_S} : hs_k KA KI σ σ := ⟨fun _ _ => rfl, fun _ _ => rfl⟩
theorem hs_ka {KA KI W : List Nat} {σ : hy_S} (h : ∀ j ∈ W, j ∉ KA) : ∀ j, j ∈ W → ∀ (τ : hy_S) (g : Nat → Int32), hs_k KA KI σ τ → hs_k KA KI σ (hy_sc τ j g) := by
  intro j hj τ g hk
  refine ⟨fun q hq => ?_, hk.2⟩
  show (if q = j then g else τ.1 q) = σ.1 q
  have e9 : ¬ q = j := fun e => h j hj (by rw [← e]; exact hq)
  rw [if_neg e9]
  exact hk.1 q hq
theorem hs_ki {KA KI W : List Nat} {σ : hy_S} (h : ∀ j ∈ W, j ∉ KI) : ∀ j, j ∈ W → ∀ (τ : hy_S) (v : Int32), hs_k KA KI σ τ → hs_k KA KI σ (hy_si τ j v) := by
  intro j hj τ v hk
  refine ⟨hk.1, fun q hq => ?_⟩
  show (if q = j then v else τ.2 q) = σ.2 q
  have e9 : ¬ q = j := fun e => h j hj (by rw [← e]; exact hq)
  rw [if_neg e9]
  exact hk.2 q hq
section HST
variable {σ : hy_S} {x y z : Int32} {k : hy_S → Int32 → Option hy_O} {Q : hy_O → Prop}
theorem hs_btI (h : 0 ≤ x.toInt → x.toInt < y.toInt → hs_ok (k σ 0) Q) (h2 : (x.toInt < 0 ∨ y.toInt ≤ x.toInt) → Q (σ, 0, 1)) : hs_ok (hy_bt (fX9_needIndex σ x y) some k) Q := by
  unfold fX9_needIndex fX9_needIndex_9
  by_cases c1 : x < 0
  · rw [if_pos c1]; exact hs_some (h2 (Or.inl (Int32.lt_iff_toInt_lt.mp c1)))
  · rw [if_neg c1]
    by_cases c2 : x < y
    · rw [if_pos c2]
      have a1 : ¬ x.toInt < 0 := fun z => c1 (Int32.lt_iff_toInt_lt.mpr z)
      exact h (by omega) (Int32.lt_iff_toInt_lt.mp c2)
    · rw [if_neg c2]
      have a2 : ¬ x.toInt < y.toInt := fun z => c2 (Int32.lt_iff_toInt_lt.mpr z)
      exact hs_some (h2 (Or.inr (by omega)))
theorem hs_btN (h : y.toInt ≤ x.toInt → x.toInt ≤ z.toInt → hs_ok (k σ 0) Q) (h2 : (x.toInt < y.toInt ∨ z.toInt < x.toInt) → Q (σ, 0, 2)) : hs_ok (hy_bt (fX9_needNumber σ x y z) some k) Q := by
  unfold fX9_needNumber fX9_needNumber_10
  by_cases c1 : x < y
  · rw [if_pos c1]; exact hs_some (h2 (Or.inl (Int32.lt_iff_toInt_lt.mp c1)))
  · rw [if_neg c1]
    by_cases c2 : x ≤ z
    · rw [if_pos c2]
      have a1 : ¬ x.toInt < y.toInt := fun z => c1 (Int32.lt_iff_toInt_lt.mpr z)
      exact h (by omega) (Int32.le_iff_toInt_le.mp c2)
    · rw [if_neg c2]
      have a2 : ¬ x.toInt ≤ z.toInt := fun q => c2 (Int32.le_iff_toInt_le.mpr q)
      exact hs_some (h2 (Or.inr (by omega)))
theorem hs_btP (h : x.toInt < y.toInt → hs_ok (k σ 0) Q) (h2 : y.toInt ≤ x.toInt → Q (σ, 0, 3)) : hs_ok (hy_bt (fX9_needPlace σ x y) some k) Q := by
  unfold fX9_needPlace
  by_cases c1 : x < y
  · rw [if_pos c1]; exact h (Int32.lt_iff_toInt_lt.mp c1)
  · rw [if_neg c1]
    have a1 : ¬ x.toInt < y.toInt := fun z => c1 (Int32.lt_iff_toInt_lt.mpr z)
    exact hs_some (h2 (by omega))
theorem hs_btS (h : (x.toInt = -1 ∨ (0 ≤ x.toInt ∧ x.toInt < 12)) → hs_ok (k σ 0) Q) (h2 : (¬ x.toInt = -1 ∧ (x.toInt < 0 ∨ 12 ≤ x.toInt)) → Q (σ, 0, 1)) : hs_ok (hy_bt (fX9_needStampOrNone σ x) some k) Q := by
  unfold fX9_needStampOrNone fX9_needIndex fX9_needIndex_9
  by_cases c0 : x = -1
  · rw [if_pos c0]; exact h (Or.inl (congrArg Int32.toInt c0))
  · rw [if_neg c0]
    have a0 : ¬ x.toInt = -1 := fun z => c0 (Int32.toInt_inj.mp z)
    by_cases c1 : x < 0
    · rw [if_pos c1]; exact hs_some (h2 ⟨a0, Or.inl (Int32.lt_iff_toInt_lt.mp c1)⟩)
    · rw [if_neg c1]
      have a1 : ¬ x.toInt < 0 := fun z => c1 (Int32.lt_iff_toInt_lt.mpr z)
      by_cases c2 : x < 12
      · rw [if_pos c2]; exact h (Or.inr ⟨by omega, Int32.lt_iff_toInt_lt.mp c2⟩)
      · rw [if_neg c2]
        have a2 : ¬ x.toInt < 12 := fun z => c2 (Int32.lt_iff_toInt_lt.mpr z)
        exact hs_some (h2 ⟨a0, Or.inr (by omega)⟩)
theorem hs_btH (h : 0 ≤ x.toInt → x.toInt < (σ.2 5).toInt → 0 ≤ y.toInt → y.toInt < 6 → hs_ok (k σ 0) Q) (h2 : (x.toInt < 0 ∨ (σ.2 5).toInt ≤ x.toInt ∨ y.toInt < 0 ∨ 6 ≤ y.toInt) → Q (σ, 0, 1)) : hs_ok (hy_bt (fX9_needHold σ x y) some k) Q := by
  unfold fX9_needHold fX9_needIndex fX9_needIndex_9
  by_cases c1 : x < 0
  · rw [if_pos c1]; exact hs_some (h2 (Or.inl (Int32.lt_iff_toInt_lt.mp c1)))
  · rw [if_neg c1]
    by_cases c2 : x < σ.2 5
    · rw [if_pos c2]
      show hs_ok (hy_bt (hy_bt (if y < 0 then some (σ, 0, 1) else if y < 6 then some (σ, 0, 0) else some (σ, 0, 1)) some (fun σ5 v6 => some (σ5, 0, 0))) some k) Q
      by_cases c3 : y < 0
      · rw [if_pos c3]; exact hs_some (h2 (Or.inr (Or.inr (Or.inl (Int32.lt_iff_toInt_lt.mp c3)))))
      · rw [if_neg c3]
        by_cases c4 : y < 6
        · rw [if_pos c4]
          have a1 : ¬ x.toInt < 0 := fun z => c1 (Int32.lt_iff_toInt_lt.mpr z)
          have a3 : ¬ y.toInt < 0 := fun z => c3 (Int32.lt_iff_toInt_lt.mpr z)
          exact h (by omega) (Int32.lt_iff_toInt_lt.mp c2) (by omega) (Int32.lt_iff_toInt_lt.mp c4)
        · rw [if_neg c4]
          have a4 : ¬ y.toInt < 6 := fun z => c4 (Int32.lt_iff_toInt_lt.mpr z)
          exact hs_some (h2 (Or.inr (Or.inr (Or.inr (by omega)))))
    · rw [if_neg c2]
      have a2 : ¬ x.toInt < (σ.2 5).toInt := fun z => c2 (Int32.lt_iff_toInt_lt.mpr z)
      exact hs_some (h2 (Or.inr (Or.inl (by omega))))
end HST
