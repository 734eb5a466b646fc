
/-! The state of either side: arrays by their numbers, int fields by theirs. -/
abbrev hy_S : Type := (Nat → Nat → Int32) × (Nat → Int32)
abbrev hy_G : Type := va_G × (Nat → ClassId) × Nat × (Nat → Nat) × (Nat → Nat) × (Nat → Nat) × (Nat → Nat)
def hy_sc (σ : hy_S) (j : Nat) (f : Nat → Int32) : hy_S := (fun k => if k = j then f else σ.1 k, σ.2)
def hy_si (σ : hy_S) (j : Nat) (v : Int32) : hy_S := (σ.1, fun k => if k = j then v else σ.2 k)
def hy_tys (G : hy_G) : List (ClassId × FieldType) := [(G.2.1 0, .int), (G.2.1 1, .byte), (G.2.1 2, .boolean), (G.2.1 3, .long)]
/-! pure steps that may refuse -/
def hy_ga {α : Type} (σ : hy_S) (j n : Nat) (i : Int32) (k : Int32 → Option α) : Option α := if i < 0 ∨ n ≤ i.toNatClampNeg then none else k (σ.1 j i.toNatClampNeg)
def hy_pa {α : Type} (σ : hy_S) (j n : Nat) (i v : Int32) (k : hy_S → Option α) : Option α := if i < 0 ∨ n ≤ i.toNatClampNeg then none else k (hy_sc σ j (upd (σ.1 j) i.toNatClampNeg v))
def hy_pf {α : Type} (σ : hy_S) (j : Nat) (v : Int32) (k : hy_S → Option α) : Option α := k (hy_si σ j v)
def hy_cp {α : Type} (σ : hy_S) (j0 j1 : Nat) (sp dp n : Int32) (k : hy_S → Option α) : Option α := k (hy_sc σ j1 (va_cpy (σ.1 j0) (σ.1 j1) sp.toNatClampNeg dp.toNatClampNeg n.toNatClampNeg))
theorem hy_cp_some {α : Type} {σ : hy_S} {j0 j1 : Nat} {sp dp n : Int32} {k : hy_S → Option α} {o : α} (h : hy_cp σ j0 j1 sp dp n k = some o) : ∃ τ, τ = hy_sc σ j1 (va_cpy (σ.1 j0) (σ.1 j1) sp.toNatClampNeg dp.toNatClampNeg n.toNatClampNeg) ∧ k τ = some o := ⟨_, rfl, h⟩
def hy_ck {α : Type} (c : Prop) [Decidable c] (k : Option α) : Option α := if c then k else none
def hy_bd {α : Type} (x : Option (hy_S × Int32)) (k : hy_S → Int32 → Option α) : Option α := match x with
  | some o => k o.1 o.2
  | none => none
theorem hy_ga_some {α : Type} {σ : hy_S} {j n : Nat} {i : Int32} {k : Int32 → Option α} {o : α} (h : hy_ga σ j n i k = some o) : vp_in i n ∧ ∃ v, v = σ.1 j i.toNatClampNeg ∧ k v = some o := by
  unfold hy_ga at h
  by_cases c : i < 0 ∨ n ≤ i.toNatClampNeg
  · rw [if_pos c] at h; cases h
  · rw [if_neg c] at h; exact ⟨c, _, rfl, h⟩
theorem hy_pa_some {α : Type} {σ : hy_S} {j n : Nat} {i v : Int32} {k : hy_S → Option α} {o : α} (h : hy_pa σ j n i v k = some o) : vp_in i n ∧ ∃ τ, τ = hy_sc σ j (upd (σ.1 j) i.toNatClampNeg v) ∧ k τ = some o := by
  unfold hy_pa at h
  by_cases c : i < 0 ∨ n ≤ i.toNatClampNeg
  · rw [if_pos c] at h; cases h
  · rw [if_neg c] at h; exact ⟨c, _, rfl, h⟩
theorem hy_pf_some {α : Type} {σ : hy_S} {j : Nat} {v : Int32} {k : hy_S → Option α} {o : α} (h : hy_pf σ j v k = some o) : ∃ τ, τ = hy_si σ j v ∧ k τ = some o := ⟨_, rfl, h⟩
theorem hy_ck_some {α : Type} {c : Prop} [Decidable c] {k : Option α} {o : α} (h : hy_ck c k = some o) : c ∧ k = some o := by
  unfold hy_ck at h
  by_cases c0 : c
  · rw [if_pos c0] at h; exact ⟨c0, h⟩
  · rw [if_neg c0] at h; cases h
theorem hy_bd_some {α : Type} {x : Option (hy_S × Int32)} {k : hy_S → Int32 → Option α} {o : α} (h : hy_bd x k = some o) : ∃ τ v, x = some (τ, v) ∧ k τ v = some o := by
  cases x with
  | none => cases h
  | some q => exact ⟨q.1, q.2, rfl, h⟩
theorem hy_bool {v : Int32} (h : v = 0 ∨ v = 1) : narrow .boolean (.int v) = .int v := by
  rcases h with rfl | rfl <;> rfl

abbrev hy_O : Type := hy_S × Int32 × Nat
def hy_sl : List Nat := [3, 3, 5, 4, 3]
def hy_sb : List (List Int32) := [[106, 97, 114], [111, 105, 108], [109, 97, 107, 101, 114], [121, 101, 97, 114], [100, 117, 101]]
def hy_fu : Nat := 5000
def hy_bt {α : Type} (x : Option hy_O) (r : hy_O → Option α) (k : hy_S → Int32 → Option α) : Option α := match x with
  | some o => if o.2.2 = 0 then k o.1 o.2.1 else r o
  | none => none
theorem hy_bt_some {x : Option hy_O} {k : hy_S → Int32 → Option hy_O} {o : hy_O} (h : hy_bt x some k = some o) : (∃ τ v, x = some (τ, v, 0) ∧ k τ v = some o) ∨ (x = some o ∧ ¬ o.2.2 = 0) := by
  cases x with
  | none => cases h
  | some q =>
    unfold hy_bt at h
    by_cases c : q.2.2 = 0
    · rw [show (match some q with | some o => if o.2.2 = 0 then k o.1 o.2.1 else some o | none => none) = (if q.2.2 = 0 then k q.1 q.2.1 else some q) from rfl, if_pos c] at h
      exact Or.inl ⟨q.1, q.2.1, by rw [← c], h⟩
    · rw [show (match some q with | some o => if o.2.2 = 0 then k o.1 o.2.1 else some o | none => none) = (if q.2.2 = 0 then k q.1 q.2.1 else some q) from rfl, if_neg c] at h
      cases h
      exact Or.inr ⟨rfl, c⟩
def hy_len (k : Nat) : Int32 := Int32.ofNat (hy_sl.getD k 0) >>> ((0 : Int32) &&& 31)
def hy_chr (k : Nat) (i : Int32) : Int32 := ((((hy_sb.getD k []).getD i.toNatClampNeg 0) &&& 255).toUInt32 % 65536).toInt32
def fX2_add (σ : hy_S) (x1 : Int32) (x2 : Int32) (x3 : Int32) : Option (hy_S × Int32) := hy_pa σ 2 8 (σ.2 3) x1 (fun σ1 => hy_pa σ1 3 8 (σ1.2 3) x2 (fun σ4 => hy_pa σ4 4 8 (σ4.2 3) x3 (fun σ7 => hy_pf σ7 3 ((σ7.2 3) + 1) (fun σ10 => some (σ10, ((σ10.2 3) - 1))))))
def fX1_add (σ : hy_S) (x1 : Int32) (x2 : Int32) (x3 : Int32) : Option (hy_S × Int32) := hy_pa σ 5 60 (σ.2 4) x1 (fun σ1 => hy_pa σ1 6 60 (σ1.2 4) x2 (fun σ4 => hy_pa σ4 7 60 (σ4.2 4) x3 (fun σ7 => hy_pa σ7 8 60 (σ7.2 4) 0 (fun σ10 => hy_pa σ10 9 60 (σ10.2 4) 0 (fun σ13 => hy_pa σ13 10 60 (σ13.2 4) (-1) (fun σ16 => hy_pf σ16 4 ((σ16.2 4) + 1) (fun σ19 => some (σ19, ((σ19.2 4) - 1)))))))))
def fX1_pour (σ : hy_S) (x1 : Int32) (x2 : Int32) : Option (hy_S × Int32) := hy_ga σ 9 60 x1 (fun v1 => (if v1 = 0 then hy_ga σ 8 60 x1 (fun v5 => hy_ga σ 5 60 x1 (fun v8 => hy_ga σ 3 8 v8 (fun v11 => (if (v5 + x2) ≤ v11 then hy_ga σ 8 60 x1 (fun v15 => hy_pa σ 8 60 x1 (v15 + x2) (fun σ18 => hy_ga σ18 8 60 x1 (fun v21 => some (σ18, v21)))) else some (σ, (-1)))))) else some (σ, (-1))))
def fX1_move (σ : hy_S) (x1 : Int32) (x2 : Int32) (x3 : Int32) : Option (hy_S × Int32) := hy_pa σ 9 60 x1 x2 (fun σ1 => hy_pa σ1 10 60 x1 x3 (fun σ4 => some (σ4, 0)))
def fX1_weight (σ : hy_S) (x1 : Int32) : Option (hy_S × Int32) := hy_ga σ 5 60 x1 (fun v1 => hy_ga σ 2 8 v1 (fun v4 => hy_ga σ 8 60 x1 (fun v7 => some (σ, (v4 + v7)))))
def fX1_bears (σ : hy_S) (x1 : Int32) : Option (hy_S × Int32) := hy_ga σ 5 60 x1 (fun v1 => hy_ga σ 4 8 v1 (fun v4 => some (σ, v4)))
def fX1_countIn_25 (k4 : hy_S → Int32 → Int32 → Int32 → Option (hy_S × Int32)) (σ : hy_S) (x1 : Int32) (x2 : Int32) (x3 : Int32) : Option (hy_S × Int32) := k4 σ x1 x2 (x3 + 1)
def fX1_countIn_4 : Nat → hy_S → Int32 → Int32 → Int32 → Option (hy_S × Int32)
  | 0, _, _, _, _ => none
  | n + 1, σ, x1, x2, x3 => (if (σ.2 4) ≤ x3 then some (σ, x2) else hy_ga σ 9 60 x3 (fun v2 => (if v2 = x1 then fX1_countIn_25 (fX1_countIn_4 n) σ x1 (x2 + 1) x3 else fX1_countIn_25 (fX1_countIn_4 n) σ x1 x2 x3)))
def fX1_countIn (σ : hy_S) (x1 : Int32) : Option (hy_S × Int32) := fX1_countIn_4 hy_fu σ x1 0 0
def fX1_oilUnbroken_31 (k4 : hy_S → Int32 → Int32 → Option (hy_S × Int32)) (σ : hy_S) (x1 : Int32) (x2 : Int32) : Option (hy_S × Int32) := k4 σ x1 (x2 + 1)
def fX1_oilUnbroken_4 : Nat → hy_S → Int32 → Int32 → Option (hy_S × Int32)
  | 0, _, _, _ => none
  | n + 1, σ, x1, x2 => (if (σ.2 4) ≤ x2 then some (σ, x1) else hy_ga σ 9 60 x2 (fun v2 => (if v2 = 3 then fX1_oilUnbroken_31 (fX1_oilUnbroken_4 n) σ x1 x2 else hy_ga σ 8 60 x2 (fun v6 => fX1_oilUnbroken_31 (fX1_oilUnbroken_4 n) σ (x1 + v6) x2))))
def fX1_oilUnbroken (σ : hy_S) : Option (hy_S × Int32) := fX1_oilUnbroken_4 hy_fu σ 0 0
def fX0_pileOf (σ : hy_S) (x0 : Int32) (x1 : Int32) : Option (hy_S × Int32) := some (σ, ((x0 * 6) + x1))
def fX0_shipOf (σ : hy_S) (x0 : Int32) : Option (hy_S × Int32) := (if x0 = (-1) then some (σ, (-1)) else some (σ, (x0 / 6)))
def fX0_holdOf (σ : hy_S) (x0 : Int32) : Option (hy_S × Int32) := (if x0 = (-1) then some (σ, (-1)) else some (σ, (x0 - x0 / 6 * 6)))
def fX0_add (σ : hy_S) : Option (hy_S × Int32) := hy_pf σ 5 ((σ.2 5) + 1) (fun σ1 => some (σ1, ((σ1.2 5) - 1)))
def fX0_jarAt_14 (σ : hy_S) : Option (hy_S × Int32) := some (σ, (-1))
def fX0_jarAt (σ : hy_S) (x1 : Int32) (x2 : Int32) : Option (hy_S × Int32) := (if x2 < 0 then fX0_jarAt_14 σ else hy_ga σ 12 24 x1 (fun v2 => (if x2 < v2 then hy_ga σ 11 240 ((x1 * 10) + x2) (fun v6 => some (σ, v6)) else fX0_jarAt_14 σ)))
def fX0_setTop (σ : hy_S) (x1 : Int32) (x2 : Int32) : Option (hy_S × Int32) := hy_ga σ 12 24 x1 (fun v1 => hy_pa σ 11 240 ((x1 * 10) + v1) x2 (fun σ4 => hy_ga σ4 12 24 x1 (fun v7 => hy_pa σ4 12 24 x1 (v7 + 1) (fun σ10 => some (σ10, 0)))))
def fX0_canBear_19 : Nat → hy_S → Int32 → Int32 → Int32 → Option (hy_S × Int32)
  | 0, _, _, _, _ => none
  | n + 1, σ, x1, x3, x4 => (if x4 < 0 then some (σ, 1) else hy_ga σ 11 240 ((x1 * 10) + x4) (fun v2 => hy_bd (fX1_bears σ v2) (fun σ5 v6 => (if x3 ≤ v6 then hy_bd (fX1_weight σ5 v2) (fun σ9 v10 => (fX0_canBear_19 n) σ9 x1 (x3 + v10) (x4 + (-1))) else some (σ5, 0)))))
def fX0_canBear (σ : hy_S) (x1 : Int32) (x2 : Int32) : Option (hy_S × Int32) := hy_bd (fX1_weight σ x2) (fun σ1 v2 => hy_ga σ1 12 24 x1 (fun v4 => fX0_canBear_19 hy_fu σ1 x1 v2 (v4 - 1)))
def fX0_put (σ : hy_S) (x1 : Int32) (x2 : Int32) : Option (hy_S × Int32) := hy_ga σ 9 60 x1 (fun v1 => (if v1 = 0 then hy_ga σ 12 24 x2 (fun v5 => (if 10 ≤ v5 then some (σ, 0) else hy_bd (fX0_canBear σ x2 x1) (fun σ9 v10 => (if v10 = 0 then some (σ9, 0) else hy_bd (fX0_setTop σ9 x2 x1) (fun σ13 v14 => hy_bd (fX1_move σ13 x1 1 x2) (fun σ16 v17 => some (σ16, 1))))))) else some (σ, 0)))
def fX0_takeTop_39 (σ : hy_S) (x2 : Int32) : Option (hy_S × Int32) := some (σ, x2)
def fX0_takeTop (σ : hy_S) (x1 : Int32) : Option (hy_S × Int32) := hy_ga σ 12 24 x1 (fun v1 => hy_bd (fX0_jarAt σ x1 (v1 - 1)) (fun σ4 v5 => (if v5 = (-1) then fX0_takeTop_39 σ4 v5 else hy_ga σ4 12 24 x1 (fun v8 => hy_pa σ4 12 24 x1 (v8 - 1) (fun σ11 => hy_bd (fX1_move σ11 v5 2 (-1)) (fun σ14 v15 => fX0_takeTop_39 σ14 v5))))))
def fX0_weightAbove_75 (σ : hy_S) (x3 : Int32) : Option (hy_S × Int32) := some (σ, x3)
def fX0_weightAbove_29 : Nat → hy_S → Int32 → Int32 → Int32 → Int32 → Option (hy_S × Int32)
  | 0, _, _, _, _, _ => none
  | n + 1, σ, x1, x2, x3, x4 => (if x4 < 0 then fX0_weightAbove_75 σ x3 else hy_ga σ 11 240 ((x2 * 10) + x4) (fun v2 => (if v2 = x1 then fX0_weightAbove_75 σ x3 else hy_bd (fX1_weight σ v2) (fun σ6 v7 => (fX0_weightAbove_29 n) σ6 x1 x2 (x3 + v7) (x4 + (-1))))))
def fX0_weightAbove (σ : hy_S) (x1 : Int32) : Option (hy_S × Int32) := hy_ga σ 10 60 x1 (fun v1 => (if v1 = (-1) then some (σ, 0) else hy_ga σ 12 24 v1 (fun v5 => fX0_weightAbove_29 hy_fu σ x1 v1 0 (v5 - 1))))
def fX0_bearsInStorm (σ : hy_S) (x1 : Int32) (x2 : Int32) : Option (hy_S × Int32) := hy_bd (fX1_bears σ x1) (fun σ1 v2 => some (σ1, (v2 - (((v2 * x2) + 99) / 100))))
def fX0_breakWeak_53 (k12 : hy_S → Int32 → Int32 → Int32 → Int32 → Option (hy_S × Int32)) (σ : hy_S) (x1 : Int32) (x2 : Int32) (x3 : Int32) (x4 : Int32) (x5 : Int32) : Option (hy_S × Int32) := hy_bd (fX1_weight σ x5) (fun σ1 v2 => k12 σ1 x1 x2 (x3 + v2) (x4 + (-1)))
def fX0_breakWeak_12 : Nat → hy_S → Int32 → Int32 → Int32 → Int32 → Option (hy_S × Int32)
  | 0, _, _, _, _, _ => none
  | n + 1, σ, x1, x2, x3, x4 => (if x4 < 0 then some (σ, 0) else hy_ga σ 11 240 ((x1 * 10) + x4) (fun v2 => hy_bd (fX0_bearsInStorm σ v2 x2) (fun σ5 v6 => (if x3 ≤ v6 then fX0_breakWeak_53 (fX0_breakWeak_12 n) σ5 x1 x2 x3 x4 v2 else hy_bd (fX1_move σ5 v2 3 (-1)) (fun σ9 v10 => fX0_breakWeak_53 (fX0_breakWeak_12 n) σ9 x1 x2 x3 x4 v2)))))
def fX0_breakWeak (σ : hy_S) (x1 : Int32) (x2 : Int32) : Option (hy_S × Int32) := hy_ga σ 12 24 x1 (fun v1 => fX0_breakWeak_12 hy_fu σ x1 x2 0 (v1 - 1))
def fX0_closeGaps_55 (k16 : hy_S → Int32 → Int32 → Int32 → Option (hy_S × Int32)) (σ : hy_S) (x1 : Int32) (x2 : Int32) (x3 : Int32) : Option (hy_S × Int32) := k16 σ x1 x2 (x3 + 1)
def fX0_closeGaps_16 : Nat → hy_S → Int32 → Int32 → Int32 → Option (hy_S × Int32)
  | 0, _, _, _, _ => none
  | n + 1, σ, x1, x2, x3 => (if x2 ≤ x3 then some (σ, 0) else hy_ga σ 11 240 ((x1 * 10) + x3) (fun v2 => hy_ga σ 9 60 v2 (fun v5 => (if v5 = 1 then hy_bd (fX0_setTop σ x1 v2) (fun σ9 v10 => fX0_closeGaps_55 (fX0_closeGaps_16 n) σ9 x1 x2 x3) else fX0_closeGaps_55 (fX0_closeGaps_16 n) σ x1 x2 x3))))
def fX0_closeGaps (σ : hy_S) (x1 : Int32) : Option (hy_S × Int32) := hy_ga σ 12 24 x1 (fun v1 => hy_pa σ 12 24 x1 0 (fun σ4 => fX0_closeGaps_16 hy_fu σ4 x1 v1 0))
def fX0_shake_5 : Nat → hy_S → Int32 → Int32 → Int32 → Int32 → Option (hy_S × Int32)
  | 0, _, _, _, _, _ => none
  | n + 1, σ, x1, x2, x3, x4 => (if 6 ≤ x4 then some (σ, x3) else hy_bd (fX0_pileOf σ x1 x4) (fun σ2 v3 => hy_ga σ2 12 24 v3 (fun v5 => hy_bd (fX0_breakWeak σ2 v3 x2) (fun σ8 v9 => hy_bd (fX0_closeGaps σ8 v3) (fun σ11 v12 => hy_ga σ11 12 24 v3 (fun v14 => (fX0_shake_5 n) σ11 x1 x2 (x3 + (v5 - v14)) (x4 + 1)))))))
def fX0_shake (σ : hy_S) (x1 : Int32) (x2 : Int32) : Option (hy_S × Int32) := fX0_shake_5 hy_fu σ x1 x2 0 0
def fX6_reach (σ : hy_S) (x1 : Int32) : Option (hy_S × Int32) := hy_bd (fX1_weight σ x1) (fun σ1 v2 => hy_bd (fX1_bears σ1 x1) (fun σ4 v5 => some (σ4, (v2 + v5))))
def fX6_insert_49 (σ : hy_S) (x1 : Int32) (x2 : Int32) : Option (hy_S × Int32) := hy_pa σ 13 20 x2 x1 (fun σ1 => hy_pf σ1 6 ((σ1.2 6) + 1) (fun σ4 => some (σ4, 0)))
def fX6_insert_5 : Nat → hy_S → Int32 → Int32 → Option (hy_S × Int32)
  | 0, _, _, _ => none
  | n + 1, σ, x1, x2 => (if x2 ≤ 0 then fX6_insert_49 σ x1 x2 else hy_ga σ 13 20 (x2 - 1) (fun v2 => hy_bd (fX6_reach σ v2) (fun σ5 v6 => hy_bd (fX6_reach σ5 x1) (fun σ8 v9 => (if v6 ≤ v9 then fX6_insert_49 σ8 x1 x2 else hy_ga σ8 13 20 (x2 - 1) (fun v12 => hy_pa σ8 13 20 x2 v12 (fun σ15 => (fX6_insert_5 n) σ15 x1 (x2 + (-1)))))))))
def fX6_insert (σ : hy_S) (x1 : Int32) : Option (hy_S × Int32) := fX6_insert_5 hy_fu σ x1 (σ.2 6)
def fX6_choose_56 (σ : hy_S) : Option (hy_S × Int32) := some (σ, (σ.2 6))
def fX6_choose_50 (k7 : hy_S → Int32 → Int32 → Option (hy_S × Int32)) (σ : hy_S) (x1 : Int32) (x2 : Int32) : Option (hy_S × Int32) := k7 σ x1 (x2 + 1)
def fX6_choose_7 : Nat → hy_S → Int32 → Int32 → Option (hy_S × Int32)
  | 0, _, _, _ => none
  | n + 1, σ, x1, x2 => (if 20 ≤ x2 then fX6_choose_56 σ else (if (σ.2 4) ≤ x2 then fX6_choose_56 σ else (if ((x1 >>> (x2 &&& 31)) &&& 1) = 1 then hy_ga σ 9 60 x2 (fun v4 => (if v4 = 0 then hy_bd (fX6_insert σ x2) (fun σ8 v9 => fX6_choose_50 (fX6_choose_7 n) σ8 x1 x2) else fX6_choose_50 (fX6_choose_7 n) σ x1 x2)) else fX6_choose_50 (fX6_choose_7 n) σ x1 x2)))
def fX6_choose (σ : hy_S) (x1 : Int32) : Option (hy_S × Int32) := hy_pf σ 6 0 (fun σ1 => fX6_choose_7 hy_fu σ1 x1 0)
def fX6_greatest_121 (k11 : hy_S → Int32 → Int32 → Option (hy_S × Int32)) (σ : hy_S) (x1 : Int32) (x2 : Int32) : Option (hy_S × Int32) := k11 σ x1 (x2 + 1)
def fX6_greatest_99 (k11 : hy_S → Int32 → Int32 → Option (hy_S × Int32)) (k39 : hy_S → Int32 → Int32 → Int32 → Int32 → Option (hy_S × Int32)) (σ : hy_S) (x1 : Int32) (x2 : Int32) (x3 : Int32) (x4 : Int32) : Option (hy_S × Int32) := k39 σ x1 x2 x3 (x4 + (-1))
def fX6_greatest_39 (k11 : hy_S → Int32 → Int32 → Option (hy_S × Int32)) : Nat → hy_S → Int32 → Int32 → Int32 → Int32 → Option (hy_S × Int32)
  | 0, _, _, _, _, _ => none
  | n + 1, σ, x1, x2, x3, x4 => (if x4 < 0 then hy_ga σ 14 21 (x1 + 1) (fun v2 => (if 1000000000 ≤ v2 then fX6_greatest_121 k11 σ x1 x2 else fX6_greatest_121 k11 σ (x1 + 1) x2)) else hy_ga σ 14 21 x4 (fun v6 => hy_bd (fX1_bears σ x3) (fun σ9 v10 => (if v10 < v6 then fX6_greatest_99 k11 (fX6_greatest_39 k11 n) σ9 x1 x2 x3 x4 else hy_ga σ9 14 21 (x4 + 1) (fun v13 => hy_ga σ9 14 21 x4 (fun v16 => hy_bd (fX1_weight σ9 x3) (fun σ19 v20 => hy_pa σ19 14 21 (x4 + 1) (if (v16 + v20) < v13 then (v16 + v20) else v13) (fun σ24 => fX6_greatest_99 k11 (fX6_greatest_39 k11 n) σ24 x1 x2 x3 x4))))))))
def fX6_greatest_11 : Nat → hy_S → Int32 → Int32 → Option (hy_S × Int32)
  | 0, _, _, _ => none
  | n + 1, σ, x1, x2 => (if (σ.2 6) ≤ x2 then some (σ, x1) else hy_ga σ 13 20 x2 (fun v2 => hy_pa σ 14 21 (x1 + 1) 1000000000 (fun σ5 => fX6_greatest_39 (fX6_greatest_11 n) hy_fu σ5 x1 x2 v2 x1)))
def fX6_greatest (σ : hy_S) : Option (hy_S × Int32) := hy_pa σ 14 21 0 0 (fun σ1 => fX6_greatest_11 hy_fu σ1 0 0)
def fX4_due (σ : hy_S) (x1 : Int32) (x2 : Int32) : Option (hy_S × Int32) := hy_ga σ 15 8 x1 (fun v1 => some (σ, (((x2 * v1) + 9) / 10)))
def fX4_countNote (σ : hy_S) (x1 : Int32) (x2 : Int32) : Option (hy_S × Int32) := hy_ga σ 16 8 x1 (fun v1 => hy_pa σ 16 8 x1 (v1 + 1) (fun σ4 => (if x2 = 0 then some (σ4, 0) else hy_ga σ4 17 8 x1 (fun v8 => hy_pa σ4 17 8 x1 (v8 + 1) (fun σ11 => some (σ11, 0))))))
def fX5_add (σ : hy_S) (x1 : Int32) (x2 : Int32) : Option (hy_S × Int32) := hy_pa σ 18 60 (σ.2 7) (σ.2 7) (fun σ1 => hy_pa σ1 19 60 (σ1.2 7) 1 (fun σ4 => hy_pa σ4 20 60 (σ4.2 7) x1 (fun σ7 => hy_pa σ7 21 60 (σ7.2 7) x2 (fun σ10 => hy_pf σ10 7 ((σ10.2 7) + 1) (fun σ13 => some (σ13, ((σ13.2 7) - 1)))))))
def fX5_fit_40 (σ : hy_S) (s0 : Int32) (x1 : Int32) (x2 : Int32) : Option (hy_S × Int32) := hy_ga σ 20 60 x1 (fun v1 => hy_ga σ 20 60 x2 (fun v4 => (if v1 = v4 then (if s0 = 0 then some (σ, 0) else some (σ, 1)) else some (σ, 0))))
def fX5_fit_35 (σ : hy_S) (x1 : Int32) (x2 : Int32) : Option (hy_S × Int32) := fX5_fit_40 σ 1 x1 x2
def fX5_fit (σ : hy_S) (x1 : Int32) (x2 : Int32) : Option (hy_S × Int32) := hy_ga σ 21 60 x1 (fun v1 => (if v1 = (-1) then fX5_fit_35 σ x1 x2 else hy_ga σ 21 60 x2 (fun v5 => (if v5 = (-1) then fX5_fit_35 σ x1 x2 else hy_ga σ 21 60 x1 (fun v9 => hy_ga σ 21 60 x2 (fun v12 => (if v9 = v12 then fX5_fit_35 σ x1 x2 else fX5_fit_40 σ 0 x1 x2)))))))
def fX5_unite_84 (k55 : hy_S → Int32 → Int32 → Int32 → Option (hy_S × Int32)) (σ : hy_S) (x3 : Int32) (x4 : Int32) (x5 : Int32) : Option (hy_S × Int32) := k55 σ x3 x4 (x5 + 1)
def fX5_unite_55 : Nat → hy_S → Int32 → Int32 → Int32 → Option (hy_S × Int32)
  | 0, _, _, _, _ => none
  | n + 1, σ, x3, x4, x5 => (if (σ.2 7) ≤ x5 then hy_ga σ 19 60 x3 (fun v2 => hy_ga σ 19 60 x4 (fun v5 => hy_pa σ 19 60 x3 (v2 + v5) (fun σ8 => hy_ga σ8 21 60 x3 (fun v11 => (if v11 = (-1) then hy_ga σ8 21 60 x4 (fun v15 => hy_pa σ8 21 60 x3 v15 (fun σ18 => some (σ18, 1))) else some (σ8, 1)))))) else hy_ga σ 18 60 x5 (fun v21 => (if v21 = x4 then hy_pa σ 18 60 x5 x3 (fun σ25 => fX5_unite_84 (fX5_unite_55 n) σ25 x3 x4 x5) else fX5_unite_84 (fX5_unite_55 n) σ x3 x4 x5)))
def fX5_unite (σ : hy_S) (x1 : Int32) (x2 : Int32) : Option (hy_S × Int32) := hy_ga σ 18 60 x1 (fun v1 => hy_ga σ 18 60 x2 (fun v4 => hy_ga σ 18 60 x1 (fun v9 => hy_ga σ 18 60 x2 (fun v12 => (if (if v4 < v1 then v4 else v1) = (if v9 < v12 then v12 else v9) then some (σ, 0) else hy_bd (fX5_fit σ (if v4 < v1 then v4 else v1) (if v9 < v12 then v12 else v9)) (fun σ18 v19 => (if v19 = 0 then some (σ18, 0) else fX5_unite_55 hy_fu σ18 (if v4 < v1 then v4 else v1) (if v9 < v12 then v12 else v9) (if v9 < v12 then v12 else v9))))))))
def fX5_allVessels_25 (k4 : hy_S → Int32 → Int32 → Option (hy_S × Int32)) (σ : hy_S) (x1 : Int32) (x2 : Int32) : Option (hy_S × Int32) := k4 σ x1 (x2 + 1)
def fX5_allVessels_4 : Nat → hy_S → Int32 → Int32 → Option (hy_S × Int32)
  | 0, _, _, _ => none
  | n + 1, σ, x1, x2 => (if (σ.2 7) ≤ x2 then some (σ, x1) else hy_ga σ 18 60 x2 (fun v2 => (if v2 = x2 then fX5_allVessels_25 (fX5_allVessels_4 n) σ (x1 + 1) x2 else fX5_allVessels_25 (fX5_allVessels_4 n) σ x1 x2)))
def fX5_allVessels (σ : hy_S) : Option (hy_S × Int32) := fX5_allVessels_4 hy_fu σ 0 0
def fX5_vesselsWith_35 (k4 : hy_S → Int32 → Int32 → Int32 → Option (hy_S × Int32)) (σ : hy_S) (x1 : Int32) (x2 : Int32) (x3 : Int32) : Option (hy_S × Int32) := k4 σ x1 x2 (x3 + 1)
def fX5_vesselsWith_4 : Nat → hy_S → Int32 → Int32 → Int32 → Option (hy_S × Int32)
  | 0, _, _, _, _ => none
  | n + 1, σ, x1, x2, x3 => (if (σ.2 7) ≤ x3 then some (σ, x2) else hy_ga σ 18 60 x3 (fun v2 => (if v2 = x3 then hy_ga σ 21 60 x3 (fun v6 => (if v6 = x1 then fX5_vesselsWith_35 (fX5_vesselsWith_4 n) σ x1 (x2 + 1) x3 else fX5_vesselsWith_35 (fX5_vesselsWith_4 n) σ x1 x2 x3)) else fX5_vesselsWith_35 (fX5_vesselsWith_4 n) σ x1 x2 x3)))
def fX5_vesselsWith (σ : hy_S) (x1 : Int32) : Option (hy_S × Int32) := fX5_vesselsWith_4 hy_fu σ x1 0 0
def fX7_put_3 : Nat → hy_S → Int32 → Int32 → Option (hy_S × Int32)
  | 0, _, _, _ => none
  | n + 1, σ, x1, x2 => (if x2 < 0 then some (σ, 0) else hy_pa σ 0 400 (σ.2 2) (vp_nar .byte ((Int32.toInt8 ((Int32.toUInt32 x1 >>> (Int32.toUInt32 x2 &&& Int32.toUInt32 31)).toInt32)).toInt32)) (fun σ2 => hy_pf σ2 2 ((σ2.2 2) + 1) (fun σ5 => (fX7_put_3 n) σ5 x1 (x2 + (-8)))))
def fX7_put (σ : hy_S) (x1 : Int32) : Option (hy_S × Int32) := fX7_put_3 hy_fu σ x1 24
def fX7_append (σ : hy_S) (x1 : Int32) (x2 : Int32) (x3 : Int32) (x4 : Int32) (x5 : Int32) : Option (hy_S × Int32) := (if ((σ.2 2) + 20) ≤ 400 then hy_bd (fX7_put σ x1) (fun σ2 v3 => hy_bd (fX7_put σ2 x2) (fun σ5 v6 => hy_bd (fX7_put σ5 x3) (fun σ8 v9 => hy_bd (fX7_put σ8 x4) (fun σ11 v12 => hy_bd (fX7_put σ11 x5) (fun σ14 v15 => some (σ14, (σ14.2 2))))))) else some (σ, (-1)))
def fX7_keepFirst (σ : hy_S) (x1 : Int32) : Option (hy_S × Int32) := (if x1 < 0 then some (σ, 0) else (if x1 ≤ (σ.2 2) then hy_pf σ 2 x1 (fun σ3 => some (σ3, 1)) else some (σ, 0)))
def fX7_clear (σ : hy_S) : Option (hy_S × Int32) := hy_pf σ 2 0 (fun σ1 => some (σ1, 0))
def fX7_endsAt (σ : hy_S) (x1 : Int32) : Option (hy_S × Int32) := (if x1 < (σ.2 2) then some (σ, 0) else some (σ, 1))
def fX7_past_40 (σ : hy_S) (x4 : Int32) : Option (hy_S × Int32) := some (σ, x4)
def fX7_past_3 : Nat → hy_S → Int32 → Int32 → Int32 → Option (hy_S × Int32)
  | 0, _, _, _, _ => none
  | n + 1, σ, x2, x3, x4 => (if (σ.2 2) ≤ x4 then fX7_past_40 σ x4 else hy_ga σ 0 400 x4 (fun v2 => (if v2 < x2 then fX7_past_40 σ x4 else hy_ga σ 0 400 x4 (fun v6 => (if x3 < v6 then fX7_past_40 σ x4 else (fX7_past_3 n) σ x2 x3 (x4 + 1))))))
def fX7_past (σ : hy_S) (x1 : Int32) (x2 : Int32) (x3 : Int32) : Option (hy_S × Int32) := fX7_past_3 hy_fu σ x2 x3 x1
def fX7_digitsFrom_5 : Nat → hy_S → Int32 → Int32 → Int32 → Option (hy_S × Int32)
  | 0, _, _, _, _ => none
  | n + 1, σ, x2, x3, x4 => (if x2 ≤ x4 then some (σ, x3) else hy_ga σ 0 400 x4 (fun v2 => (fX7_digitsFrom_5 n) σ x2 ((x3 * 10) + (v2 - 48)) (x4 + 1)))
def fX7_digitsFrom (σ : hy_S) (x1 : Int32) (x2 : Int32) : Option (hy_S × Int32) := fX7_digitsFrom_5 hy_fu σ x2 0 x1
def fX8_setAll_a_2 : Nat → hy_S → Int32 → Int32 → Option (hy_S × Int32)
  | 0, _, _, _ => none
  | n + 1, σ, x1, x2 => (if 13 ≤ x2 then some (σ, 0) else hy_pa σ 28 13 x2 x1 (fun σ2 => (fX8_setAll_a_2 n) σ2 x1 (x2 + 1)))
def fX8_setAll_a (σ : hy_S) (x1 : Int32) : Option (hy_S × Int32) := fX8_setAll_a_2 hy_fu σ x1 0
def fX8_setAll_n_2 : Nat → hy_S → Int32 → Int32 → Option (hy_S × Int32)
  | 0, _, _, _ => none
  | n + 1, σ, x1, x2 => (if 13 ≤ x2 then some (σ, 0) else hy_pa σ 29 13 x2 x1 (fun σ2 => (fX8_setAll_n_2 n) σ2 x1 (x2 + 1)))
def fX8_setAll_n (σ : hy_S) (x1 : Int32) : Option (hy_S × Int32) := fX8_setAll_n_2 hy_fu σ x1 0
def fX8_add (σ : hy_S) (x1 : Int32) (x2 : Int32) (x3 : Int32) (x4 : Int32) : Option (hy_S × Int32) := hy_pa σ 22 60 (σ.2 8) x1 (fun σ1 => hy_pa σ1 23 60 (σ1.2 8) x2 (fun σ4 => hy_pa σ4 24 60 (σ4.2 8) x3 (fun σ7 => hy_pa σ7 25 60 (σ7.2 8) x4 (fun σ10 => hy_pa σ10 26 60 (σ10.2 8) (-1) (fun σ13 => hy_pf σ13 8 ((σ13.2 8) + 1) (fun σ16 => some (σ16, ((σ16.2 8) - 1))))))))
def fX8_takeBack (σ : hy_S) (x1 : Int32) (x2 : Int32) : Option (hy_S × Int32) := hy_ga σ 26 60 x1 (fun v1 => (if v1 = (-1) then hy_pa σ 26 60 x1 x2 (fun σ5 => some (σ5, 1)) else some (σ, 0)))
def fX8_recall_75 (k7 : hy_S → Int32 → Int32 → Option (hy_S × Int32)) (σ : hy_S) (x1 : Int32) (x2 : Int32) : Option (hy_S × Int32) := k7 σ x1 (x2 + 1)
def fX8_recall_40 (k7 : hy_S → Int32 → Int32 → Option (hy_S × Int32)) (σ : hy_S) (s0 : Int32) (x1 : Int32) (x2 : Int32) : Option (hy_S × Int32) := hy_ga σ 25 60 x2 (fun v1 => (if x1 < v1 then fX8_recall_75 k7 σ x1 x2 else (if s0 = 0 then fX8_recall_75 k7 σ x1 x2 else hy_pa σ 27 60 (σ.2 9) x2 (fun σ6 => hy_pf σ6 9 ((σ6.2 9) + 1) (fun σ9 => fX8_recall_75 k7 σ9 x1 x2)))))
def fX8_recall_35 (k7 : hy_S → Int32 → Int32 → Option (hy_S × Int32)) (σ : hy_S) (x1 : Int32) (x2 : Int32) : Option (hy_S × Int32) := fX8_recall_40 k7 σ 1 x1 x2
def fX8_recall_7 : Nat → hy_S → Int32 → Int32 → Option (hy_S × Int32)
  | 0, _, _, _ => none
  | n + 1, σ, x1, x2 => (if (σ.2 8) ≤ x2 then some (σ, 0) else hy_ga σ 26 60 x2 (fun v2 => (if v2 = (-1) then fX8_recall_35 (fX8_recall_7 n) σ x1 x2 else hy_ga σ 26 60 x2 (fun v6 => (if v6 ≤ x1 then fX8_recall_40 (fX8_recall_7 n) σ 0 x1 x2 else fX8_recall_35 (fX8_recall_7 n) σ x1 x2)))))
def fX8_recall (σ : hy_S) (x1 : Int32) : Option (hy_S × Int32) := hy_pf σ 9 0 (fun σ1 => fX8_recall_7 hy_fu σ1 x1 0)
def fX8_pushOn_84 (k4 : hy_S → Int32 → Int32 → Option (hy_S × Int32)) (σ : hy_S) (x1 : Int32) (x2 : Int32) : Option (hy_S × Int32) := k4 σ x1 (x2 + 1)
def fX8_pushOn_4 : Nat → hy_S → Int32 → Int32 → Option (hy_S × Int32)
  | 0, _, _, _ => none
  | n + 1, σ, x1, x2 => (if (σ.2 9) ≤ x2 then hy_ck (x1 = 0 ∨ x1 = 1) (some (σ, x1)) else hy_ga σ 27 60 x2 (fun v3 => hy_ga σ 22 60 v3 (fun v6 => hy_ga σ 28 13 v6 (fun v9 => (if v9 = (-1000000000) then fX8_pushOn_84 (fX8_pushOn_4 n) σ x1 x2 else hy_ga σ 24 60 v3 (fun v13 => hy_ga σ 23 60 v3 (fun v16 => hy_ga σ 28 13 v16 (fun v19 => (if (v9 + v13) ≤ v19 then fX8_pushOn_84 (fX8_pushOn_4 n) σ x1 x2 else hy_ga σ 23 60 v3 (fun v23 => hy_ga σ 24 60 v3 (fun v26 => hy_pa σ 28 13 v23 (v9 + v26) (fun σ29 => fX8_pushOn_84 (fX8_pushOn_4 n) σ29 1 x2))))))))))))
def fX8_pushOn (σ : hy_S) : Option (hy_S × Int32) := fX8_pushOn_4 hy_fu σ 0 0
def fX8_settles_2 : Nat → hy_S → Int32 → Option (hy_S × Int32)
  | 0, _, _ => none
  | n + 1, σ, x1 => (if 13 ≤ x1 then some (σ, 0) else hy_bd (fX8_pushOn σ) (fun σ2 v3 => (if v3 = 0 then some (σ2, 1) else (fX8_settles_2 n) σ2 (x1 + 1))))
def fX8_settles (σ : hy_S) : Option (hy_S × Int32) := fX8_settles_2 hy_fu σ 0
def fX8_canAllHold (σ : hy_S) : Option (hy_S × Int32) := hy_bd (fX8_setAll_a σ 0) (fun σ1 v2 => hy_bd (fX8_settles σ1) (fun σ4 v5 => hy_ck (v5 = 0 ∨ v5 = 1) (some (σ4, v5))))
def fX8_yearsBetween (σ : hy_S) (x1 : Int32) (x2 : Int32) : Option (hy_S × Int32) := hy_bd (fX8_setAll_a σ (-1000000000)) (fun σ1 v2 => hy_pa σ1 28 13 x1 0 (fun σ4 => hy_bd (fX8_settles σ4) (fun σ7 v8 => hy_ga σ7 28 13 x2 (fun v10 => some (σ7, v10)))))
def fX8_stepOn_85 (k11 : hy_S → Int32 → Option (hy_S × Int32)) (σ : hy_S) (x1 : Int32) : Option (hy_S × Int32) := k11 σ (x1 + 1)
def fX8_stepOn_11 : Nat → hy_S → Int32 → Option (hy_S × Int32)
  | 0, _, _ => none
  | n + 1, σ, x1 => (if (σ.2 9) ≤ x1 then hy_cp σ 29 28 0 0 13 (fun σ2 => some (σ2, 0)) else hy_ga σ 27 60 x1 (fun v4 => hy_ga σ 22 60 v4 (fun v7 => hy_ga σ 28 13 v7 (fun v10 => (if v10 = (-1000000000) then fX8_stepOn_85 (fX8_stepOn_11 n) σ x1 else hy_ga σ 24 60 v4 (fun v14 => hy_ga σ 23 60 v4 (fun v17 => hy_ga σ 29 13 v17 (fun v20 => (if (v10 + v14) ≤ v20 then fX8_stepOn_85 (fX8_stepOn_11 n) σ x1 else hy_ga σ 23 60 v4 (fun v24 => hy_ga σ 24 60 v4 (fun v27 => hy_pa σ 29 13 v24 (v10 + v27) (fun σ30 => fX8_stepOn_85 (fX8_stepOn_11 n) σ30 x1))))))))))))
def fX8_stepOn (σ : hy_S) : Option (hy_S × Int32) := hy_bd (fX8_setAll_n σ (-1000000000)) (fun σ1 v2 => fX8_stepOn_11 hy_fu σ1 0)
def fX8_ringThrough_18 : Nat → hy_S → Int32 → Int32 → Int32 → Option (hy_S × Int32)
  | 0, _, _, _, _ => none
  | n + 1, σ, x1, x2, x3 => (if x2 ≤ x3 then some (σ, x2) else hy_bd (fX8_stepOn σ) (fun σ2 v3 => hy_ga σ2 28 13 x1 (fun v5 => (if v5 ≤ 0 then (fX8_ringThrough_18 n) σ2 x1 x2 (x3 + 1) else some (σ2, x3)))))
def fX8_ringThrough (σ : hy_S) (x1 : Int32) (x2 : Int32) : Option (hy_S × Int32) := hy_bd (fX8_setAll_a σ (-1000000000)) (fun σ1 v2 => hy_pa σ1 28 13 x1 0 (fun σ4 => fX8_ringThrough_18 hy_fu σ4 x1 x2 1))
def fX8_fewestThatQuarrel_5 : Nat → hy_S → Int32 → Int32 → Option (hy_S × Int32)
  | 0, _, _, _ => none
  | n + 1, σ, x1, x2 => (if 13 ≤ x2 then some (σ, x1) else hy_bd (fX8_ringThrough σ x2 x1) (fun σ2 v3 => (fX8_fewestThatQuarrel_5 n) σ2 v3 (x2 + 1)))
def fX8_fewestThatQuarrel (σ : hy_S) : Option (hy_S × Int32) := fX8_fewestThatQuarrel_5 hy_fu σ 14 0
def fX10_thrown (σ : hy_S) : Option (hy_S × Int32) := some (σ, (σ.2 0))
def fX10_throwsIf_9 (σ : hy_S) (x1 : Int32) : Option (hy_S × Int32) := hy_ck (x1 = 0 ∨ x1 = 1) (some (σ, x1))
def fX10_throwsIf (σ : hy_S) (x1 : Int32) (x2 : Int32) : Option (hy_S × Int32) := (if x1 = 0 then fX10_throwsIf_9 σ x1 else hy_pf σ 0 x2 (fun σ2 => fX10_throwsIf_9 σ2 x1))
def fX10_in (σ : hy_S) (x0 : Int32) (x1 : Int32) (x2 : Int32) : Option (hy_S × Int32) := (if x0 < x1 then some (σ, 0) else (if x2 < x0 then some (σ, 0) else some (σ, 1)))
def fX10_noJar (σ : hy_S) (x1 : Int32) : Option (hy_S × Int32) := hy_bd (fX10_in σ x1 0 ((σ.2 2) - 1)) (fun σ1 v2 => (if v2 = 0 then some (σ1, 1) else some (σ1, 0)))
def fX10_noHold_23 (σ : hy_S) : Option (hy_S × Int32) := some (σ, 1)
def fX10_noHold (σ : hy_S) (x1 : Int32) (x2 : Int32) : Option (hy_S × Int32) := hy_bd (fX10_in σ x1 0 ((σ.2 3) - 1)) (fun σ1 v2 => (if v2 = 0 then fX10_noHold_23 σ1 else hy_bd (fX10_in σ1 x2 0 5) (fun σ5 v6 => (if v6 = 0 then fX10_noHold_23 σ5 else some (σ5, 0)))))
def fX10_weight (σ : hy_S) (x1 : Int32) : Option (hy_S × Int32) := hy_ga σ 3 60 x1 (fun v1 => hy_ga σ 0 8 v1 (fun v4 => hy_ga σ 6 60 x1 (fun v7 => some (σ, (v4 + v7)))))
def fX10_kind_65 (σ : hy_S) (s0 : Int32) (x1 : Int32) (x2 : Int32) (x3 : Int32) : Option (hy_S × Int32) := hy_bd (fX10_throwsIf σ s0 2) (fun σ1 v2 => (if v2 = 0 then hy_pa σ1 0 8 (σ1.2 1) x1 (fun σ5 => hy_pa σ5 1 8 (σ5.2 1) x2 (fun σ8 => hy_pa σ8 2 8 (σ8.2 1) x3 (fun σ11 => hy_pf σ11 1 ((σ11.2 1) + 1) (fun σ14 => some (σ14, ((σ14.2 1) - 1)))))) else some (σ1, 0)))
def fX10_kind_43 (σ : hy_S) (s0 : Int32) (x1 : Int32) (x2 : Int32) (x3 : Int32) : Option (hy_S × Int32) := hy_bd (fX10_throwsIf σ s0 1) (fun σ1 v2 => (if v2 = 0 then (if (σ1.2 1) = 8 then fX10_kind_65 σ1 1 x1 x2 x3 else fX10_kind_65 σ1 0 x1 x2 x3) else some (σ1, 0)))
def fX10_kind_38 (σ : hy_S) (x1 : Int32) (x2 : Int32) (x3 : Int32) : Option (hy_S × Int32) := fX10_kind_43 σ 1 x1 x2 x3
def fX10_kind (σ : hy_S) (x1 : Int32) (x2 : Int32) (x3 : Int32) : Option (hy_S × Int32) := hy_pf σ 0 0 (fun σ1 => hy_bd (fX10_in σ1 x1 1 100) (fun σ3 v4 => (if v4 = 0 then fX10_kind_38 σ3 x1 x2 x3 else hy_bd (fX10_in σ3 x2 1 200) (fun σ7 v8 => (if v8 = 0 then fX10_kind_38 σ7 x1 x2 x3 else hy_bd (fX10_in σ7 x3 0 5000) (fun σ11 v12 => (if v12 = 0 then fX10_kind_38 σ11 x1 x2 x3 else fX10_kind_43 σ11 0 x1 x2 x3)))))))
def fX10_fire_81 (σ : hy_S) (s0 : Int32) (x1 : Int32) (x2 : Int32) (x3 : Int32) : Option (hy_S × Int32) := hy_bd (fX10_throwsIf σ s0 3) (fun σ1 v2 => (if v2 = 0 then hy_pa σ1 3 60 (σ1.2 2) x1 (fun σ5 => hy_pa σ5 4 60 (σ5.2 2) x2 (fun σ8 => hy_pa σ8 5 60 (σ8.2 2) x3 (fun σ11 => hy_pa σ11 8 60 (σ11.2 2) (-1) (fun σ14 => hy_pf σ14 2 ((σ14.2 2) + 1) (fun σ17 => some (σ17, ((σ17.2 2) - 1))))))) else some (σ1, 0)))
def fX10_fire_59 (σ : hy_S) (s0 : Int32) (x1 : Int32) (x2 : Int32) (x3 : Int32) : Option (hy_S × Int32) := hy_bd (fX10_throwsIf σ s0 2) (fun σ1 v2 => (if v2 = 0 then (if (σ1.2 2) = 60 then fX10_fire_81 σ1 1 x1 x2 x3 else fX10_fire_81 σ1 0 x1 x2 x3) else some (σ1, 0)))
def fX10_fire_54 (σ : hy_S) (x1 : Int32) (x2 : Int32) (x3 : Int32) : Option (hy_S × Int32) := fX10_fire_59 σ 1 x1 x2 x3
def fX10_fire_25 (σ : hy_S) (s0 : Int32) (x1 : Int32) (x2 : Int32) (x3 : Int32) : Option (hy_S × Int32) := hy_bd (fX10_throwsIf σ s0 1) (fun σ1 v2 => (if v2 = 0 then hy_bd (fX10_in σ1 x2 0 15) (fun σ5 v6 => (if v6 = 0 then fX10_fire_54 σ5 x1 x2 x3 else hy_bd (fX10_in σ5 x3 1 300) (fun σ9 v10 => (if v10 = 0 then fX10_fire_54 σ9 x1 x2 x3 else fX10_fire_59 σ9 0 x1 x2 x3)))) else some (σ1, 0)))
def fX10_fire (σ : hy_S) (x1 : Int32) (x2 : Int32) (x3 : Int32) : Option (hy_S × Int32) := hy_pf σ 0 0 (fun σ1 => hy_bd (fX10_in σ1 x1 0 ((σ1.2 1) - 1)) (fun σ3 v4 => (if v4 = 0 then fX10_fire_25 σ3 1 x1 x2 x3 else fX10_fire_25 σ3 0 x1 x2 x3)))
def fX10_fill_35 (σ : hy_S) (s0 : Int32) (x1 : Int32) (x2 : Int32) : Option (hy_S × Int32) := hy_bd (fX10_throwsIf σ s0 2) (fun σ1 v2 => (if v2 = 0 then hy_ga σ1 7 60 x1 (fun v5 => (if v5 = 0 then hy_ga σ1 6 60 x1 (fun v9 => hy_ga σ1 3 60 x1 (fun v12 => hy_ga σ1 1 8 v12 (fun v15 => (if (v9 + x2) ≤ v15 then hy_ga σ1 6 60 x1 (fun v19 => hy_pa σ1 6 60 x1 (v19 + x2) (fun σ22 => hy_ga σ22 6 60 x1 (fun v25 => some (σ22, v25)))) else some (σ1, (-1)))))) else some (σ1, (-1)))) else some (σ1, 0)))
def fX10_fill (σ : hy_S) (x1 : Int32) (x2 : Int32) : Option (hy_S × Int32) := hy_pf σ 0 0 (fun σ1 => hy_bd (fX10_noJar σ1 x1) (fun σ3 v4 => hy_bd (fX10_throwsIf σ3 v4 1) (fun σ6 v7 => (if v7 = 0 then hy_bd (fX10_in σ6 x2 1 200) (fun σ10 v11 => (if v11 = 0 then fX10_fill_35 σ10 1 x1 x2 else fX10_fill_35 σ10 0 x1 x2)) else some (σ6, 0)))))
def fX10_ship_19 (σ : hy_S) (s0 : Int32) : Option (hy_S × Int32) := hy_bd (fX10_throwsIf σ s0 1) (fun σ1 v2 => (if v2 = 0 then hy_pf σ1 3 ((σ1.2 3) + 1) (fun σ5 => some (σ5, ((σ5.2 3) - 1))) else some (σ1, 0)))
def fX10_ship (σ : hy_S) : Option (hy_S × Int32) := hy_pf σ 0 0 (fun σ1 => (if (σ1.2 3) = 4 then fX10_ship_19 σ1 1 else fX10_ship_19 σ1 0))
def fX10_above_7 : Nat → hy_S → Int32 → Int32 → Int32 → Option (hy_S × Int32)
  | 0, _, _, _, _ => none
  | n + 1, σ, x1, x3, x4 => hy_ga σ 10 24 x1 (fun v1 => (if v1 ≤ x4 then some (σ, x3) else hy_ga σ 9 240 ((10 * x1) + x4) (fun v5 => hy_bd (fX10_weight σ v5) (fun σ8 v9 => (fX10_above_7 n) σ8 x1 (x3 + v9) (x4 + 1)))))
def fX10_above (σ : hy_S) (x1 : Int32) (x2 : Int32) : Option (hy_S × Int32) := fX10_above_7 hy_fu σ x1 0 (x2 + 1)
def fX10_load_71 : Nat → hy_S → Int32 → Int32 → Int32 → Option (hy_S × Int32)
  | 0, _, _, _, _ => none
  | n + 1, σ, x1, x4, x5 => hy_ga σ 10 24 x4 (fun v1 => (if v1 ≤ x5 then hy_ga σ 10 24 x4 (fun v5 => hy_pa σ 9 240 ((10 * x4) + v5) x1 (fun σ8 => hy_ga σ8 10 24 x4 (fun v11 => hy_pa σ8 10 24 x4 (v11 + 1) (fun σ14 => hy_pa σ14 7 60 x1 1 (fun σ17 => hy_pa σ17 8 60 x1 x4 (fun σ20 => some (σ20, 1))))))) else hy_bd (fX10_above σ x4 x5) (fun σ23 v24 => hy_bd (fX10_weight σ23 x1) (fun σ26 v27 => hy_ga σ26 9 240 ((10 * x4) + x5) (fun v29 => hy_ga σ26 3 60 v29 (fun v32 => hy_ga σ26 2 8 v32 (fun v35 => (if (v24 + v27) ≤ v35 then (fX10_load_71 n) σ26 x1 x4 (x5 + 1) else some (σ26, 0)))))))))
def fX10_load_28 (σ : hy_S) (s0 : Int32) (x1 : Int32) (x2 : Int32) (x3 : Int32) : Option (hy_S × Int32) := hy_bd (fX10_throwsIf σ s0 1) (fun σ1 v2 => (if v2 = 0 then hy_ga σ1 7 60 x1 (fun v5 => (if v5 = 0 then hy_ga σ1 10 24 ((6 * x2) + x3) (fun v9 => (if v9 = 10 then some (σ1, 0) else fX10_load_71 hy_fu σ1 x1 ((6 * x2) + x3) 0)) else some (σ1, 0))) else some (σ1, 0)))
def fX10_load_23 (σ : hy_S) (x1 : Int32) (x2 : Int32) (x3 : Int32) : Option (hy_S × Int32) := fX10_load_28 σ 1 x1 x2 x3
def fX10_load (σ : hy_S) (x1 : Int32) (x2 : Int32) (x3 : Int32) : Option (hy_S × Int32) := hy_pf σ 0 0 (fun σ1 => hy_bd (fX10_noJar σ1 x1) (fun σ3 v4 => (if v4 = 0 then hy_bd (fX10_noHold σ3 x2 x3) (fun σ7 v8 => (if v8 = 0 then fX10_load_28 σ7 0 x1 x2 x3 else fX10_load_23 σ7 x1 x2 x3)) else fX10_load_23 σ3 x1 x2 x3)))
def fX10_land (σ : hy_S) (x1 : Int32) (x2 : Int32) : Option (hy_S × Int32) := hy_pf σ 0 0 (fun σ1 => hy_bd (fX10_noHold σ1 x1 x2) (fun σ3 v4 => hy_bd (fX10_throwsIf σ3 v4 1) (fun σ6 v7 => (if v7 = 0 then hy_ga σ6 10 24 ((6 * x1) + x2) (fun v10 => (if v10 = 0 then some (σ6, (-1)) else hy_ga σ6 10 24 ((6 * x1) + x2) (fun v14 => hy_pa σ6 10 24 ((6 * x1) + x2) (v14 - 1) (fun σ17 => hy_ga σ17 10 24 ((6 * x1) + x2) (fun v20 => hy_ga σ17 9 240 ((10 * ((6 * x1) + x2)) + v20) (fun v23 => hy_pa σ17 7 60 v23 2 (fun σ26 => hy_pa σ26 8 60 v23 (-1) (fun σ29 => some (σ29, v23))))))))) else some (σ6, 0)))))
def fX10_meets_153 (k87 : hy_S → Int32 → Int32 → Int32 → Int32 → Option (hy_S × Int32)) (σ : hy_S) (x1 : Int32) (x3 : Int32) (x4 : Int32) (x5 : Int32) : Option (hy_S × Int32) := k87 σ x1 x3 x4 (x5 + 1)
def fX10_meets_87 : Nat → hy_S → Int32 → Int32 → Int32 → Int32 → Option (hy_S × Int32)
  | 0, _, _, _, _, _ => none
  | n + 1, σ, x1, x3, x4, x5 => (if x4 ≤ x5 then hy_pa σ 10 24 x1 x3 (fun σ2 => some (σ2, (x4 - x3))) else hy_ga σ 9 240 ((10 * x1) + x5) (fun v5 => hy_ga σ 11 10 x5 (fun v8 => (if v8 = 0 then hy_pa σ 9 240 ((10 * x1) + x3) v5 (fun σ12 => fX10_meets_153 (fX10_meets_87 n) σ12 x1 (x3 + 1) x4 x5) else hy_pa σ 7 60 v5 3 (fun σ15 => hy_pa σ15 8 60 v5 (-1) (fun σ18 => fX10_meets_153 (fX10_meets_87 n) σ18 x1 x3 x4 x5))))))
def fX10_meets_67 (k2 : hy_S → Int32 → Int32 → Int32 → Option (hy_S × Int32)) (σ : hy_S) (s0 : Int32) (s1 : Int32) (x1 : Int32) (x2 : Int32) (x3 : Int32) : Option (hy_S × Int32) := hy_pa σ 11 10 s1 (vp_nar .boolean s0) (fun σ1 => k2 σ1 x1 x2 (x3 + 1))
def fX10_meets_2 : Nat → hy_S → Int32 → Int32 → Int32 → Option (hy_S × Int32)
  | 0, _, _, _, _ => none
  | n + 1, σ, x1, x2, x3 => hy_ga σ 10 24 x1 (fun v1 => (if v1 ≤ x3 then hy_ga σ 10 24 x1 (fun v5 => fX10_meets_87 hy_fu σ x1 0 v5 0) else hy_ga σ 9 240 ((10 * x1) + x3) (fun v8 => hy_ga σ 3 60 v8 (fun v11 => hy_ga σ 2 8 v11 (fun v14 => hy_bd (fX10_above σ x1 x3) (fun σ17 v18 => (if v18 ≤ (v14 - (((v14 * x2) + 99) / 100)) then fX10_meets_67 (fX10_meets_2 n) σ17 0 x3 x1 x2 x3 else fX10_meets_67 (fX10_meets_2 n) σ17 1 x3 x1 x2 x3)))))))
def fX10_meets (σ : hy_S) (x1 : Int32) (x2 : Int32) : Option (hy_S × Int32) := fX10_meets_2 hy_fu σ x1 x2 0
def fX10_storm_62 : Nat → hy_S → Int32 → Int32 → Int32 → Int32 → Option (hy_S × Int32)
  | 0, _, _, _, _, _ => none
  | n + 1, σ, x1, x2, x3, x4 => (if 6 ≤ x4 then some (σ, x3) else hy_bd (fX10_meets σ ((6 * x1) + x4) x2) (fun σ2 v3 => (fX10_storm_62 n) σ2 x1 x2 (x3 + v3) (x4 + 1)))
def fX10_storm_48 (σ : hy_S) (s0 : Int32) (x1 : Int32) (x2 : Int32) : Option (hy_S × Int32) := hy_bd (fX10_throwsIf σ s0 2) (fun σ1 v2 => (if v2 = 0 then fX10_storm_62 hy_fu σ1 x1 x2 0 0 else some (σ1, 0)))
def fX10_storm_25 (σ : hy_S) (s0 : Int32) (x1 : Int32) (x2 : Int32) : Option (hy_S × Int32) := hy_bd (fX10_throwsIf σ s0 1) (fun σ1 v2 => (if v2 = 0 then hy_bd (fX10_in σ1 x2 0 100) (fun σ5 v6 => (if v6 = 0 then fX10_storm_48 σ5 1 x1 x2 else fX10_storm_48 σ5 0 x1 x2)) else some (σ1, 0)))
def fX10_storm (σ : hy_S) (x1 : Int32) (x2 : Int32) : Option (hy_S × Int32) := hy_pf σ 0 0 (fun σ1 => hy_bd (fX10_in σ1 x1 0 ((σ1.2 3) - 1)) (fun σ3 v4 => (if v4 = 0 then fX10_storm_25 σ3 1 x1 x2 else fX10_storm_25 σ3 0 x1 x2)))
def fX10_look_172 : Nat → hy_S → Int32 → Int32 → Option (hy_S × Int32)
  | 0, _, _, _ => none
  | n + 1, σ, x1, x3 => hy_ga σ 8 60 x1 (fun v1 => hy_ga σ 9 240 ((10 * v1) + x3) (fun v4 => (if v4 = x1 then hy_ga σ 8 60 x1 (fun v8 => hy_bd (fX10_above σ v8 x3) (fun σ11 v12 => some (σ11, v12))) else (fX10_look_172 n) σ x1 (x3 + 1))))
def fX10_look (σ : hy_S) (x1 : Int32) (x2 : Int32) : Option (hy_S × Int32) := hy_pf σ 0 0 (fun σ1 => hy_bd (fX10_noJar σ1 x1) (fun σ3 v4 => hy_bd (fX10_throwsIf σ3 v4 1) (fun σ6 v7 => (if v7 = 0 then (if x2 = 0 then hy_ga σ6 7 60 x1 (fun v11 => some (σ6, v11)) else (if x2 = 1 then hy_ga σ6 3 60 x1 (fun v15 => some (σ6, v15)) else (if x2 = 2 then hy_ga σ6 4 60 x1 (fun v19 => some (σ6, v19)) else (if x2 = 3 then hy_ga σ6 5 60 x1 (fun v23 => some (σ6, v23)) else (if x2 = 4 then hy_ga σ6 6 60 x1 (fun v27 => some (σ6, v27)) else (if x2 = 5 then hy_bd (fX10_weight σ6 x1) (fun σ31 v32 => some (σ31, v32)) else (if x2 = 6 then hy_ga σ6 8 60 x1 (fun v35 => (if 0 ≤ v35 then hy_ga σ6 8 60 x1 (fun v39 => some (σ6, (v39 / 6))) else some (σ6, (-1)))) else (if x2 = 7 then hy_ga σ6 8 60 x1 (fun v43 => (if 0 ≤ v43 then hy_ga σ6 8 60 x1 (fun v47 => some (σ6, (v47 - v47 / 6 * 6))) else some (σ6, (-1)))) else (if x2 = 8 then hy_ga σ6 8 60 x1 (fun v51 => (if 0 ≤ v51 then fX10_look_172 hy_fu σ6 x1 0 else some (σ6, 0))) else hy_pf σ6 0 2 (fun σ55 => some (σ55, 0))))))))))) else some (σ6, 0)))))
def fX10_stack (σ : hy_S) (x1 : Int32) (x2 : Int32) (x3 : Int32) : Option (hy_S × Int32) := hy_pf σ 0 0 (fun σ1 => hy_bd (fX10_noHold σ1 x1 x2) (fun σ3 v4 => hy_bd (fX10_throwsIf σ3 v4 1) (fun σ6 v7 => (if v7 = 0 then hy_ga σ6 10 24 ((6 * x1) + x2) (fun v10 => hy_bd (fX10_in σ6 x3 0 (v10 - 1)) (fun σ13 v14 => (if v14 = 0 then some (σ13, (-1)) else hy_ga σ13 9 240 ((10 * ((6 * x1) + x2)) + x3) (fun v17 => some (σ13, v17))))) else some (σ6, 0)))))
def fX10_feed_60 : Nat → hy_S → Int32 → Option (hy_S × Int32)
  | 0, _, _ => none
  | n + 1, σ, x6 => (if 20 ≤ x6 then hy_pf σ 4 ((σ.2 4) + 20) (fun σ2 => some (σ2, (σ2.2 4))) else hy_ga σ 18 5 (x6 / 4) (fun v4 => hy_pa σ 17 400 ((σ.2 4) + x6) (vp_nar .byte ((Int32.toInt8 (v4 >>> ((24 - (8 * (x6 - x6 / 4 * 4))) &&& 31))).toInt32)) (fun σ7 => (fX10_feed_60 n) σ7 (x6 + 1))))
def fX10_feed (σ : hy_S) (x1 : Int32) (x2 : Int32) (x3 : Int32) (x4 : Int32) (x5 : Int32) : Option (hy_S × Int32) := hy_pf σ 0 0 (fun σ1 => (if ((σ1.2 4) + 20) ≤ 400 then hy_pa σ1 18 5 0 x1 (fun σ4 => hy_pa σ4 18 5 1 x2 (fun σ7 => hy_pa σ7 18 5 2 x3 (fun σ10 => hy_pa σ10 18 5 3 x4 (fun σ13 => hy_pa σ13 18 5 4 x5 (fun σ16 => fX10_feed_60 hy_fu σ16 0))))) else some (σ1, (-1))))
def fX10_end (σ : hy_S) (x1 : Int32) : Option (hy_S × Int32) := hy_pf σ 0 0 (fun σ1 => (if x1 < 0 then some (σ1, 0) else (if x1 ≤ (σ1.2 4) then hy_pf σ1 4 x1 (fun σ5 => some (σ5, 1)) else some (σ1, 0))))
def fX10_rate_45 (σ : hy_S) (s0 : Int32) (x1 : Int32) (x2 : Int32) : Option (hy_S × Int32) := hy_bd (fX10_throwsIf σ s0 2) (fun σ1 v2 => (if v2 = 0 then hy_pa σ1 14 8 x1 x2 (fun σ5 => some (σ5, 0)) else some (σ1, 0)))
def fX10_rate_21 (σ : hy_S) (s0 : Int32) (x1 : Int32) (x2 : Int32) : Option (hy_S × Int32) := hy_bd (fX10_throwsIf σ s0 1) (fun σ1 v2 => (if v2 = 0 then hy_bd (fX10_in σ1 x2 0 1000) (fun σ5 v6 => (if v6 = 0 then fX10_rate_45 σ5 1 x1 x2 else fX10_rate_45 σ5 0 x1 x2)) else some (σ1, 0)))
def fX10_rate (σ : hy_S) (x1 : Int32) (x2 : Int32) : Option (hy_S × Int32) := hy_pf σ 0 0 (fun σ1 => hy_bd (fX10_in σ1 x1 0 7) (fun σ3 v4 => (if v4 = 0 then fX10_rate_21 σ3 1 x1 x2 else fX10_rate_21 σ3 0 x1 x2)))
def fX10_isAt (σ : hy_S) (x1 : Int32) (x2 : Int32) : Option (hy_S × Int32) := (if (σ.2 6) ≤ (σ.2 5) then some (σ, 0) else hy_ga σ 17 400 (σ.2 5) (fun v2 => (if v2 < x1 then some (σ, 0) else hy_ga σ 17 400 (σ.2 5) (fun v6 => (if x2 < v6 then some (σ, 0) else some (σ, 1))))))
def fX10_blanks_0 : Nat → hy_S → Option (hy_S × Int32)
  | 0, _ => none
  | n + 1, σ => hy_bd (fX10_isAt σ 32 32) (fun σ1 v2 => (if v2 = 0 then hy_pf σ1 7 (σ1.2 5) (fun σ5 => some (σ5, 0)) else hy_pf σ1 5 ((σ1.2 5) + 1) (fun σ7 => (fX10_blanks_0 n) σ7)))
def fX10_blanks (σ : hy_S) : Option (hy_S × Int32) := fX10_blanks_0 hy_fu σ
def fX10_isFalse (σ : hy_S) (x1 : Int32) : Option (hy_S × Int32) := hy_ga σ 19 5 0 (fun v1 => hy_bd (fX10_noJar σ v1) (fun σ4 v5 => (if v5 = 0 then hy_ga σ4 7 60 v1 (fun v8 => (if v8 = 1 then hy_ga σ4 19 5 1 (fun v12 => hy_ga σ4 6 60 v1 (fun v15 => (if v12 = v15 then hy_ga σ4 19 5 2 (fun v19 => hy_ga σ4 4 60 v1 (fun v22 => (if v19 = v22 then hy_ga σ4 19 5 3 (fun v26 => hy_ga σ4 5 60 v1 (fun v29 => (if v26 = v29 then hy_ga σ4 19 5 4 (fun v33 => hy_ga σ4 6 60 v1 (fun v36 => hy_ga σ4 14 8 x1 (fun v39 => (if v33 = (((v36 * v39) + 9) / 10) then some (σ4, 0) else some (σ4, 5))))) else some (σ4, 4)))) else some (σ4, 3)))) else some (σ4, 2)))) else some (σ4, 1))) else some (σ4, 1))))
def fX10_fault (σ : hy_S) : Option (hy_S × Int32) := hy_pf σ 0 0 (fun σ1 => some (σ1, (σ1.2 8)))
def fX10_notes_21 (σ : hy_S) (s0 : Int32) (x1 : Int32) (x2 : Int32) : Option (hy_S × Int32) := hy_bd (fX10_throwsIf σ s0 1) (fun σ1 v2 => (if v2 = 0 then (if x2 = 0 then hy_ga σ1 15 8 x1 (fun v6 => some (σ1, v6)) else hy_ga σ1 16 8 x1 (fun v9 => some (σ1, v9))) else some (σ1, 0)))
def fX10_notes (σ : hy_S) (x1 : Int32) (x2 : Int32) : Option (hy_S × Int32) := hy_pf σ 0 0 (fun σ1 => hy_bd (fX10_in σ1 x1 0 7) (fun σ3 v4 => (if v4 = 0 then fX10_notes_21 σ3 1 x1 x2 else fX10_notes_21 σ3 0 x1 x2)))
def fX10_noStamp (σ : hy_S) (x0 : Int32) : Option (hy_S × Int32) := hy_bd (fX10_in σ x0 0 11) (fun σ1 v2 => (if v2 = 0 then some (σ1, 1) else some (σ1, 0)))
def fX10_noSherd (σ : hy_S) (x1 : Int32) : Option (hy_S × Int32) := hy_bd (fX10_in σ x1 0 ((σ.2 9) - 1)) (fun σ1 v2 => (if v2 = 0 then some (σ1, 1) else some (σ1, 0)))
def fX10_sherd_68 (σ : hy_S) (s0 : Int32) (x1 : Int32) (x2 : Int32) : Option (hy_S × Int32) := hy_bd (fX10_throwsIf σ s0 3) (fun σ1 v2 => (if v2 = 0 then hy_pa σ1 20 60 (σ1.2 9) x1 (fun σ5 => hy_pa σ5 21 60 (σ5.2 9) x2 (fun σ8 => hy_pa σ8 22 60 (σ8.2 9) (σ8.2 9) (fun σ11 => hy_pf σ11 9 ((σ11.2 9) + 1) (fun σ14 => some (σ14, ((σ14.2 9) - 1)))))) else some (σ1, 0)))
def fX10_sherd_46 (σ : hy_S) (s0 : Int32) (x1 : Int32) (x2 : Int32) : Option (hy_S × Int32) := hy_bd (fX10_throwsIf σ s0 2) (fun σ1 v2 => (if v2 = 0 then (if (σ1.2 9) = 60 then fX10_sherd_68 σ1 1 x1 x2 else fX10_sherd_68 σ1 0 x1 x2) else some (σ1, 0)))
def fX10_sherd_23 (σ : hy_S) (s0 : Int32) (x1 : Int32) (x2 : Int32) : Option (hy_S × Int32) := hy_bd (fX10_throwsIf σ s0 1) (fun σ1 v2 => (if v2 = 0 then hy_bd (fX10_in σ1 x1 0 15) (fun σ5 v6 => (if v6 = 0 then fX10_sherd_46 σ5 1 x1 x2 else fX10_sherd_46 σ5 0 x1 x2)) else some (σ1, 0)))
def fX10_sherd_22 (σ : hy_S) (x1 : Int32) (x2 : Int32) : Option (hy_S × Int32) := fX10_sherd_23 σ 0 x1 x2
def fX10_sherd (σ : hy_S) (x1 : Int32) (x2 : Int32) : Option (hy_S × Int32) := hy_pf σ 0 0 (fun σ1 => (if x2 = (-1) then fX10_sherd_22 σ1 x1 x2 else hy_bd (fX10_noStamp σ1 x2) (fun σ4 v5 => (if v5 = 0 then fX10_sherd_22 σ4 x1 x2 else fX10_sherd_23 σ4 1 x1 x2))))
def fX10_stampOf_38 (k4 : hy_S → Int32 → Int32 → Int32 → Option (hy_S × Int32)) (σ : hy_S) (x1 : Int32) (x2 : Int32) (x3 : Int32) : Option (hy_S × Int32) := k4 σ x1 x2 (x3 + 1)
def fX10_stampOf_4 : Nat → hy_S → Int32 → Int32 → Int32 → Option (hy_S × Int32)
  | 0, _, _, _, _ => none
  | n + 1, σ, x1, x2, x3 => (if (σ.2 9) ≤ x3 then some (σ, x2) else hy_ga σ 22 60 x3 (fun v2 => (if v2 = x1 then hy_ga σ 21 60 x3 (fun v6 => (if v6 < 0 then fX10_stampOf_38 (fX10_stampOf_4 n) σ x1 x2 x3 else hy_ga σ 21 60 x3 (fun v10 => fX10_stampOf_38 (fX10_stampOf_4 n) σ x1 v10 x3))) else fX10_stampOf_38 (fX10_stampOf_4 n) σ x1 x2 x3)))
def fX10_stampOf (σ : hy_S) (x1 : Int32) : Option (hy_S × Int32) := fX10_stampOf_4 hy_fu σ x1 (-1) 0
def fX10_join_156 (k127 : hy_S → Int32 → Int32 → Int32 → Option (hy_S × Int32)) (σ : hy_S) (x3 : Int32) (x4 : Int32) (x7 : Int32) : Option (hy_S × Int32) := k127 σ x3 x4 (x7 + 1)
def fX10_join_127 : Nat → hy_S → Int32 → Int32 → Int32 → Option (hy_S × Int32)
  | 0, _, _, _, _ => none
  | n + 1, σ, x3, x4, x7 => (if (σ.2 9) ≤ x7 then some (σ, 1) else hy_ga σ 22 60 x7 (fun v2 => (if v2 = x4 then hy_pa σ 22 60 x7 x3 (fun σ6 => fX10_join_156 (fX10_join_127 n) σ6 x3 x4 x7) else fX10_join_156 (fX10_join_127 n) σ x3 x4 x7)))
def fX10_join_124 (σ : hy_S) (x3 : Int32) (x4 : Int32) : Option (hy_S × Int32) := fX10_join_127 hy_fu σ x3 x4 0
def fX10_join_27 (σ : hy_S) (s0 : Int32) (x1 : Int32) (x2 : Int32) : Option (hy_S × Int32) := hy_bd (fX10_throwsIf σ s0 1) (fun σ1 v2 => (if v2 = 0 then hy_ga σ1 22 60 x1 (fun v5 => hy_ga σ1 22 60 x2 (fun v8 => hy_ga σ1 22 60 x1 (fun v13 => hy_ga σ1 22 60 x2 (fun v16 => hy_bd (fX10_stampOf σ1 (if v8 < v5 then v8 else v5)) (fun σ21 v22 => hy_bd (fX10_stampOf σ21 (if v13 < v16 then v16 else v13)) (fun σ24 v25 => (if (if v8 < v5 then v8 else v5) = (if v13 < v16 then v16 else v13) then some (σ24, 0) else hy_ga σ24 20 60 x1 (fun v28 => hy_ga σ24 20 60 x2 (fun v31 => (if v28 = v31 then (if v22 < 0 then fX10_join_124 σ24 (if v8 < v5 then v8 else v5) (if v13 < v16 then v16 else v13) else (if v25 < 0 then fX10_join_124 σ24 (if v8 < v5 then v8 else v5) (if v13 < v16 then v16 else v13) else (if v22 = v25 then fX10_join_124 σ24 (if v8 < v5 then v8 else v5) (if v13 < v16 then v16 else v13) else some (σ24, 0)))) else some (σ24, 0))))))))))) else some (σ1, 0)))
def fX10_join_22 (σ : hy_S) (x1 : Int32) (x2 : Int32) : Option (hy_S × Int32) := fX10_join_27 σ 1 x1 x2
def fX10_join (σ : hy_S) (x1 : Int32) (x2 : Int32) : Option (hy_S × Int32) := hy_pf σ 0 0 (fun σ1 => hy_bd (fX10_noSherd σ1 x1) (fun σ3 v4 => (if v4 = 0 then hy_bd (fX10_noSherd σ3 x2) (fun σ7 v8 => (if v8 = 0 then fX10_join_27 σ7 0 x1 x2 else fX10_join_22 σ7 x1 x2)) else fX10_join_22 σ3 x1 x2)))
def fX10_vessels_73 (k36 : hy_S → Int32 → Int32 → Int32 → Option (hy_S × Int32)) (σ : hy_S) (s0 : Int32) (s1 : Int32) (x1 : Int32) (x3 : Int32) : Option (hy_S × Int32) := k36 σ x1 (s1 + s0) (x3 + 1)
def fX10_vessels_72 (k36 : hy_S → Int32 → Int32 → Int32 → Option (hy_S × Int32)) (σ : hy_S) (s0 : Int32) (x1 : Int32) (x3 : Int32) : Option (hy_S × Int32) := fX10_vessels_73 k36 σ 0 s0 x1 x3
def fX10_vessels_68 (k36 : hy_S → Int32 → Int32 → Int32 → Option (hy_S × Int32)) (σ : hy_S) (s0 : Int32) (x1 : Int32) (x3 : Int32) : Option (hy_S × Int32) := fX10_vessels_73 k36 σ 1 s0 x1 x3
def fX10_vessels_36 : Nat → hy_S → Int32 → Int32 → Int32 → Option (hy_S × Int32)
  | 0, _, _, _, _ => none
  | n + 1, σ, x1, x2, x3 => (if (σ.2 9) ≤ x3 then some (σ, x2) else hy_ga σ 22 60 x3 (fun v2 => (if v2 = x3 then (if x1 < 0 then fX10_vessels_68 (fX10_vessels_36 n) σ x2 x1 x3 else hy_bd (fX10_stampOf σ x3) (fun σ7 v8 => (if v8 = x1 then fX10_vessels_68 (fX10_vessels_36 n) σ7 x2 x1 x3 else fX10_vessels_72 (fX10_vessels_36 n) σ7 x2 x1 x3))) else fX10_vessels_72 (fX10_vessels_36 n) σ x2 x1 x3)))
def fX10_vessels_23 (σ : hy_S) (s0 : Int32) (x1 : Int32) : Option (hy_S × Int32) := hy_bd (fX10_throwsIf σ s0 1) (fun σ1 v2 => (if v2 = 0 then fX10_vessels_36 hy_fu σ1 x1 0 0 else some (σ1, 0)))
def fX10_vessels_22 (σ : hy_S) (x1 : Int32) : Option (hy_S × Int32) := fX10_vessels_23 σ 0 x1
def fX10_vessels (σ : hy_S) (x1 : Int32) : Option (hy_S × Int32) := hy_pf σ 0 0 (fun σ1 => (if x1 = (-1) then fX10_vessels_22 σ1 x1 else hy_bd (fX10_noStamp σ1 x1) (fun σ4 v5 => (if v5 = 0 then fX10_vessels_22 σ4 x1 else fX10_vessels_23 σ4 1 x1))))
def fX10_vessel_84 (k53 : hy_S → Int32 → Int32 → Int32 → Option (hy_S × Int32)) (σ : hy_S) (s0 : Int32) (s1 : Int32) (x1 : Int32) (x4 : Int32) : Option (hy_S × Int32) := k53 σ x1 (s1 + s0) (x4 + 1)
def fX10_vessel_53 : Nat → hy_S → Int32 → Int32 → Int32 → Option (hy_S × Int32)
  | 0, _, _, _, _ => none
  | n + 1, σ, x1, x3, x4 => (if (σ.2 9) ≤ x4 then some (σ, x3) else hy_ga σ 22 60 x4 (fun v2 => hy_ga σ 22 60 x1 (fun v5 => (if v2 = v5 then fX10_vessel_84 (fX10_vessel_53 n) σ 1 x3 x1 x4 else fX10_vessel_84 (fX10_vessel_53 n) σ 0 x3 x1 x4))))
def fX10_vessel (σ : hy_S) (x1 : Int32) (x2 : Int32) : Option (hy_S × Int32) := hy_pf σ 0 0 (fun σ1 => hy_bd (fX10_noSherd σ1 x1) (fun σ3 v4 => hy_bd (fX10_throwsIf σ3 v4 1) (fun σ6 v7 => (if v7 = 0 then (if x2 = 0 then fX10_vessel_53 hy_fu σ6 x1 0 0 else (if x2 = 1 then hy_ga σ6 22 60 x1 (fun v12 => hy_bd (fX10_stampOf σ6 v12) (fun σ15 v16 => some (σ15, v16))) else (if x2 = 2 then hy_ga σ6 22 60 x1 (fun v19 => some (σ6, v19)) else hy_pf σ6 0 2 (fun σ22 => some (σ22, 0))))) else some (σ6, 0)))))
def fX10_tells_15 (σ : hy_S) (s0 : Int32) (x1 : Int32) (x2 : Int32) (x3 : Int32) : Option (hy_S × Int32) := hy_bd (fX10_throwsIf σ s0 3) (fun σ1 v2 => (if v2 = 0 then hy_pa σ1 23 60 (σ1.2 10) x1 (fun σ5 => hy_pa σ5 24 60 (σ5.2 10) x2 (fun σ8 => hy_pa σ8 25 60 (σ8.2 10) x3 (fun σ11 => hy_pa σ11 26 60 (σ11.2 10) (σ11.2 11) (fun σ14 => hy_pa σ14 27 60 (σ14.2 10) (-1) (fun σ17 => hy_pf σ17 10 ((σ17.2 10) + 1) (fun σ20 => some (σ20, ((σ20.2 10) - 1)))))))) else some (σ1, 0)))
def fX10_tells (σ : hy_S) (x1 : Int32) (x2 : Int32) (x3 : Int32) : Option (hy_S × Int32) := (if (σ.2 10) = 60 then fX10_tells_15 σ 1 x1 x2 x3 else fX10_tells_15 σ 0 x1 x2 x3)
def fX10_tell_56 (σ : hy_S) (s0 : Int32) (x1 : Int32) (x2 : Int32) (x3 : Int32) : Option (hy_S × Int32) := hy_bd (fX10_throwsIf σ s0 2) (fun σ1 v2 => (if v2 = 0 then hy_bd (fX10_tells σ1 x1 x2 x3) (fun σ5 v6 => some (σ5, v6)) else some (σ1, 0)))
def fX10_tell_51 (σ : hy_S) (x1 : Int32) (x2 : Int32) (x3 : Int32) : Option (hy_S × Int32) := fX10_tell_56 σ 1 x1 x2 x3
def fX10_tell_25 (σ : hy_S) (s0 : Int32) (x1 : Int32) (x2 : Int32) (x3 : Int32) : Option (hy_S × Int32) := hy_bd (fX10_throwsIf σ s0 1) (fun σ1 v2 => (if v2 = 0 then (if x1 = x2 then fX10_tell_51 σ1 x1 x2 x3 else hy_bd (fX10_in σ1 x3 (-500) 500) (fun σ6 v7 => (if v7 = 0 then fX10_tell_51 σ6 x1 x2 x3 else fX10_tell_56 σ6 0 x1 x2 x3))) else some (σ1, 0)))
def fX10_tell_20 (σ : hy_S) (x1 : Int32) (x2 : Int32) (x3 : Int32) : Option (hy_S × Int32) := fX10_tell_25 σ 1 x1 x2 x3
def fX10_tell (σ : hy_S) (x1 : Int32) (x2 : Int32) (x3 : Int32) : Option (hy_S × Int32) := hy_pf σ 0 0 (fun σ1 => hy_bd (fX10_noStamp σ1 x1) (fun σ3 v4 => (if v4 = 0 then hy_bd (fX10_noStamp σ3 x2) (fun σ7 v8 => (if v8 = 0 then fX10_tell_25 σ7 0 x1 x2 x3 else fX10_tell_20 σ7 x1 x2 x3)) else fX10_tell_20 σ3 x1 x2 x3)))
def fX10_bound_34 (σ : hy_S) (s0 : Int32) (x1 : Int32) (x2 : Int32) (x3 : Int32) : Option (hy_S × Int32) := hy_bd (fX10_throwsIf σ s0 2) (fun σ1 v2 => (if v2 = 0 then (if x3 = 0 then hy_bd (fX10_tells σ1 12 x1 x2) (fun σ6 v7 => some (σ6, v7)) else hy_bd (fX10_tells σ1 x1 12 (-x2)) (fun σ9 v10 => some (σ9, v10))) else some (σ1, 0)))
def fX10_bound (σ : hy_S) (x1 : Int32) (x2 : Int32) (x3 : Int32) : Option (hy_S × Int32) := hy_pf σ 0 0 (fun σ1 => hy_bd (fX10_noStamp σ1 x1) (fun σ3 v4 => hy_bd (fX10_throwsIf σ3 v4 1) (fun σ6 v7 => (if v7 = 0 then hy_bd (fX10_in σ6 x2 0 1000) (fun σ10 v11 => (if v11 = 0 then fX10_bound_34 σ10 1 x1 x2 x3 else fX10_bound_34 σ10 0 x1 x2 x3)) else some (σ6, 0)))))
def fX10_undo_25 (σ : hy_S) (s0 : Int32) (x1 : Int32) : Option (hy_S × Int32) := hy_bd (fX10_throwsIf σ s0 1) (fun σ1 v2 => (if v2 = 0 then hy_ga σ1 27 60 x1 (fun v5 => (if v5 < 0 then hy_pa σ1 27 60 x1 (σ1.2 11) (fun σ9 => some (σ9, 1)) else some (σ1, 0))) else some (σ1, 0)))
def fX10_undo (σ : hy_S) (x1 : Int32) : Option (hy_S × Int32) := hy_pf σ 0 0 (fun σ1 => hy_bd (fX10_in σ1 x1 0 ((σ1.2 10) - 1)) (fun σ3 v4 => (if v4 = 0 then fX10_undo_25 σ3 1 x1 else fX10_undo_25 σ3 0 x1)))
def fX10_days_22 (σ : hy_S) (s0 : Int32) (x1 : Int32) : Option (hy_S × Int32) := hy_bd (fX10_throwsIf σ s0 1) (fun σ1 v2 => (if v2 = 0 then hy_pf σ1 11 ((σ1.2 11) + x1) (fun σ5 => some (σ5, (σ5.2 11))) else some (σ1, 0)))
def fX10_days (σ : hy_S) (x1 : Int32) : Option (hy_S × Int32) := hy_pf σ 0 0 (fun σ1 => hy_bd (fX10_in σ1 x1 0 1000) (fun σ3 v4 => (if v4 = 0 then fX10_days_22 σ3 1 x1 else fX10_days_22 σ3 0 x1)))
def fX10_steps_103 (k25 : hy_S → Int32 → Int32 → Option (hy_S × Int32)) (σ : hy_S) (x1 : Int32) (x2 : Int32) : Option (hy_S × Int32) := k25 σ x1 (x2 + 1)
def fX10_steps_65 (k25 : hy_S → Int32 → Int32 → Option (hy_S × Int32)) (σ : hy_S) (x1 : Int32) (x2 : Int32) : Option (hy_S × Int32) := hy_ga σ 23 60 x2 (fun v1 => hy_ga σ 24 60 x2 (fun v4 => hy_ga σ 28 169 ((13 * v1) + v4) (fun v7 => hy_ga σ 25 60 x2 (fun v10 => hy_pa σ 28 169 ((13 * v1) + v4) (if v7 < v10 then v10 else v7) (fun σ15 => fX10_steps_103 k25 σ15 x1 x2)))))
def fX10_steps_25 : Nat → hy_S → Int32 → Int32 → Option (hy_S × Int32)
  | 0, _, _, _ => none
  | n + 1, σ, x1, x2 => (if (σ.2 10) ≤ x2 then some (σ, 0) else hy_ga σ 26 60 x2 (fun v2 => (if x1 < v2 then fX10_steps_103 (fX10_steps_25 n) σ x1 x2 else hy_ga σ 27 60 x2 (fun v6 => (if v6 < 0 then fX10_steps_65 (fX10_steps_25 n) σ x1 x2 else hy_ga σ 27 60 x2 (fun v10 => (if x1 < v10 then fX10_steps_65 (fX10_steps_25 n) σ x1 x2 else fX10_steps_103 (fX10_steps_25 n) σ x1 x2)))))))
def fX10_steps_2 : Nat → hy_S → Int32 → Int32 → Option (hy_S × Int32)
  | 0, _, _, _ => none
  | n + 1, σ, x1, x2 => (if 169 ≤ x2 then fX10_steps_25 hy_fu σ x1 0 else hy_pa σ 28 169 x2 (-100000000) (fun σ2 => (fX10_steps_2 n) σ2 x1 (x2 + 1)))
def fX10_steps (σ : hy_S) (x1 : Int32) : Option (hy_S × Int32) := fX10_steps_2 hy_fu σ x1 0
def fX10_round_201 (k34 : hy_S → Int32 → Option (hy_S × Int32)) : Nat → hy_S → Int32 → Int32 → Option (hy_S × Int32)
  | 0, _, _, _ => none
  | n + 1, σ, x2, x3 => (if 13 ≤ x3 then k34 σ (x2 + 1) else hy_ga σ 29 169 ((13 * x3) + x3) (fun v2 => (if v2 ≤ 0 then (fX10_round_201 k34 n) σ x2 (x3 + 1) else some (σ, x2))))
def fX10_round_174 (k34 : hy_S → Int32 → Option (hy_S × Int32)) : Nat → hy_S → Int32 → Int32 → Option (hy_S × Int32)
  | 0, _, _, _ => none
  | n + 1, σ, x2, x3 => (if 169 ≤ x3 then fX10_round_201 k34 hy_fu σ x2 0 else hy_ga σ 30 169 x3 (fun v2 => hy_pa σ 29 169 x3 v2 (fun σ5 => (fX10_round_174 k34 n) σ5 x2 (x3 + 1))))
def fX10_round_140 (k34 : hy_S → Int32 → Option (hy_S × Int32)) (k42 : hy_S → Int32 → Int32 → Option (hy_S × Int32)) (k51 : hy_S → Int32 → Int32 → Int32 → Option (hy_S × Int32)) (k65 : hy_S → Int32 → Int32 → Int32 → Int32 → Int32 → Option (hy_S × Int32)) (σ : hy_S) (x2 : Int32) (x3 : Int32) (x4 : Int32) (x5 : Int32) (x6 : Int32) : Option (hy_S × Int32) := k65 σ x2 x3 x4 x5 (x6 + 1)
def fX10_round_65 (k34 : hy_S → Int32 → Option (hy_S × Int32)) (k42 : hy_S → Int32 → Int32 → Option (hy_S × Int32)) (k51 : hy_S → Int32 → Int32 → Int32 → Option (hy_S × Int32)) : Nat → hy_S → Int32 → Int32 → Int32 → Int32 → Int32 → Option (hy_S × Int32)
  | 0, _, _, _, _, _, _ => none
  | n + 1, σ, x2, x3, x4, x5, x6 => (if 13 ≤ x6 then hy_pa σ 30 169 ((13 * x3) + x4) x5 (fun σ2 => k51 σ2 x2 x3 (x4 + 1)) else hy_ga σ 29 169 ((13 * x3) + x6) (fun v5 => (if v5 ≤ (-100000000) then fX10_round_140 k34 k42 k51 (fX10_round_65 k34 k42 k51 n) σ x2 x3 x4 x5 x6 else hy_ga σ 28 169 ((13 * x6) + x4) (fun v9 => (if v9 ≤ (-100000000) then fX10_round_140 k34 k42 k51 (fX10_round_65 k34 k42 k51 n) σ x2 x3 x4 x5 x6 else hy_ga σ 29 169 ((13 * x3) + x6) (fun v13 => hy_ga σ 28 169 ((13 * x6) + x4) (fun v16 => fX10_round_140 k34 k42 k51 (fX10_round_65 k34 k42 k51 n) σ x2 x3 x4 (if x5 < (v13 + v16) then (v13 + v16) else x5) x6)))))))
def fX10_round_51 (k34 : hy_S → Int32 → Option (hy_S × Int32)) (k42 : hy_S → Int32 → Int32 → Option (hy_S × Int32)) : Nat → hy_S → Int32 → Int32 → Int32 → Option (hy_S × Int32)
  | 0, _, _, _, _ => none
  | n + 1, σ, x2, x3, x4 => (if 13 ≤ x4 then k42 σ x2 (x3 + 1) else fX10_round_65 k34 k42 (fX10_round_51 k34 k42 n) hy_fu σ x2 x3 x4 (-100000000) 0)
def fX10_round_42 (k34 : hy_S → Int32 → Option (hy_S × Int32)) : Nat → hy_S → Int32 → Int32 → Option (hy_S × Int32)
  | 0, _, _, _ => none
  | n + 1, σ, x2, x3 => (if 13 ≤ x3 then fX10_round_174 k34 hy_fu σ x2 0 else fX10_round_51 k34 (fX10_round_42 k34 n) hy_fu σ x2 x3 0)
def fX10_round_34 : Nat → hy_S → Int32 → Option (hy_S × Int32)
  | 0, _, _ => none
  | n + 1, σ, x2 => (if 13 < x2 then some (σ, 0) else fX10_round_42 (fX10_round_34 n) hy_fu σ x2 0)
def fX10_round_7 : Nat → hy_S → Int32 → Option (hy_S × Int32)
  | 0, _, _ => none
  | n + 1, σ, x2 => (if 169 ≤ x2 then fX10_round_34 hy_fu σ 2 else hy_ga σ 28 169 x2 (fun v2 => hy_pa σ 29 169 x2 v2 (fun σ5 => (fX10_round_7 n) σ5 (x2 + 1))))
def fX10_round (σ : hy_S) (x1 : Int32) : Option (hy_S × Int32) := hy_bd (fX10_steps σ x1) (fun σ1 v2 => fX10_round_7 hy_fu σ1 0)
def fX10_agree (σ : hy_S) (x1 : Int32) : Option (hy_S × Int32) := hy_pf σ 0 0 (fun σ1 => hy_bd (fX10_round σ1 x1) (fun σ3 v4 => (if v4 = 0 then some (σ3, 1) else some (σ3, 0))))
def fX10_quarrel (σ : hy_S) (x1 : Int32) : Option (hy_S × Int32) := hy_pf σ 0 0 (fun σ1 => hy_bd (fX10_round σ1 x1) (fun σ3 v4 => some (σ3, v4)))
def fX10_span_210 (σ : hy_S) (s0 : Int32) (x2 : Int32) (x4 : Int32) : Option (hy_S × Int32) := hy_bd (fX10_throwsIf σ s0 2) (fun σ1 v2 => (if v2 = 0 then (if x2 = 0 then some (σ1, x4) else some (σ1, (-x4))) else some (σ1, 0)))
def fX10_span_195 (σ : hy_S) (s0 : Int32) (x2 : Int32) : Option (hy_S × Int32) := (if s0 = (-100000000) then fX10_span_210 σ 1 x2 s0 else fX10_span_210 σ 0 x2 s0)
def fX10_span_148 (k43 : hy_S → Int32 → Int32 → Int32 → Option (hy_S × Int32)) (k53 : hy_S → Int32 → Int32 → Int32 → Int32 → Option (hy_S × Int32)) (k63 : hy_S → Int32 → Int32 → Int32 → Int32 → Int32 → Option (hy_S × Int32)) (σ : hy_S) (x1 : Int32) (x2 : Int32) (x4 : Int32) (x5 : Int32) (x6 : Int32) : Option (hy_S × Int32) := k63 σ x1 x2 x4 x5 (x6 + 1)
def fX10_span_63 (k43 : hy_S → Int32 → Int32 → Int32 → Option (hy_S × Int32)) (k53 : hy_S → Int32 → Int32 → Int32 → Int32 → Option (hy_S × Int32)) : Nat → hy_S → Int32 → Int32 → Int32 → Int32 → Int32 → Option (hy_S × Int32)
  | 0, _, _, _, _, _, _ => none
  | n + 1, σ, x1, x2, x4, x5, x6 => (if 13 ≤ x6 then k53 σ x1 x2 x4 (x5 + 1) else hy_ga σ 28 169 ((13 * x5) + x4) (fun v2 => hy_ga σ 28 169 ((13 * x4) + x6) (fun v5 => (if v2 ≤ (-100000000) then fX10_span_148 k43 k53 (fX10_span_63 k43 k53 n) σ x1 x2 x4 x5 x6 else (if v5 ≤ (-100000000) then fX10_span_148 k43 k53 (fX10_span_63 k43 k53 n) σ x1 x2 x4 x5 x6 else hy_ga σ 28 169 ((13 * x5) + x6) (fun v10 => hy_pa σ 28 169 ((13 * x5) + x6) (if v10 < (v2 + v5) then (v2 + v5) else v10) (fun σ15 => fX10_span_148 k43 k53 (fX10_span_63 k43 k53 n) σ15 x1 x2 x4 x5 x6)))))))
def fX10_span_53 (k43 : hy_S → Int32 → Int32 → Int32 → Option (hy_S × Int32)) : Nat → hy_S → Int32 → Int32 → Int32 → Int32 → Option (hy_S × Int32)
  | 0, _, _, _, _, _ => none
  | n + 1, σ, x1, x2, x4, x5 => (if 13 ≤ x5 then k43 σ x1 x2 (x4 + 1) else fX10_span_63 k43 (fX10_span_53 k43 n) hy_fu σ x1 x2 x4 x5 0)
def fX10_span_43 : Nat → hy_S → Int32 → Int32 → Int32 → Option (hy_S × Int32)
  | 0, _, _, _, _ => none
  | n + 1, σ, x1, x2, x4 => (if 13 ≤ x4 then (if x2 = 0 then hy_ga σ 28 169 (156 + x1) (fun v3 => fX10_span_195 σ v3 x2) else hy_ga σ 28 169 ((13 * x1) + 12) (fun v6 => fX10_span_195 σ v6 x2)) else fX10_span_53 (fX10_span_43 n) hy_fu σ x1 x2 x4 0)
def fX10_span_31 (σ : hy_S) (s0 : Int32) (x1 : Int32) (x2 : Int32) : Option (hy_S × Int32) := hy_bd (fX10_throwsIf σ s0 2) (fun σ1 v2 => (if v2 = 0 then fX10_span_43 hy_fu σ1 x1 x2 0 else some (σ1, 0)))
def fX10_span (σ : hy_S) (x1 : Int32) (x2 : Int32) (x3 : Int32) : Option (hy_S × Int32) := hy_pf σ 0 0 (fun σ1 => hy_bd (fX10_noStamp σ1 x1) (fun σ3 v4 => hy_bd (fX10_throwsIf σ3 v4 1) (fun σ6 v7 => (if v7 = 0 then hy_bd (fX10_round σ6 x3) (fun σ10 v11 => (if v11 ≤ 0 then fX10_span_31 σ10 0 x1 x2 else fX10_span_31 σ10 1 x1 x2)) else some (σ6, 0)))))
def fX10_count_143 (k114 : hy_S → Int32 → Int32 → Option (hy_S × Int32)) (σ : hy_S) (s0 : Int32) (s1 : Int32) (x3 : Int32) : Option (hy_S × Int32) := k114 σ (s1 + s0) (x3 + 1)
def fX10_count_114 : Nat → hy_S → Int32 → Int32 → Option (hy_S × Int32)
  | 0, _, _, _ => none
  | n + 1, σ, x2, x3 => (if (σ.2 2) ≤ x3 then some (σ, x2) else hy_ga σ 7 60 x3 (fun v2 => (if v2 = 3 then fX10_count_143 (fX10_count_114 n) σ 0 x2 x3 else hy_ga σ 6 60 x3 (fun v6 => fX10_count_143 (fX10_count_114 n) σ v6 x2 x3))))
def fX10_count_102 (k76 : hy_S → Int32 → Int32 → Int32 → Option (hy_S × Int32)) (σ : hy_S) (s0 : Int32) (s1 : Int32) (x1 : Int32) (x3 : Int32) : Option (hy_S × Int32) := k76 σ x1 (s1 + s0) (x3 + 1)
def fX10_count_76 : Nat → hy_S → Int32 → Int32 → Int32 → Option (hy_S × Int32)
  | 0, _, _, _, _ => none
  | n + 1, σ, x1, x2, x3 => (if (σ.2 2) ≤ x3 then some (σ, x2) else hy_ga σ 7 60 x3 (fun v2 => (if v2 = (x1 - 2) then fX10_count_102 (fX10_count_76 n) σ 1 x2 x1 x3 else fX10_count_102 (fX10_count_76 n) σ 0 x2 x1 x3)))
def fX10_count (σ : hy_S) (x1 : Int32) : Option (hy_S × Int32) := hy_pf σ 0 0 (fun σ1 => (if x1 = 0 then some (σ1, (σ1.2 1)) else (if x1 = 1 then some (σ1, (σ1.2 2)) else (if x1 = 2 then fX10_count_76 hy_fu σ1 x1 0 0 else (if x1 = 3 then fX10_count_76 hy_fu σ1 x1 0 0 else (if x1 = 4 then fX10_count_76 hy_fu σ1 x1 0 0 else (if x1 = 5 then fX10_count_76 hy_fu σ1 x1 0 0 else (if x1 = 6 then fX10_count_114 hy_fu σ1 0 0 else (if x1 = 7 then some (σ1, (σ1.2 9)) else (if x1 = 8 then some (σ1, (σ1.2 10)) else (if x1 = 9 then some (σ1, (σ1.2 11)) else some (σ1, (-1)))))))))))))
def fX9_needIndex_9 (σ : hy_S) : Option (hy_S × Int32 × Nat) := some (σ, 0, 1)
def fX9_needIndex (σ : hy_S) (x0 : Int32) (x1 : Int32) : Option (hy_S × Int32 × Nat) := (if x0 < 0 then fX9_needIndex_9 σ else (if x0 < x1 then some (σ, 0, 0) else fX9_needIndex_9 σ))
def fX9_needNumber_10 (σ : hy_S) : Option (hy_S × Int32 × Nat) := some (σ, 0, 2)
def fX9_needNumber (σ : hy_S) (x0 : Int32) (x1 : Int32) (x2 : Int32) : Option (hy_S × Int32 × Nat) := (if x0 < x1 then fX9_needNumber_10 σ else (if x0 ≤ x2 then some (σ, 0, 0) else fX9_needNumber_10 σ))
def fX9_needPlace (σ : hy_S) (x0 : Int32) (x1 : Int32) : Option (hy_S × Int32 × Nat) := (if x0 < x1 then some (σ, 0, 0) else some (σ, 0, 3))
def fX9_needStampOrNone (σ : hy_S) (x0 : Int32) : Option (hy_S × Int32 × Nat) := (if x0 = (-1) then some (σ, 0, 0) else hy_bt (fX9_needIndex σ x0 12) some (fun σ2 v3 => some (σ2, 0, 0)))
def fX9_needHold (σ : hy_S) (x1 : Int32) (x2 : Int32) : Option (hy_S × Int32 × Nat) := hy_bt (fX9_needIndex σ x1 (σ.2 5)) some (fun σ1 v2 => hy_bt (fX9_needIndex σ1 x2 6) some (fun σ5 v6 => some (σ5, 0, 0)))
def fX9_feed (σ : hy_S) (x1 : Int32) (x2 : Int32) (x3 : Int32) (x4 : Int32) (x5 : Int32) : Option (hy_S × Int32) := hy_bd (fX7_append σ x1 x2 x3 x4 x5) (fun σ1 v2 => some (σ1, v2))
def fX9_end (σ : hy_S) (x1 : Int32) : Option (hy_S × Int32) := hy_bd (fX7_keepFirst σ x1) (fun σ1 v2 => hy_ck (v2 = 0 ∨ v2 = 1) (some (σ1, v2)))
def fX9_fault (σ : hy_S) : Option (hy_S × Int32) := some (σ, (σ.2 0))
def fX9_agree (σ : hy_S) (x1 : Int32) : Option (hy_S × Int32) := hy_bd (fX8_recall σ x1) (fun σ1 v2 => hy_bd (fX8_canAllHold σ1) (fun σ4 v5 => hy_ck (v5 = 0 ∨ v5 = 1) (some (σ4, v5))))
def fX9_quarrel (σ : hy_S) (x1 : Int32) : Option (hy_S × Int32) := hy_bd (fX8_recall σ x1) (fun σ1 v2 => hy_bd (fX8_canAllHold σ1) (fun σ4 v5 => (if v5 = 0 then hy_bd (fX8_fewestThatQuarrel σ4) (fun σ8 v9 => some (σ8, v9)) else some (σ4, 0))))
def fX9_count (σ : hy_S) (x1 : Int32) : Option (hy_S × Int32) := (if x1 = 0 then some (σ, (σ.2 3)) else (if x1 = 1 then some (σ, (σ.2 4)) else (if x1 = 2 then hy_bd (fX1_countIn σ 0) (fun σ4 v5 => some (σ4, v5)) else (if x1 = 3 then hy_bd (fX1_countIn σ 1) (fun σ8 v9 => some (σ8, v9)) else (if x1 = 4 then hy_bd (fX1_countIn σ 2) (fun σ12 v13 => some (σ12, v13)) else (if x1 = 5 then hy_bd (fX1_countIn σ 3) (fun σ16 v17 => some (σ16, v17)) else (if x1 = 6 then hy_bd (fX1_oilUnbroken σ) (fun σ20 v21 => some (σ20, v21)) else (if x1 = 7 then some (σ, (σ.2 7)) else (if x1 = 8 then some (σ, (σ.2 8)) else (if x1 = 9 then some (σ, (σ.2 1)) else some (σ, (-1))))))))))))
def fX9_falsehoodAt (σ : hy_S) (x1 : Int32) : Option (hy_S × Int32) := hy_ga σ 1 5 0 (fun v1 => (if (σ.2 4) ≤ v1 then some (σ, 1) else hy_ga σ 9 60 v1 (fun v5 => (if v5 = 1 then hy_ga σ 1 5 1 (fun v9 => hy_ga σ 8 60 v1 (fun v12 => (if v9 = v12 then hy_ga σ 1 5 2 (fun v16 => hy_ga σ 6 60 v1 (fun v19 => (if v16 = v19 then hy_ga σ 1 5 3 (fun v23 => hy_ga σ 7 60 v1 (fun v26 => (if v23 = v26 then hy_ga σ 1 5 4 (fun v30 => hy_ga σ 8 60 v1 (fun v33 => hy_bd (fX4_due σ x1 v33) (fun σ36 v37 => (if v30 = v37 then some (σ36, 0) else some (σ36, 5))))) else some (σ, 4)))) else some (σ, 3)))) else some (σ, 2)))) else some (σ, 1)))))
def fX9_kind (σ : hy_S) (x1 : Int32) (x2 : Int32) (x3 : Int32) : Option (hy_S × Int32 × Nat) := hy_bt (fX9_needNumber σ x1 1 100) some (fun σ1 v2 => hy_bt (fX9_needNumber σ1 x2 1 200) some (fun σ5 v6 => hy_bt (fX9_needNumber σ5 x3 0 5000) some (fun σ9 v10 => hy_bt (fX9_needPlace σ9 (σ9.2 3) 8) some (fun σ13 v14 => hy_bd (fX2_add σ13 x1 x2 x3) (fun σ17 v18 => some (σ17, v18, 0))))))
def fX9_fire (σ : hy_S) (x1 : Int32) (x2 : Int32) (x3 : Int32) : Option (hy_S × Int32 × Nat) := hy_bt (fX9_needIndex σ x1 (σ.2 3)) some (fun σ1 v2 => hy_bt (fX9_needNumber σ1 x2 0 15) some (fun σ5 v6 => hy_bt (fX9_needNumber σ5 x3 1 300) some (fun σ9 v10 => hy_bt (fX9_needPlace σ9 (σ9.2 4) 60) some (fun σ13 v14 => hy_bd (fX1_add σ13 x1 x2 x3) (fun σ17 v18 => some (σ17, v18, 0))))))
def fX9_fill (σ : hy_S) (x1 : Int32) (x2 : Int32) : Option (hy_S × Int32 × Nat) := hy_bt (fX9_needIndex σ x1 (σ.2 4)) some (fun σ1 v2 => hy_bt (fX9_needNumber σ1 x2 1 200) some (fun σ5 v6 => hy_bd (fX1_pour σ5 x1 x2) (fun σ9 v10 => some (σ9, v10, 0))))
def fX9_ship (σ : hy_S) : Option (hy_S × Int32 × Nat) := hy_bt (fX9_needPlace σ (σ.2 5) 4) some (fun σ1 v2 => hy_bd (fX0_add σ1) (fun σ5 v6 => some (σ5, v6, 0)))
def fX9_load (σ : hy_S) (x1 : Int32) (x2 : Int32) (x3 : Int32) : Option (hy_S × Int32 × Nat) := hy_bt (fX9_needIndex σ x1 (σ.2 4)) some (fun σ1 v2 => hy_bt (fX9_needHold σ1 x2 x3) some (fun σ5 v6 => hy_bd (fX0_pileOf σ5 x2 x3) (fun σ9 v10 => hy_bd (fX0_put σ9 x1 v10) (fun σ12 v13 => hy_ck (v13 = 0 ∨ v13 = 1) (some (σ12, v13, 0))))))
def fX9_land (σ : hy_S) (x1 : Int32) (x2 : Int32) : Option (hy_S × Int32 × Nat) := hy_bt (fX9_needHold σ x1 x2) some (fun σ1 v2 => hy_bd (fX0_pileOf σ1 x1 x2) (fun σ5 v6 => hy_bd (fX0_takeTop σ5 v6) (fun σ8 v9 => some (σ8, v9, 0))))
def fX9_storm (σ : hy_S) (x1 : Int32) (x2 : Int32) : Option (hy_S × Int32 × Nat) := hy_bt (fX9_needIndex σ x1 (σ.2 5)) some (fun σ1 v2 => hy_bt (fX9_needNumber σ1 x2 0 100) some (fun σ5 v6 => hy_bd (fX0_shake σ5 x1 x2) (fun σ9 v10 => some (σ9, v10, 0))))
def fX9_look (σ : hy_S) (x1 : Int32) (x2 : Int32) : Option (hy_S × Int32 × Nat) := hy_bt (fX9_needIndex σ x1 (σ.2 4)) some (fun σ1 v2 => (if x2 = 0 then hy_ga σ1 9 60 x1 (fun v6 => some (σ1, v6, 0)) else (if x2 = 1 then hy_ga σ1 5 60 x1 (fun v10 => some (σ1, v10, 0)) else (if x2 = 2 then hy_ga σ1 6 60 x1 (fun v14 => some (σ1, v14, 0)) else (if x2 = 3 then hy_ga σ1 7 60 x1 (fun v18 => some (σ1, v18, 0)) else (if x2 = 4 then hy_ga σ1 8 60 x1 (fun v22 => some (σ1, v22, 0)) else (if x2 = 5 then hy_bd (fX1_weight σ1 x1) (fun σ26 v27 => some (σ26, v27, 0)) else (if x2 = 6 then hy_ga σ1 10 60 x1 (fun v30 => hy_bd (fX0_shipOf σ1 v30) (fun σ33 v34 => some (σ33, v34, 0))) else (if x2 = 7 then hy_ga σ1 10 60 x1 (fun v37 => hy_bd (fX0_holdOf σ1 v37) (fun σ40 v41 => some (σ40, v41, 0))) else (if x2 = 8 then hy_bd (fX0_weightAbove σ1 x1) (fun σ44 v45 => some (σ44, v45, 0)) else some (σ1, 0, 4)))))))))))
def fX9_stack (σ : hy_S) (x1 : Int32) (x2 : Int32) (x3 : Int32) : Option (hy_S × Int32 × Nat) := hy_bt (fX9_needHold σ x1 x2) some (fun σ1 v2 => hy_bd (fX0_pileOf σ1 x1 x2) (fun σ5 v6 => hy_bd (fX0_jarAt σ5 v6 x3) (fun σ8 v9 => some (σ8, v9, 0))))
def fX9_tallest (σ : hy_S) (x1 : Int32) : Option (hy_S × Int32 × Nat) := hy_bd (fX6_choose σ x1) (fun σ1 v2 => hy_bt (fX9_needNumber σ1 v2 0 12) some (fun σ4 v5 => hy_bd (fX6_greatest σ4) (fun σ8 v9 => some (σ8, v9, 0))))
def fX9_rate (σ : hy_S) (x1 : Int32) (x2 : Int32) : Option (hy_S × Int32 × Nat) := hy_bt (fX9_needIndex σ x1 8) some (fun σ1 v2 => hy_bt (fX9_needNumber σ1 x2 0 1000) some (fun σ5 v6 => hy_pa σ5 15 8 x1 x2 (fun σ9 => some (σ9, 0, 0))))
def fX9_notes (σ : hy_S) (x1 : Int32) (x2 : Int32) : Option (hy_S × Int32 × Nat) := hy_bt (fX9_needIndex σ x1 8) some (fun σ1 v2 => (if x2 = 0 then hy_ga σ1 16 8 x1 (fun v6 => some (σ1, v6, 0)) else hy_ga σ1 17 8 x1 (fun v9 => some (σ1, v9, 0))))
def fX9_sherd (σ : hy_S) (x1 : Int32) (x2 : Int32) : Option (hy_S × Int32 × Nat) := hy_bt (fX9_needNumber σ x1 0 15) some (fun σ1 v2 => hy_bt (fX9_needStampOrNone σ1 x2) some (fun σ5 v6 => hy_bt (fX9_needPlace σ5 (σ5.2 7) 60) some (fun σ9 v10 => hy_bd (fX5_add σ9 x1 x2) (fun σ13 v14 => some (σ13, v14, 0)))))
def fX9_join (σ : hy_S) (x1 : Int32) (x2 : Int32) : Option (hy_S × Int32 × Nat) := hy_bt (fX9_needIndex σ x1 (σ.2 7)) some (fun σ1 v2 => hy_bt (fX9_needIndex σ1 x2 (σ1.2 7)) some (fun σ5 v6 => hy_bd (fX5_unite σ5 x1 x2) (fun σ9 v10 => hy_ck (v10 = 0 ∨ v10 = 1) (some (σ9, v10, 0)))))
def fX9_vessels (σ : hy_S) (x1 : Int32) : Option (hy_S × Int32 × Nat) := hy_bt (fX9_needStampOrNone σ x1) some (fun σ1 v2 => (if x1 = (-1) then hy_bd (fX5_allVessels σ1) (fun σ9 v10 => some (σ9, v10, 0)) else hy_bd (fX5_vesselsWith σ1 x1) (fun σ6 v7 => some (σ6, v7, 0))))
def fX9_vessel (σ : hy_S) (x1 : Int32) (x2 : Int32) : Option (hy_S × Int32 × Nat) := hy_bt (fX9_needIndex σ x1 (σ.2 7)) some (fun σ1 v2 => hy_ga σ1 18 60 x1 (fun v5 => (if x2 = 0 then hy_ga σ1 19 60 v5 (fun v9 => some (σ1, v9, 0)) else (if x2 = 1 then hy_ga σ1 21 60 v5 (fun v13 => some (σ1, v13, 0)) else (if x2 = 2 then some (σ1, v5, 0) else some (σ1, 0, 4))))))
def fX9_tell (σ : hy_S) (x1 : Int32) (x2 : Int32) (x3 : Int32) : Option (hy_S × Int32 × Nat) := hy_bt (fX9_needIndex σ x1 12) some (fun σ1 v2 => hy_bt (fX9_needIndex σ1 x2 12) some (fun σ5 v6 => (if x1 = x2 then some (σ5, 0, 2) else hy_bt (fX9_needNumber σ5 x3 (-500) 500) some (fun σ10 v11 => hy_bt (fX9_needPlace σ10 (σ10.2 8) 60) some (fun σ14 v15 => hy_bd (fX8_add σ14 x1 x2 x3 (σ14.2 1)) (fun σ18 v19 => some (σ18, v19, 0)))))))
def fX9_bound (σ : hy_S) (x1 : Int32) (x2 : Int32) (x3 : Int32) : Option (hy_S × Int32 × Nat) := hy_bt (fX9_needIndex σ x1 12) some (fun σ1 v2 => hy_bt (fX9_needNumber σ1 x2 0 1000) some (fun σ5 v6 => hy_bt (fX9_needPlace σ5 (σ5.2 8) 60) some (fun σ9 v10 => (if x3 = 0 then hy_bd (fX8_add σ9 12 x1 x2 (σ9.2 1)) (fun σ14 v15 => some (σ14, v15, 0)) else hy_bd (fX8_add σ9 x1 12 (-x2) (σ9.2 1)) (fun σ17 v18 => some (σ17, v18, 0))))))
def fX9_undo (σ : hy_S) (x1 : Int32) : Option (hy_S × Int32 × Nat) := hy_bt (fX9_needIndex σ x1 (σ.2 8)) some (fun σ1 v2 => hy_bd (fX8_takeBack σ1 x1 (σ1.2 1)) (fun σ5 v6 => hy_ck (v6 = 0 ∨ v6 = 1) (some (σ5, v6, 0))))
def fX9_days (σ : hy_S) (x1 : Int32) : Option (hy_S × Int32 × Nat) := hy_bt (fX9_needNumber σ x1 0 1000) some (fun σ1 v2 => hy_pf σ1 1 ((σ1.2 1) + x1) (fun σ5 => some (σ5, (σ5.2 1), 0)))
def fX9_span_61 (σ : hy_S) (s0 : Int32) (x2 : Int32) : Option (hy_S × Int32 × Nat) := (if s0 = (-1000000000) then some (σ, 0, 4) else (if x2 = 0 then some (σ, s0, 0) else some (σ, (-s0), 0)))
def fX9_span (σ : hy_S) (x1 : Int32) (x2 : Int32) (x3 : Int32) : Option (hy_S × Int32 × Nat) := hy_bt (fX9_needIndex σ x1 12) some (fun σ1 v2 => hy_bd (fX8_recall σ1 x3) (fun σ5 v6 => hy_bd (fX8_canAllHold σ5) (fun σ8 v9 => (if v9 = 0 then some (σ8, 0, 4) else (if x2 = 0 then hy_bd (fX8_yearsBetween σ8 12 x1) (fun σ13 v14 => fX9_span_61 σ13 v14 x2) else hy_bd (fX8_yearsBetween σ8 x1 12) (fun σ16 v17 => fX9_span_61 σ16 v17 x2))))))
def fJ6_bitCount_0f7a4 (σ : hy_S) (x0 : Int32) : Option (hy_S × Int32) := some (σ, ((((((((x0 - (((Int32.toUInt32 x0 >>> (Int32.toUInt32 1 &&& Int32.toUInt32 31)).toInt32) &&& 1431655765)) &&& 858993459) + (((Int32.toUInt32 (x0 - (((Int32.toUInt32 x0 >>> (Int32.toUInt32 1 &&& Int32.toUInt32 31)).toInt32) &&& 1431655765)) >>> (Int32.toUInt32 2 &&& Int32.toUInt32 31)).toInt32) &&& 858993459)) + ((Int32.toUInt32 (((x0 - (((Int32.toUInt32 x0 >>> (Int32.toUInt32 1 &&& Int32.toUInt32 31)).toInt32) &&& 1431655765)) &&& 858993459) + (((Int32.toUInt32 (x0 - (((Int32.toUInt32 x0 >>> (Int32.toUInt32 1 &&& Int32.toUInt32 31)).toInt32) &&& 1431655765)) >>> (Int32.toUInt32 2 &&& Int32.toUInt32 31)).toInt32) &&& 858993459)) >>> (Int32.toUInt32 4 &&& Int32.toUInt32 31)).toInt32)) &&& 252645135) + ((Int32.toUInt32 (((((x0 - (((Int32.toUInt32 x0 >>> (Int32.toUInt32 1 &&& Int32.toUInt32 31)).toInt32) &&& 1431655765)) &&& 858993459) + (((Int32.toUInt32 (x0 - (((Int32.toUInt32 x0 >>> (Int32.toUInt32 1 &&& Int32.toUInt32 31)).toInt32) &&& 1431655765)) >>> (Int32.toUInt32 2 &&& Int32.toUInt32 31)).toInt32) &&& 858993459)) + ((Int32.toUInt32 (((x0 - (((Int32.toUInt32 x0 >>> (Int32.toUInt32 1 &&& Int32.toUInt32 31)).toInt32) &&& 1431655765)) &&& 858993459) + (((Int32.toUInt32 (x0 - (((Int32.toUInt32 x0 >>> (Int32.toUInt32 1 &&& Int32.toUInt32 31)).toInt32) &&& 1431655765)) >>> (Int32.toUInt32 2 &&& Int32.toUInt32 31)).toInt32) &&& 858993459)) >>> (Int32.toUInt32 4 &&& Int32.toUInt32 31)).toInt32)) &&& 252645135) >>> (Int32.toUInt32 8 &&& Int32.toUInt32 31)).toInt32)) + ((Int32.toUInt32 ((((((x0 - (((Int32.toUInt32 x0 >>> (Int32.toUInt32 1 &&& Int32.toUInt32 31)).toInt32) &&& 1431655765)) &&& 858993459) + (((Int32.toUInt32 (x0 - (((Int32.toUInt32 x0 >>> (Int32.toUInt32 1 &&& Int32.toUInt32 31)).toInt32) &&& 1431655765)) >>> (Int32.toUInt32 2 &&& Int32.toUInt32 31)).toInt32) &&& 858993459)) + ((Int32.toUInt32 (((x0 - (((Int32.toUInt32 x0 >>> (Int32.toUInt32 1 &&& Int32.toUInt32 31)).toInt32) &&& 1431655765)) &&& 858993459) + (((Int32.toUInt32 (x0 - (((Int32.toUInt32 x0 >>> (Int32.toUInt32 1 &&& Int32.toUInt32 31)).toInt32) &&& 1431655765)) >>> (Int32.toUInt32 2 &&& Int32.toUInt32 31)).toInt32) &&& 858993459)) >>> (Int32.toUInt32 4 &&& Int32.toUInt32 31)).toInt32)) &&& 252645135) + ((Int32.toUInt32 (((((x0 - (((Int32.toUInt32 x0 >>> (Int32.toUInt32 1 &&& Int32.toUInt32 31)).toInt32) &&& 1431655765)) &&& 858993459) + (((Int32.toUInt32 (x0 - (((Int32.toUInt32 x0 >>> (Int32.toUInt32 1 &&& Int32.toUInt32 31)).toInt32) &&& 1431655765)) >>> (Int32.toUInt32 2 &&& Int32.toUInt32 31)).toInt32) &&& 858993459)) + ((Int32.toUInt32 (((x0 - (((Int32.toUInt32 x0 >>> (Int32.toUInt32 1 &&& Int32.toUInt32 31)).toInt32) &&& 1431655765)) &&& 858993459) + (((Int32.toUInt32 (x0 - (((Int32.toUInt32 x0 >>> (Int32.toUInt32 1 &&& Int32.toUInt32 31)).toInt32) &&& 1431655765)) >>> (Int32.toUInt32 2 &&& Int32.toUInt32 31)).toInt32) &&& 858993459)) >>> (Int32.toUInt32 4 &&& Int32.toUInt32 31)).toInt32)) &&& 252645135) >>> (Int32.toUInt32 8 &&& Int32.toUInt32 31)).toInt32)) >>> (Int32.toUInt32 16 &&& Int32.toUInt32 31)).toInt32)) &&& 63))
def fX10_tallest_262 (k92 : hy_S → Int32 → Int32 → Int32 → Option (hy_S × Int32)) (σ : hy_S) (x2 : Int32) (x3 : Int32) (x4 : Int32) : Option (hy_S × Int32) := k92 σ x2 x3 (x4 + 1)
def fX10_tallest_236 (k92 : hy_S → Int32 → Int32 → Int32 → Option (hy_S × Int32)) (k160 : hy_S → Int32 → Int32 → Int32 → Int32 → Int32 → Option (hy_S × Int32)) (σ : hy_S) (x2 : Int32) (x3 : Int32) (x4 : Int32) (x5 : Int32) (x6 : Int32) : Option (hy_S × Int32) := k160 σ x2 x3 x4 x5 (x6 + 1)
def fX10_tallest_160 (k92 : hy_S → Int32 → Int32 → Int32 → Option (hy_S × Int32)) : Nat → hy_S → Int32 → Int32 → Int32 → Int32 → Int32 → Option (hy_S × Int32)
  | 0, _, _, _, _, _, _ => none
  | n + 1, σ, x2, x3, x4, x5, x6 => (if x2 ≤ x6 then hy_ga σ 12 4096 x4 (fun v2 => (if v2 = 0 then fX10_tallest_262 k92 σ x2 x3 x4 else hy_bd (fJ6_bitCount_0f7a4 σ x4) (fun σ6 v7 => fX10_tallest_262 k92 σ6 x2 (if x3 < v7 then v7 else x3) x4))) else (if ((x4 >>> (x6 &&& 31)) &&& 1) = 1 then hy_ga σ 12 4096 (x4 &&& ((1 <<< (x6 &&& 31)) ^^^ (-1))) (fun v12 => (if v12 = 0 then fX10_tallest_236 k92 (fX10_tallest_160 k92 n) σ x2 x3 x4 x5 x6 else hy_ga σ 13 12 x6 (fun v16 => hy_bd (fX10_weight σ v16) (fun σ19 v20 => hy_ga σ19 13 12 x6 (fun v22 => hy_ga σ19 3 60 v22 (fun v25 => hy_ga σ19 2 8 v25 (fun v28 => (if v28 < (x5 - v20) then fX10_tallest_236 k92 (fX10_tallest_160 k92 n) σ19 x2 x3 x4 x5 x6 else hy_pa σ19 12 4096 x4 (vp_nar .boolean 1) (fun σ32 => fX10_tallest_236 k92 (fX10_tallest_160 k92 n) σ32 x2 x3 x4 x5 x6))))))))) else fX10_tallest_236 k92 (fX10_tallest_160 k92 n) σ x2 x3 x4 x5 x6))
def fX10_tallest_140 (k92 : hy_S → Int32 → Int32 → Int32 → Option (hy_S × Int32)) (k106 : hy_S → Int32 → Int32 → Int32 → Int32 → Int32 → Option (hy_S × Int32)) (σ : hy_S) (s0 : Int32) (s1 : Int32) (x2 : Int32) (x3 : Int32) (x4 : Int32) (x6 : Int32) : Option (hy_S × Int32) := k106 σ x2 x3 x4 (s1 + s0) (x6 + 1)
def fX10_tallest_106 (k92 : hy_S → Int32 → Int32 → Int32 → Option (hy_S × Int32)) : Nat → hy_S → Int32 → Int32 → Int32 → Int32 → Int32 → Option (hy_S × Int32)
  | 0, _, _, _, _, _, _ => none
  | n + 1, σ, x2, x3, x4, x5, x6 => (if x2 ≤ x6 then hy_pa σ 12 4096 x4 (vp_nar .boolean 0) (fun σ2 => fX10_tallest_160 k92 hy_fu σ2 x2 x3 x4 x5 0) else (if ((x4 >>> (x6 &&& 31)) &&& 1) = 1 then hy_ga σ 13 12 x6 (fun v6 => hy_bd (fX10_weight σ v6) (fun σ9 v10 => fX10_tallest_140 k92 (fX10_tallest_106 k92 n) σ9 v10 x5 x2 x3 x4 x6)) else fX10_tallest_140 k92 (fX10_tallest_106 k92 n) σ 0 x5 x2 x3 x4 x6))
def fX10_tallest_92 : Nat → hy_S → Int32 → Int32 → Int32 → Option (hy_S × Int32)
  | 0, _, _, _, _ => none
  | n + 1, σ, x2, x3, x4 => (if (1 <<< (x2 &&& 31)) ≤ x4 then some (σ, x3) else fX10_tallest_106 (fX10_tallest_92 n) hy_fu σ x2 x3 x4 0 0)
def fX10_tallest_80 (σ : hy_S) (x2 : Int32) : Option (hy_S × Int32) := hy_pa σ 12 4096 0 (vp_nar .boolean 1) (fun σ1 => fX10_tallest_92 hy_fu σ1 x2 0 1)
def fX10_tallest_74 (k9 : hy_S → Int32 → Int32 → Int32 → Option (hy_S × Int32)) (σ : hy_S) (x1 : Int32) (x2 : Int32) (x3 : Int32) : Option (hy_S × Int32) := k9 σ x1 x2 (x3 + 1)
def fX10_tallest_55 (k9 : hy_S → Int32 → Int32 → Int32 → Option (hy_S × Int32)) (σ : hy_S) (s0 : Int32) (x1 : Int32) (x2 : Int32) (x3 : Int32) : Option (hy_S × Int32) := hy_bd (fX10_throwsIf σ s0 1) (fun σ1 v2 => (if v2 = 0 then hy_pa σ1 13 12 x2 x3 (fun σ5 => fX10_tallest_74 k9 σ5 x1 (x2 + 1) x3) else some (σ1, 0)))
def fX10_tallest_9 : Nat → hy_S → Int32 → Int32 → Int32 → Option (hy_S × Int32)
  | 0, _, _, _, _ => none
  | n + 1, σ, x1, x2, x3 => (if 20 ≤ x3 then fX10_tallest_80 σ x2 else (if (σ.2 2) ≤ x3 then fX10_tallest_80 σ x2 else (if ((x1 >>> (x3 &&& 31)) &&& 1) = 0 then fX10_tallest_74 (fX10_tallest_9 n) σ x1 x2 x3 else hy_ga σ 7 60 x3 (fun v4 => (if v4 = 0 then (if x2 = 12 then fX10_tallest_55 (fX10_tallest_9 n) σ 1 x1 x2 x3 else fX10_tallest_55 (fX10_tallest_9 n) σ 0 x1 x2 x3) else fX10_tallest_74 (fX10_tallest_9 n) σ x1 x2 x3)))))
def fX10_tallest (σ : hy_S) (x1 : Int32) : Option (hy_S × Int32) := hy_pf σ 0 0 (fun σ1 => fX10_tallest_9 hy_fu σ1 x1 0 0)
def fX3_wordOf (σ : hy_S) (x0 : Int32) : Option (hy_S × Int32) := (if x0 = 0 then some (σ, 0) else (if x0 = 1 then some (σ, 1) else (if x0 = 2 then some (σ, 2) else (if x0 = 3 then some (σ, 3) else some (σ, 4)))))
def fX7_reads_15 : Nat → hy_S → Int32 → Int32 → Int32 → Int32 → Option (hy_S × Int32)
  | 0, _, _, _, _, _ => none
  | n + 1, σ, x1, x2, x3, x4 => (if x2 ≤ x4 then some (σ, 1) else hy_ga σ 0 400 x4 (fun v2 => hy_ck ((Int32.toNatClampNeg x3) < 5 ∧ ¬ ((x4 - x1) < 0 ∨ hy_sl.getD (Int32.toNatClampNeg x3) 0 ≤ Int32.toNatClampNeg (x4 - x1))) ((if v2 = (hy_chr (Int32.toNatClampNeg x3) (x4 - x1)) then (fX7_reads_15 n) σ x1 x2 x3 (x4 + 1) else some (σ, 0)))))
def fX7_reads (σ : hy_S) (x1 : Int32) (x2 : Int32) (x3 : Int32) : Option (hy_S × Int32) := hy_ck ((Int32.toNatClampNeg x3) < 5) ((if (x2 - x1) = (hy_len (Int32.toNatClampNeg x3)) then fX7_reads_15 hy_fu σ x1 x2 x3 x1 else some (σ, 0)))
def fX3_readFrom_82 (k4 : hy_S → Int32 → Int32 → Option (hy_S × Int32)) (σ : hy_S) (x2 : Int32) : Option (hy_S × Int32) := some (σ, x2)
def fX3_readFrom_4 : Nat → hy_S → Int32 → Int32 → Option (hy_S × Int32)
  | 0, _, _, _ => none
  | n + 1, σ, x2, x3 => (if 5 ≤ x3 then hy_bd (fX7_past σ x2 32 32) (fun σ2 v3 => hy_bd (fX7_endsAt σ2 v3) (fun σ5 v6 => (if v6 = 0 then some (σ5, v3) else some (σ5, (-1))))) else hy_bd (fX7_past σ x2 32 32) (fun σ9 v10 => hy_bd (fX7_past σ9 v10 97 122) (fun σ12 v13 => hy_bd (fX3_wordOf σ12 x3) (fun σ15 v16 => hy_bd (fX7_reads σ15 v10 v13 v16) (fun σ18 v19 => (if v19 = 0 then some (σ18, v10) else hy_bd (fX7_past σ18 v13 32 32) (fun σ22 v23 => hy_bd (fX7_past σ22 v23 48 57) (fun σ25 v26 => (if v26 = v23 then fX3_readFrom_82 (fX3_readFrom_4 n) σ25 v23 else (if (v26 - v23) ≤ 5 then hy_bd (fX7_digitsFrom σ25 v23 v26) (fun σ30 v31 => hy_pa σ30 1 5 x3 v31 (fun σ33 => (fX3_readFrom_4 n) σ33 v26 (x3 + 1))) else fX3_readFrom_82 (fX3_readFrom_4 n) σ25 v23))))))))))
def fX3_readFrom (σ : hy_S) : Option (hy_S × Int32) := fX3_readFrom_4 hy_fu σ 0 0
def fX9_check_65 (σ : hy_S) (s0 : Int32) (s1 : Int32) (x3 : Int32) : Option (hy_S × Int32 × Nat) := hy_bd (fX4_countNote σ s1 s0) (fun σ1 v2 => some (σ1, x3, 0))
def fX9_check (σ : hy_S) (x1 : Int32) : Option (hy_S × Int32 × Nat) := hy_bd (fX3_readFrom σ) (fun σ1 v2 => hy_bd (fX7_clear σ1) (fun σ4 v5 => hy_bt (fX9_needIndex σ4 x1 8) some (fun σ7 v8 => hy_pf σ7 0 v2 (fun σ11 => (if v2 = (-1) then hy_bd (fX9_falsehoodAt σ11 x1) (fun σ14 v15 => (if v15 = 0 then fX9_check_65 σ14 0 x1 v15 else fX9_check_65 σ14 1 x1 v15)) else some (σ11, 0, 2))))))
def fX10_word (σ : hy_S) (x0 : Int32) : Option (hy_S × Int32) := (if x0 = 0 then some (σ, 0) else (if x0 = 1 then some (σ, 1) else (if x0 = 2 then some (σ, 2) else (if x0 = 3 then some (σ, 3) else some (σ, 4)))))
def fX10_isWord_67 (σ : hy_S) (x2 : Int32) : Option (hy_S × Int32) := hy_ck (x2 = 0 ∨ x2 = 1) (some (σ, x2))
def fX10_isWord_60 (k24 : hy_S → Int32 → Int32 → Int32 → Option (hy_S × Int32)) (σ : hy_S) (s0 : Int32) (x1 : Int32) (x3 : Int32) : Option (hy_S × Int32) := k24 σ x1 s0 (x3 + 1)
def fX10_isWord_24 : Nat → hy_S → Int32 → Int32 → Int32 → Option (hy_S × Int32)
  | 0, _, _, _, _ => none
  | n + 1, σ, x1, x2, x3 => (if x2 = 0 then fX10_isWord_67 σ x2 else hy_ck ((Int32.toNatClampNeg x1) < 5) ((if (hy_len (Int32.toNatClampNeg x1)) ≤ x3 then fX10_isWord_67 σ x2 else hy_ga σ 17 400 ((σ.2 7) + x3) (fun v4 => hy_ck ((Int32.toNatClampNeg x1) < 5 ∧ ¬ (x3 < 0 ∨ hy_sl.getD (Int32.toNatClampNeg x1) 0 ≤ Int32.toNatClampNeg x3)) ((if v4 = (hy_chr (Int32.toNatClampNeg x1) x3) then fX10_isWord_60 (fX10_isWord_24 n) σ 1 x1 x3 else fX10_isWord_60 (fX10_isWord_24 n) σ 0 x1 x3))))))
def fX10_isWord_21 (σ : hy_S) (s0 : Int32) (x1 : Int32) : Option (hy_S × Int32) := fX10_isWord_24 hy_fu σ x1 s0 0
def fX10_isWord (σ : hy_S) (x1 : Int32) : Option (hy_S × Int32) := hy_ck ((Int32.toNatClampNeg x1) < 5) ((if ((σ.2 5) - (σ.2 7)) = (hy_len (Int32.toNatClampNeg x1)) then fX10_isWord_21 σ 1 x1 else fX10_isWord_21 σ 0 x1))
def fX10_readNote_104 (k7 : hy_S → Int32 → Option (hy_S × Int32)) (k59 : hy_S → Int32 → Int32 → Option (hy_S × Int32)) (σ : hy_S) (s0 : Int32) (x1 : Int32) : Option (hy_S × Int32) := hy_pf σ 5 ((σ.2 5) + 1) (fun σ1 => k59 σ1 x1 s0)
def fX10_readNote_59 (k7 : hy_S → Int32 → Option (hy_S × Int32)) : Nat → hy_S → Int32 → Int32 → Option (hy_S × Int32)
  | 0, _, _, _ => none
  | n + 1, σ, x1, x2 => hy_bd (fX10_isAt σ 48 57) (fun σ1 v2 => (if v2 = 0 then (if (σ1.2 5) = (σ1.2 7) then some (σ1, 0) else (if ((σ1.2 5) - (σ1.2 7)) ≤ 5 then hy_pa σ1 19 5 x1 x2 (fun σ7 => k7 σ7 (x1 + 1)) else some (σ1, 0))) else (if 5 ≤ ((σ1.2 5) - (σ1.2 7)) then fX10_readNote_104 k7 (fX10_readNote_59 k7 n) σ1 x2 x1 else hy_ga σ1 17 400 (σ1.2 5) (fun v11 => fX10_readNote_104 k7 (fX10_readNote_59 k7 n) σ1 (((10 * x2) + v11) - 48) x1))))
def fX10_readNote_16 (k7 : hy_S → Int32 → Option (hy_S × Int32)) : Nat → hy_S → Int32 → Option (hy_S × Int32)
  | 0, _, _ => none
  | n + 1, σ, x1 => hy_bd (fX10_isAt σ 97 122) (fun σ1 v2 => (if v2 = 0 then hy_bd (fX10_word σ1 x1) (fun σ5 v6 => hy_bd (fX10_isWord σ5 v6) (fun σ8 v9 => (if v9 = 0 then some (σ8, 0) else hy_bd (fX10_blanks σ8) (fun σ12 v13 => fX10_readNote_59 k7 hy_fu σ12 x1 0)))) else hy_pf σ1 5 ((σ1.2 5) + 1) (fun σ15 => (fX10_readNote_16 k7 n) σ15 x1)))
def fX10_readNote_7 : Nat → hy_S → Int32 → Option (hy_S × Int32)
  | 0, _, _ => none
  | n + 1, σ, x1 => (if 5 ≤ x1 then hy_bd (fX10_blanks σ) (fun σ2 v3 => (if (σ2.2 5) = (σ2.2 6) then some (σ2, 1) else some (σ2, 0))) else hy_bd (fX10_blanks σ) (fun σ6 v7 => fX10_readNote_16 (fX10_readNote_7 n) hy_fu σ6 x1))
def fX10_readNote (σ : hy_S) : Option (hy_S × Int32) := hy_pf σ 5 0 (fun σ1 => fX10_readNote_7 hy_fu σ1 0)
def fX10_check_115 (σ : hy_S) (s0 : Int32) (s1 : Int32) (s2 : Int32) (x3 : Int32) : Option (hy_S × Int32) := hy_pa σ 16 8 s2 (s1 + s0) (fun σ1 => some (σ1, x3))
def fX10_check_74 (σ : hy_S) (s0 : Int32) (x1 : Int32) : Option (hy_S × Int32) := hy_bd (fX10_throwsIf σ s0 2) (fun σ1 v2 => (if v2 = 0 then hy_bd (fX10_isFalse σ1 x1) (fun σ5 v6 => hy_ga σ5 15 8 x1 (fun v8 => hy_pa σ5 15 8 x1 (v8 + 1) (fun σ11 => hy_ga σ11 16 8 x1 (fun v14 => (if v6 ≤ 0 then fX10_check_115 σ11 0 v14 x1 v6 else fX10_check_115 σ11 1 v14 x1 v6))))) else some (σ1, 0)))
def fX10_check_61 (σ : hy_S) (s0 : Int32) (x1 : Int32) (x2 : Int32) : Option (hy_S × Int32) := hy_pf σ 8 s0 (fun σ1 => (if x2 = 0 then fX10_check_74 σ1 1 x1 else fX10_check_74 σ1 0 x1))
def fX10_check_34 (σ : hy_S) (s0 : Int32) (x1 : Int32) : Option (hy_S × Int32) := hy_bd (fX10_throwsIf σ s0 1) (fun σ1 v2 => (if v2 = 0 then hy_bd (fX10_readNote σ1) (fun σ5 v6 => (if v6 = 0 then fX10_check_61 σ5 (σ5.2 7) x1 v6 else fX10_check_61 σ5 (-1) x1 v6)) else some (σ1, 0)))
def fX10_check (σ : hy_S) (x1 : Int32) : Option (hy_S × Int32) := hy_pf σ 0 0 (fun σ1 => hy_pf σ1 6 (σ1.2 4) (fun σ3 => hy_pf σ3 4 0 (fun σ5 => hy_bd (fX10_in σ5 x1 0 7) (fun σ7 v8 => (if v8 = 0 then fX10_check_34 σ7 1 x1 else fX10_check_34 σ7 0 x1)))))
