/-! A storm over one stack: which jars break, and how the others close up. -/
noncomputable def hj_K (a b : Nat) (σ τ : hy_S) : Prop := (∀ j, ¬ j = a → ¬ j = b → τ.1 j = σ.1 j) ∧ τ.2 = σ.2
noncomputable def hj_M (f g : Nat → Int32) (v : Int32) (P : Nat → Prop) : Prop := ∀ j, (P j → g j = v) ∧ (¬ P j → g j = f j)
noncomputable def hj_k (w b : Nat → Int32) (t : Nat) (x : Int32) (k : Nat) : Prop := ¬ hj_T w t (t - 1 - k) ≤ b k - (b k * x + 99) / 100
theorem hj_Meq {f g g2 : Nat → Int32} {v : Int32} {P Q : Nat → Prop} (h1 : hj_M f g v P) (h2 : hj_M f g2 v Q) (h : ∀ j, P j ↔ Q j) : g = g2 := by
  funext j
  by_cases e : P j
  · rw [(h1 j).1 e, (h2 j).1 ((h j).mp e)]
  · rw [(h1 j).2 e, (h2 j).2 (fun z => e ((h j).mpr z))]
theorem hj_Mmore {f g : Nat → Int32} {v : Int32} {P Q : Nat → Prop} {q : Nat} (h1 : hj_M (upd f q v) g v P) (h : ∀ j, Q j ↔ P j ∨ j = q) : hj_M f g v Q := by
  intro j
  refine ⟨fun z => ?_, fun z => ?_⟩
  · by_cases e : P j
    · exact (h1 j).1 e
    · rcases (h j).mp z with z2 | z2
      · exact absurd z2 e
      · rw [(h1 j).2 e, z2, hs_upds]
  · have e : ¬ P j := fun z2 => z ((h j).mpr (Or.inl z2))
    have e2 : ¬ j = q := fun z2 => z ((h j).mpr (Or.inr z2))
    rw [(h1 j).2 e, hs_upd e2]
theorem hj_Msame {f g : Nat → Int32} {v : Int32} {P Q : Nat → Prop} (h1 : hj_M f g v P) (h : ∀ j, Q j ↔ P j) : hj_M f g v Q := by
  intro j
  exact ⟨fun z => (h1 j).1 ((h j).mp z), fun z => (h1 j).2 (fun z2 => z ((h j).mpr z2))⟩
theorem hj_bs {σ : hy_S} {x y : Int32} {o : hy_S × Int32} (h : fX0_bearsInStorm σ x y = some o) : o = (σ, hj_B (σ.1 4) (σ.1 5) x.toNatClampNeg - (hj_B (σ.1 4) (σ.1 5) x.toNatClampNeg * y + 99) / 100) := by
  unfold fX0_bearsInStorm at h
  obtain ⟨σ1, v2, e, h⟩ := hy_bd_some h
  have q := hj_bc e
  rw [← Option.some.inj h, show σ1 = σ from congrArg Prod.fst q, show v2 = _ from congrArg Prod.snd q]
theorem hj_bw {x1 x2 : Int32} (p0 : 0 ≤ x1.toInt) (p1 : x1.toInt < 24) {t : Nat} (t10 : t ≤ 10) {w b st : Nat → Int32} : ∀ (n : Nat) (σ : hy_S) (x3 x4 : Int32) (d : Nat) (o : hy_S × Int32), w = hj_w (σ.1 2) (σ.1 5) (σ.1 8) (σ.1 11) x1.toNatClampNeg → b = hj_b (σ.1 4) (σ.1 5) (σ.1 11) x1.toNatClampNeg → st = σ.1 11 → -1 ≤ x4.toInt → x4.toInt + 1 + (d : Int) = (t : Int) → x3 = hj_T w t d → fX0_breakWeak_12 n σ x1 x2 x3 x4 = some o →
    hj_K 9 10 σ o.1 ∧ hj_M (σ.1 9) (o.1.1 9) 3 (fun j => ∃ k : Nat, k + d < t ∧ hj_k w b t x2 k ∧ (st (10 * x1.toNatClampNeg + k)).toNatClampNeg = j) ∧ hj_M (σ.1 10) (o.1.1 10) (-1) (fun j => ∃ k : Nat, k + d < t ∧ hj_k w b t x2 k ∧ (st (10 * x1.toNatClampNeg + k)).toNatClampNeg = j) := by
  intro n
  induction n with
  | zero => intro σ x3 x4 d o hw hb hs h0 h1 h2 h; cases h
  | succ n ih =>
    intro σ x3 x4 d o hw hb hs h0 h1 h2 h
    unfold fX0_breakWeak_12 at h
    by_cases c : x4 < 0
    · rw [if_pos c] at h
      have c1 : x4.toInt < 0 := Int32.lt_iff_toInt_lt.mp c
      have q1 : o.1 = σ := (hi_pr h).1
      rw [q1]
      have no : ∀ j, ¬ ∃ k : Nat, k + d < t ∧ hj_k w b t x2 k ∧ (st (10 * x1.toNatClampNeg + k)).toNatClampNeg = j := by
        intro j ⟨k, hk, _⟩
        omega
      exact ⟨⟨fun _ _ _ => rfl, rfl⟩, fun j => ⟨fun z => absurd z (no j), fun _ => rfl⟩, fun j => ⟨fun z => absurd z (no j), fun _ => rfl⟩⟩
    · rw [if_neg c] at h
      have c1 : ¬ x4.toInt < 0 := hi_nlt c
      have h0' : 0 ≤ x4.toInt := by omega
      have nx := hs_tn h0'
      obtain ⟨_, v2, e2, h⟩ := hy_ga_some h
      rw [(hj_ix p0 p1 h0' (by omega)).2] at e2
      obtain ⟨σ5, v6, e6, h⟩ := hy_bd_some h
      have e7 := hj_bs e6
      have e8 : σ5 = σ := congrArg Prod.fst e7
      have e9 : v6 = b x4.toNatClampNeg - (b x4.toNatClampNeg * x2 + 99) / 100 := by
        rw [show v6 = _ from congrArg Prod.snd e7, e2, hb]
        rfl
      have ed : t - 1 - x4.toNatClampNeg = d := by omega
      have g1 : (x4 + (-1)).toInt = x4.toInt + (-1) := hs_addk (-1) rfl (by omega) (by omega)
      have e13 : hj_W (σ.1 2) (σ.1 5) (σ.1 8) v2.toNatClampNeg = w x4.toNatClampNeg := by
        rw [e2, hw]
        rfl
      have e14 : x3 + w x4.toNatClampNeg = hj_T w t (d + 1) := by
        show x3 + w x4.toNatClampNeg = hj_T w t d + w (t - 1 - d)
        rw [show t - 1 - d = x4.toNatClampNeg by omega, h2]
      rw [e8] at h
      by_cases c2 : x3 ≤ v6
      · rw [if_pos c2] at h
        unfold fX0_breakWeak_53 at h
        obtain ⟨σ9, v10, e10, h⟩ := hy_bd_some h
        have e11 := hj_wc e10
        rw [show σ9 = σ from congrArg Prod.fst e11, show v10 = _ from congrArg Prod.snd e11, e13] at h
        obtain ⟨q1, q2, q3⟩ := ih σ (x3 + w x4.toNatClampNeg) (x4 + (-1)) (d + 1) o hw hb hs (by rw [g1]; omega) (by rw [g1]; omega) e14 h
        have iff : ∀ j, (∃ k : Nat, k + d < t ∧ hj_k w b t x2 k ∧ (st (10 * x1.toNatClampNeg + k)).toNatClampNeg = j) ↔ (∃ k : Nat, k + (d + 1) < t ∧ hj_k w b t x2 k ∧ (st (10 * x1.toNatClampNeg + k)).toNatClampNeg = j) := by
          intro j
          refine ⟨fun ⟨k, z1, z2, z3⟩ => ⟨k, ?_, z2, z3⟩, fun ⟨k, z1, z2, z3⟩ => ⟨k, by omega, z2, z3⟩⟩
          by_cases ek : k = x4.toNatClampNeg
          · exfalso
            unfold hj_k at z2
            rw [ek, ed, ← e9, ← h2] at z2
            exact z2 c2
          · omega
        exact ⟨q1, hj_Msame q2 iff, hj_Msame q3 iff⟩
      · rw [if_neg c2] at h
        obtain ⟨σ9, v10, e10, h⟩ := hy_bd_some h
        unfold fX1_move at e10
        obtain ⟨_, σa, ea, e10⟩ := hy_pa_some e10
        obtain ⟨_, σb, eb, e10⟩ := hy_pa_some e10
        have y2 : σ9 = σb := (hi_pr e10).1
        have y3 : σb = hy_sc (hy_sc σ 9 (upd (σ.1 9) v2.toNatClampNeg 3)) 10 (upd (σ.1 10) v2.toNatClampNeg (-1)) := by
          rw [eb, ea]
          rfl
        rw [y2, y3] at h
        unfold fX0_breakWeak_53 at h
        obtain ⟨σc, v11, e11, h⟩ := hy_bd_some h
        have e12 := hj_wc e11
        have z1 : v11 = w x4.toNatClampNeg := by
          rw [show v11 = _ from congrArg Prod.snd e12, ← e13]
          rfl
        rw [show σc = hy_sc (hy_sc σ 9 (upd (σ.1 9) v2.toNatClampNeg 3)) 10 (upd (σ.1 10) v2.toNatClampNeg (-1)) from congrArg Prod.fst e12, z1] at h
        obtain ⟨q1, q2, q3⟩ := ih (hy_sc (hy_sc σ 9 (upd (σ.1 9) v2.toNatClampNeg 3)) 10 (upd (σ.1 10) v2.toNatClampNeg (-1))) (x3 + w x4.toNatClampNeg) (x4 + (-1)) (d + 1) o hw hb hs (by rw [g1]; omega) (by rw [g1]; omega) e14 h
        have iff : ∀ j, (∃ k : Nat, k + d < t ∧ hj_k w b t x2 k ∧ (st (10 * x1.toNatClampNeg + k)).toNatClampNeg = j) ↔ (∃ k : Nat, k + (d + 1) < t ∧ hj_k w b t x2 k ∧ (st (10 * x1.toNatClampNeg + k)).toNatClampNeg = j) ∨ j = v2.toNatClampNeg := by
          intro j
          refine ⟨fun ⟨k, z1, z2, z3⟩ => ?_, fun z => ?_⟩
          · by_cases ek : k = x4.toNatClampNeg
            · refine Or.inr ?_
              rw [← z3, ek, hs, e2]
            · exact Or.inl ⟨k, by omega, z2, z3⟩
          · rcases z with ⟨k, z1, z2, z3⟩ | z
            · exact ⟨k, by omega, z2, z3⟩
            · refine ⟨x4.toNatClampNeg, by omega, ?_, ?_⟩
              · unfold hj_k
                rw [ed, ← e9, ← h2]
                exact c2
              · rw [z, hs, e2]
        refine ⟨⟨fun j j1 j2 => ?_, q1.2⟩, hj_Mmore q2 iff, hj_Mmore q3 iff⟩
        rw [q1.1 j j1 j2]
        show (if j = 10 then _ else (if j = 9 then _ else σ.1 j)) = σ.1 j
        rw [if_neg j2, if_neg j1]
/-- closing up: the row of cells and how many stand -/
noncomputable def hj_c (st : Nat → Int32) (base : Nat) (kp : Nat → Bool) : Nat → (Nat → Int32) × Nat
  | 0 => (st, 0)
  | k + 1 => if kp k = true then (upd (hj_c st base kp k).1 (base + (hj_c st base kp k).2) (st (base + k)), (hj_c st base kp k).2 + 1) else hj_c st base kp k
theorem hj_cle {st : Nat → Int32} {base : Nat} {kp : Nat → Bool} : ∀ n : Nat, (hj_c st base kp n).2 ≤ n ∧ ∀ q : Nat, (q < base ∨ base + n ≤ q) → (hj_c st base kp n).1 q = st q := by
  intro n
  induction n with
  | zero => exact ⟨Nat.le_refl _, fun _ _ => rfl⟩
  | succ n ih =>
    obtain ⟨i1, i2⟩ := ih
    show (if kp n = true then _ else _ : (Nat → Int32) × Nat).2 ≤ n + 1 ∧ ∀ q : Nat, (q < base ∨ base + (n + 1) ≤ q) → (if kp n = true then _ else _ : (Nat → Int32) × Nat).1 q = st q
    by_cases c : kp n = true
    · rw [if_pos c]
      refine ⟨?_, fun q hq => ?_⟩
      · show (hj_c st base kp n).2 + 1 ≤ n + 1
        omega
      · show upd (hj_c st base kp n).1 (base + (hj_c st base kp n).2) (st (base + n)) q = st q
        rw [hs_upd (by omega)]
        exact i2 q (by omega)
    · rw [if_neg c]
      exact ⟨by omega, fun q hq => i2 q (by omega)⟩
theorem hj_ccong {st : Nat → Int32} {base : Nat} {kp kq : Nat → Bool} : ∀ n : Nat, (∀ k, k < n → kp k = kq k) → hj_c st base kp n = hj_c st base kq n := by
  intro n
  induction n with
  | zero => exact fun _ => rfl
  | succ n ih =>
    intro h
    have e := ih (fun k hk => h k (by omega))
    show (if kp n = true then (upd (hj_c st base kp n).1 (base + (hj_c st base kp n).2) (st (base + n)), (hj_c st base kp n).2 + 1) else hj_c st base kp n) = (if kq n = true then (upd (hj_c st base kq n).1 (base + (hj_c st base kq n).2) (st (base + n)), (hj_c st base kq n).2 + 1) else hj_c st base kq n)
    rw [e, h n (by omega)]
theorem hj_cidx {st : Nat → Int32} {base : Nat} {kp : Nat → Bool} : ∀ n : Nat, ∃ f : Nat → Nat, (∀ k, k < (hj_c st base kp n).2 → f k < n ∧ kp (f k) = true ∧ (hj_c st base kp n).1 (base + k) = st (base + f k)) ∧ ∀ k q, k < q → q < (hj_c st base kp n).2 → f k < f q := by
  intro n
  induction n with
  | zero => exact ⟨fun k => k, fun k hk => absurd hk (Nat.not_lt_zero _), fun k q _ hq => absurd hq (Nat.not_lt_zero _)⟩
  | succ n ih =>
    obtain ⟨f, f1, f2⟩ := ih
    by_cases c : kp n = true
    · have e : hj_c st base kp (n + 1) = (upd (hj_c st base kp n).1 (base + (hj_c st base kp n).2) (st (base + n)), (hj_c st base kp n).2 + 1) := by
        show (if kp n = true then _ else _) = _
        rw [if_pos c]
      rw [e]
      refine ⟨fun k => if k = (hj_c st base kp n).2 then n else f k, fun k hk => ?_, fun k q hkq hq => ?_⟩
      · have hk : k < (hj_c st base kp n).2 + 1 := hk
        show (if k = (hj_c st base kp n).2 then n else f k) < n + 1 ∧ kp (if k = (hj_c st base kp n).2 then n else f k) = true ∧ upd (hj_c st base kp n).1 (base + (hj_c st base kp n).2) (st (base + n)) (base + k) = st (base + (if k = (hj_c st base kp n).2 then n else f k))
        by_cases ek : k = (hj_c st base kp n).2
        · rw [if_pos ek, ek, hs_upds]
          exact ⟨by omega, c, rfl⟩
        · rw [if_neg ek, hs_upd (by omega)]
          obtain ⟨a1, a2, a3⟩ := f1 k (by omega)
          exact ⟨by omega, a2, a3⟩
      · have hq : q < (hj_c st base kp n).2 + 1 := hq
        show (if k = (hj_c st base kp n).2 then n else f k) < (if q = (hj_c st base kp n).2 then n else f q)
        rw [if_neg (by omega)]
        by_cases eq : q = (hj_c st base kp n).2
        · rw [if_pos eq]
          exact (f1 k (by omega)).1
        · rw [if_neg eq]
          exact f2 k q hkq (by omega)
    · have e : hj_c st base kp (n + 1) = hj_c st base kp n := by
        show (if kp n = true then _ else _) = _
        rw [if_neg c]
      rw [e]
      exact ⟨f, fun k hk => ⟨by have := (f1 k hk).1; omega, (f1 k hk).2⟩, f2⟩
theorem hj_cs1 {st : Nat → Int32} {base : Nat} {kp : Nat → Bool} {n : Nat} (c : kp n = true) : hj_c st base kp (n + 1) = (upd (hj_c st base kp n).1 (base + (hj_c st base kp n).2) (st (base + n)), (hj_c st base kp n).2 + 1) := by
  show (if kp n = true then _ else _) = _
  rw [if_pos c]
theorem hj_cs0 {st : Nat → Int32} {base : Nat} {kp : Nat → Bool} {n : Nat} (c : ¬ kp n = true) : hj_c st base kp (n + 1) = hj_c st base kp n := by
  show (if kp n = true then _ else _) = _
  rw [if_neg c]
theorem hj_cg {x1 : Int32} (p0 : 0 ≤ x1.toInt) (p1 : x1.toInt < 24) {t : Nat} (t10 : t ≤ 10) {st pl : Nat → Int32} {kp : Nat → Bool} (hkp : ∀ k, kp k = decide (pl (st (10 * x1.toNatClampNeg + k)).toNatClampNeg = 1)) {x2 : Int32} (hx2 : x2.toInt = (t : Int)) : ∀ (n : Nat) (σ : hy_S) (x3 : Int32) (o : hy_S × Int32), 0 ≤ x3.toInt → x3.toInt ≤ (t : Int) → σ.1 9 = pl → σ.1 11 = (hj_c st (10 * x1.toNatClampNeg) kp x3.toNatClampNeg).1 → (σ.1 12 x1.toNatClampNeg).toInt = ((hj_c st (10 * x1.toNatClampNeg) kp x3.toNatClampNeg).2 : Int) → fX0_closeGaps_16 n σ x1 x2 x3 = some o →
    hj_K 11 12 σ o.1 ∧ o.1.1 11 = (hj_c st (10 * x1.toNatClampNeg) kp t).1 ∧ (o.1.1 12 x1.toNatClampNeg).toInt = ((hj_c st (10 * x1.toNatClampNeg) kp t).2 : Int) ∧ ∀ q, ¬ q = x1.toNatClampNeg → o.1.1 12 q = σ.1 12 q := by
  intro n
  induction n with
  | zero => intro σ x3 o h0 h1 hp hs hh h; cases h
  | succ n ih =>
    intro σ x3 o h0 h1 hp hs hh h
    have nx := hs_tn h0
    unfold fX0_closeGaps_16 at h
    by_cases c : x2 ≤ x3
    · rw [if_pos c] at h
      have c1 : x2.toInt ≤ x3.toInt := hi_le.mp c
      have e : x3.toNatClampNeg = t := by omega
      rw [e] at hs hh
      rw [(hi_pr h).1]
      exact ⟨⟨fun _ _ _ => rfl, rfl⟩, hs, hh, fun _ _ => rfl⟩
    · rw [if_neg c] at h
      have c1 := hi_nle c
      obtain ⟨_, v2, e2, h⟩ := hy_ga_some h
      rw [(hj_ix p0 p1 h0 (by omega)).2, hs, hj_cle _ |>.2 _ (Or.inr (Nat.le_refl _))] at e2
      obtain ⟨_, v5, e5, h⟩ := hy_ga_some h
      rw [hp, e2] at e5
      obtain ⟨g1, g2⟩ := hj_p1 h0 (by omega)
      have le := (hj_cle (st := st) (base := 10 * x1.toNatClampNeg) (kp := kp) x3.toNatClampNeg).1
      by_cases c2 : v5 = 1
      · rw [if_pos c2] at h
        have ck : kp x3.toNatClampNeg = true := by
          rw [hkp, ← e5]
          exact decide_eq_true c2
        obtain ⟨σ9, v10, e9, h⟩ := hy_bd_some h
        unfold fX0_setTop at e9
        obtain ⟨_, u1, ue1, e9⟩ := hy_ga_some e9
        obtain ⟨_, σ4, ue4, e9⟩ := hy_pa_some e9
        obtain ⟨_, u7, ue7, e9⟩ := hy_ga_some e9
        obtain ⟨_, σ10, ue10, e9⟩ := hy_pa_some e9
        have y1 : σ9 = σ10 := (hi_pr e9).1
        have hu1 : u1.toInt = ((hj_c st (10 * x1.toNatClampNeg) kp x3.toNatClampNeg).2 : Int) := by rw [ue1]; exact hh
        have nu := hs_tn (x := u1) (by omega)
        have hu7 : u7 = u1 := by rw [ue7, ue4, ue1]; rfl
        have ix : (x1 * 10 + u1).toNatClampNeg = 10 * x1.toNatClampNeg + (hj_c st (10 * x1.toNatClampNeg) kp x3.toNatClampNeg).2 := by
          rw [(hj_ix p0 p1 (by omega) (by omega)).2]
          omega
        have y2 : σ9 = hy_sc (hy_sc σ 11 (upd (σ.1 11) (10 * x1.toNatClampNeg + (hj_c st (10 * x1.toNatClampNeg) kp x3.toNatClampNeg).2) v2)) 12 (upd (σ.1 12) x1.toNatClampNeg (u1 + 1)) := by
          rw [y1, ue10, hu7, ue4, ix]
          rfl
        unfold fX0_closeGaps_55 at h
        rw [y2] at h
        have gu : (u1 + 1).toInt = u1.toInt + 1 := hs_addk 1 rfl (by omega) (by omega)
        obtain ⟨q1, q2, q3, q4⟩ := ih (hy_sc (hy_sc σ 11 (upd (σ.1 11) (10 * x1.toNatClampNeg + (hj_c st (10 * x1.toNatClampNeg) kp x3.toNatClampNeg).2) v2)) 12 (upd (σ.1 12) x1.toNatClampNeg (u1 + 1))) (x3 + 1) o (by rw [g1]; omega) (by rw [g1]; omega) hp (by
          rw [g2, hj_cs1 ck]
          show upd (σ.1 11) _ v2 = upd _ _ _
          rw [hs, e2]) (by
          rw [g2, hj_cs1 ck]
          show (upd (σ.1 12) x1.toNatClampNeg (u1 + 1) x1.toNatClampNeg).toInt = (((hj_c st (10 * x1.toNatClampNeg) kp x3.toNatClampNeg).2 + 1 : Nat) : Int)
          rw [hs_upds, gu, hu1]
          omega) h
        refine ⟨⟨fun j j1 j2 => ?_, q1.2⟩, q2, q3, fun q hq => ?_⟩
        · rw [q1.1 j j1 j2]
          show (if j = 12 then _ else (if j = 11 then _ else σ.1 j)) = σ.1 j
          rw [if_neg j2, if_neg j1]
        · rw [q4 q hq]
          show upd (σ.1 12) x1.toNatClampNeg (u1 + 1) q = σ.1 12 q
          rw [hs_upd hq]
      · rw [if_neg c2] at h
        have ck : ¬ kp x3.toNatClampNeg = true := by
          rw [hkp, ← e5]
          exact fun z => c2 (of_decide_eq_true z)
        unfold fX0_closeGaps_55 at h
        exact ih σ (x3 + 1) o (by rw [g1]; omega) (by rw [g1]; omega) hp (by rw [g2, hj_cs0 ck]; exact hs) (by rw [g2, hj_cs0 ck]; exact hh) h
