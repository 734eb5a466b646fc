/-! The reference's storm over one stack, and both together. -/
theorem hj_m8 {x1 : Int32} (p0 : 0 ≤ x1.toInt) (p1 : x1.toInt < 24) {t : Nat} (t10 : t ≤ 10) {st br : Nat → Int32} {kp : Nat → Bool} (hkp : ∀ k, kp k = decide (br k = 0)) {x4 : Int32} (hx4 : x4.toInt = (t : Int)) : ∀ (n : Nat) (μ : hy_S) (x3 x5 : Int32) (o : hy_S × Int32), 0 ≤ x5.toInt → x5.toInt ≤ (t : Int) → μ.1 11 = br → μ.1 9 = (hj_c st (10 * x1.toNatClampNeg) kp x5.toNatClampNeg).1 → x3.toInt = ((hj_c st (10 * x1.toNatClampNeg) kp x5.toNatClampNeg).2 : Int) → fX10_meets_87 n μ x1 x3 x4 x5 = some o →
    (∀ j, ¬ j = 7 → ¬ j = 8 → ¬ j = 9 → ¬ j = 10 → o.1.1 j = μ.1 j) ∧ o.1.2 = μ.2 ∧ o.1.1 9 = (hj_c st (10 * x1.toNatClampNeg) kp t).1 ∧ (o.1.1 10 x1.toNatClampNeg).toInt = ((hj_c st (10 * x1.toNatClampNeg) kp t).2 : Int) ∧ (∀ q, ¬ q = x1.toNatClampNeg → o.1.1 10 q = μ.1 10 q) ∧ o.2 = x4 - o.1.1 10 x1.toNatClampNeg ∧
    hj_M (μ.1 7) (o.1.1 7) 3 (fun j => ∃ k : Nat, x5.toNatClampNeg ≤ k ∧ k < t ∧ ¬ br k = 0 ∧ (st (10 * x1.toNatClampNeg + k)).toNatClampNeg = j) ∧ hj_M (μ.1 8) (o.1.1 8) (-1) (fun j => ∃ k : Nat, x5.toNatClampNeg ≤ k ∧ k < t ∧ ¬ br k = 0 ∧ (st (10 * x1.toNatClampNeg + k)).toNatClampNeg = j) := by
  intro n
  induction n with
  | zero => intro μ x3 x5 o h0 h1 hp hs hh h; cases h
  | succ n ih =>
    intro μ x3 x5 o h0 h1 hp hs hh h
    have nx := hs_tn h0
    unfold fX10_meets_87 at h
    by_cases c : x4 ≤ x5
    · rw [if_pos c] at h
      have c1 : x4.toInt ≤ x5.toInt := hi_le.mp c
      have e : x5.toNatClampNeg = t := by omega
      rw [e] at hs hh
      obtain ⟨_, σ2, e2, h⟩ := hy_pa_some h
      obtain ⟨s1, s2⟩ := hi_pr h
      have no : ∀ j, ¬ ∃ k : Nat, x5.toNatClampNeg ≤ k ∧ k < t ∧ ¬ br k = 0 ∧ (st (10 * x1.toNatClampNeg + k)).toNatClampNeg = j := by
        intro j ⟨k, hk, hk2, _⟩
        omega
      have y : o.1.1 10 x1.toNatClampNeg = x3 := by
        rw [s1, e2]
        exact Int32.toInt_inj.mp (hs_same _ _ _ _)
      rw [y, s2]
      rw [s1, e2]
      refine ⟨fun j _ _ _ j4 => ?_, rfl, hs, hh, fun q hq => ?_, rfl, fun j => ⟨fun z => absurd z (no j), fun _ => rfl⟩, fun j => ⟨fun z => absurd z (no j), fun _ => rfl⟩⟩
      · show (if j = 10 then _ else μ.1 j) = μ.1 j
        rw [if_neg j4]
      · show upd (μ.1 10) x1.toNatClampNeg x3 q = μ.1 10 q
        rw [hs_upd hq]
    · rw [if_neg c] at h
      have c1 := hi_nle c
      obtain ⟨_, v5, e5, h⟩ := hy_ga_some h
      rw [(hj_ix p0 p1 h0 (by omega)).1, hs, hj_cle _ |>.2 _ (Or.inr (Nat.le_refl _))] at e5
      obtain ⟨_, v8, e8, h⟩ := hy_ga_some h
      rw [hp] at e8
      obtain ⟨g1, g2⟩ := hj_p1 h0 (by omega)
      have le := (hj_cle (st := st) (base := 10 * x1.toNatClampNeg) (kp := kp) x5.toNatClampNeg).1
      by_cases c2 : v8 = 0
      · rw [if_pos c2] at h
        have ck : kp x5.toNatClampNeg = true := by
          rw [hkp, ← e8]
          exact decide_eq_true c2
        have n3 := hs_tn (x := x3) (by omega)
        have ix : (10 * x1 + x3).toNatClampNeg = 10 * x1.toNatClampNeg + (hj_c st (10 * x1.toNatClampNeg) kp x5.toNatClampNeg).2 := by
          rw [(hj_ix p0 p1 (by omega) (by omega)).1]
          omega
        obtain ⟨_, σ12, e12, h⟩ := hy_pa_some h
        rw [ix] at e12
        unfold fX10_meets_153 at h
        rw [e12] at h
        have g3 : (x3 + 1).toInt = x3.toInt + 1 := hs_addk 1 rfl (by omega) (by omega)
        obtain ⟨q1, q2, q3, q4, q5, q6, q7, q8⟩ := ih (hy_sc μ 9 (upd (μ.1 9) (10 * x1.toNatClampNeg + (hj_c st (10 * x1.toNatClampNeg) kp x5.toNatClampNeg).2) v5)) (x3 + 1) (x5 + 1) o (by rw [g1]; omega) (by rw [g1]; omega) hp (by
          rw [g2, hj_cs1 ck]
          show upd (μ.1 9) _ v5 = upd _ _ _
          rw [hs, e5]) (by
          rw [g2, hj_cs1 ck, g3, hh]
          show _ = (((hj_c st (10 * x1.toNatClampNeg) kp x5.toNatClampNeg).2 + 1 : Nat) : Int)
          omega) h
        have iff : ∀ j, (∃ k : Nat, x5.toNatClampNeg ≤ k ∧ k < t ∧ ¬ br k = 0 ∧ (st (10 * x1.toNatClampNeg + k)).toNatClampNeg = j) ↔ (∃ k : Nat, (x5 + 1).toNatClampNeg ≤ k ∧ k < t ∧ ¬ br k = 0 ∧ (st (10 * x1.toNatClampNeg + k)).toNatClampNeg = j) := by
          intro j
          rw [g2]
          refine ⟨fun ⟨k, z1, z2, z3, z4⟩ => ⟨k, ?_, z2, z3, z4⟩, fun ⟨k, z1, z2⟩ => ⟨k, by omega, z2⟩⟩
          by_cases ek : k = x5.toNatClampNeg
          · rw [ek, ← e8] at z3
            exact absurd c2 z3
          · omega
        refine ⟨fun j j1 j2 j3 j4 => ?_, q2, q3, q4, q5, q6, hj_Msame q7 iff, hj_Msame q8 iff⟩
        rw [q1 j j1 j2 j3 j4]
        show (if j = 9 then _ else μ.1 j) = μ.1 j
        rw [if_neg j3]
      · rw [if_neg c2] at h
        have ck : ¬ kp x5.toNatClampNeg = true := by
          rw [hkp, ← e8]
          exact fun z => c2 (of_decide_eq_true z)
        obtain ⟨_, σ15, e15, h⟩ := hy_pa_some h
        obtain ⟨_, σ18, e18, h⟩ := hy_pa_some h
        have y3 : σ18 = hy_sc (hy_sc μ 7 (upd (μ.1 7) v5.toNatClampNeg 3)) 8 (upd (μ.1 8) v5.toNatClampNeg (-1)) := by
          rw [e18, e15]
          rfl
        unfold fX10_meets_153 at h
        rw [y3] at h
        obtain ⟨q1, q2, q3, q4, q5, q6, q7, q8⟩ := ih (hy_sc (hy_sc μ 7 (upd (μ.1 7) v5.toNatClampNeg 3)) 8 (upd (μ.1 8) v5.toNatClampNeg (-1))) x3 (x5 + 1) o (by rw [g1]; omega) (by rw [g1]; omega) hp (by rw [g2, hj_cs0 ck]; exact hs) (by rw [g2, hj_cs0 ck]; exact hh) h
        have iff : ∀ j, (∃ k : Nat, x5.toNatClampNeg ≤ k ∧ k < t ∧ ¬ br k = 0 ∧ (st (10 * x1.toNatClampNeg + k)).toNatClampNeg = j) ↔ (∃ k : Nat, (x5 + 1).toNatClampNeg ≤ k ∧ k < t ∧ ¬ br k = 0 ∧ (st (10 * x1.toNatClampNeg + k)).toNatClampNeg = j) ∨ j = v5.toNatClampNeg := by
          intro j
          rw [g2]
          refine ⟨fun ⟨k, z1, z2, z3, z4⟩ => ?_, fun z => ?_⟩
          · by_cases ek : k = x5.toNatClampNeg
            · refine Or.inr ?_
              rw [← z4, ek, e5]
            · exact Or.inl ⟨k, by omega, z2, z3, z4⟩
          · rcases z with ⟨k, z1, z2⟩ | z
            · exact ⟨k, by omega, z2⟩
            · refine ⟨x5.toNatClampNeg, Nat.le_refl _, by omega, ?_, ?_⟩
              · rw [← e8]
                exact c2
              · rw [z, e5]
        refine ⟨fun j j1 j2 j3 j4 => ?_, q2, q3, q4, q5, q6, hj_Mmore q7 iff, hj_Mmore q8 iff⟩
        rw [q1 j j1 j2 j3 j4]
        show (if j = 8 then _ else (if j = 7 then _ else μ.1 j)) = μ.1 j
        rw [if_neg j2, if_neg j1]
theorem hj_m2 {x1 x2 : Int32} (p0 : 0 ≤ x1.toInt) (p1 : x1.toInt < 24) {t : Nat} (t10 : t ≤ 10) {w b st : Nat → Int32} : ∀ (n : Nat) (μ : hy_S) (x3 : Int32) (o : hy_S × Int32), w = hj_w (μ.1 0) (μ.1 3) (μ.1 6) (μ.1 9) x1.toNatClampNeg → b = hj_b (μ.1 2) (μ.1 3) (μ.1 9) x1.toNatClampNeg → st = μ.1 9 → (μ.1 10 x1.toNatClampNeg).toInt = (t : Int) → 0 ≤ x3.toInt → x3.toInt ≤ (t : Int) → (∀ k, k < x3.toNatClampNeg → (μ.1 11 k = 0 ↔ ¬ hj_k w b t x2 k)) → fX10_meets_2 n μ x1 x2 x3 = some o →
    ∃ kp : Nat → Bool, (∀ k, k < t → (kp k = true ↔ ¬ hj_k w b t x2 k)) ∧ (∀ j, ¬ j = 7 → ¬ j = 8 → ¬ j = 9 → ¬ j = 10 → ¬ j = 11 → o.1.1 j = μ.1 j) ∧ o.1.2 = μ.2 ∧ o.1.1 9 = (hj_c st (10 * x1.toNatClampNeg) kp t).1 ∧ (o.1.1 10 x1.toNatClampNeg).toInt = ((hj_c st (10 * x1.toNatClampNeg) kp t).2 : Int) ∧ (∀ q, ¬ q = x1.toNatClampNeg → o.1.1 10 q = μ.1 10 q) ∧ o.2 = μ.1 10 x1.toNatClampNeg - o.1.1 10 x1.toNatClampNeg ∧
    hj_M (μ.1 7) (o.1.1 7) 3 (fun j => ∃ k : Nat, k + 0 < t ∧ hj_k w b t x2 k ∧ (st (10 * x1.toNatClampNeg + k)).toNatClampNeg = j) ∧ hj_M (μ.1 8) (o.1.1 8) (-1) (fun j => ∃ k : Nat, k + 0 < t ∧ hj_k w b t x2 k ∧ (st (10 * x1.toNatClampNeg + k)).toNatClampNeg = j) := by
  intro n
  induction n with
  | zero => intro μ x3 o hw hb hs ht h0 h1 hk h; cases h
  | succ n ih =>
    intro μ x3 o hw hb hs ht h0 h1 hk h
    have nx := hs_tn h0
    unfold fX10_meets_2 at h
    obtain ⟨_, v1, e1, h⟩ := hy_ga_some h
    have hv1 : v1.toInt = (t : Int) := by rw [e1]; exact ht
    by_cases c : v1 ≤ x3
    · rw [if_pos c] at h
      have c1 : v1.toInt ≤ x3.toInt := hi_le.mp c
      have e : x3.toNatClampNeg = t := by omega
      rw [e] at hk
      obtain ⟨_, v5, e5, h⟩ := hy_ga_some h
      have hv5 : v5.toInt = (t : Int) := by rw [e5]; exact ht
      obtain ⟨q1, q2, q3, q4, q5, q6, q7, q8⟩ := hj_m8 p0 p1 t10 (st := st) (br := μ.1 11) (kp := fun k => decide (μ.1 11 k = 0)) (fun _ => rfl) hv5 hy_fu μ 0 0 o (by decide) (show (0 : Int) ≤ (t : Int) by omega) rfl (by rw [hs]; rfl) rfl h
      have iff : ∀ j, (∃ k : Nat, k + 0 < t ∧ hj_k w b t x2 k ∧ (st (10 * x1.toNatClampNeg + k)).toNatClampNeg = j) ↔ (∃ k : Nat, (0 : Int32).toNatClampNeg ≤ k ∧ k < t ∧ ¬ μ.1 11 k = 0 ∧ (st (10 * x1.toNatClampNeg + k)).toNatClampNeg = j) := by
        intro j
        refine ⟨fun ⟨k, z1, z2, z3⟩ => ⟨k, Nat.zero_le _, by omega, fun z => (hk k (by omega)).mp z z2, z3⟩, fun ⟨k, _, z1, z2, z3⟩ => ⟨k, by omega, ?_, z3⟩⟩
        by_cases z : hj_k w b t x2 k
        · exact z
        · exact absurd ((hk k z1).mpr z) z2
      refine ⟨fun k => decide (μ.1 11 k = 0), fun k hk2 => ?_, fun j j1 j2 j3 j4 _ => q1 j j1 j2 j3 j4, q2, q3, q4, q5, ?_, hj_Msame q7 iff, hj_Msame q8 iff⟩
      · rw [decide_eq_true_iff]
        exact hk k hk2
      · rw [q6, e5]
    · rw [if_neg c] at h
      have c1 := hi_nle c
      obtain ⟨_, v8, e8, h⟩ := hy_ga_some h
      rw [(hj_ix p0 p1 h0 (by omega)).1] at e8
      obtain ⟨_, v11, e11, h⟩ := hy_ga_some h
      obtain ⟨_, v14, e14, h⟩ := hy_ga_some h
      have hv14 : v14 = b x3.toNatClampNeg := by
        rw [e14, e11, e8, hb]
        rfl
      obtain ⟨σ17, v18, e17, h⟩ := hy_bd_some h
      have q := hj_abv p0 p1 ht t10 hw h0 (by omega) e17
      have q1 : σ17 = μ := congrArg Prod.fst q
      have q2 : v18 = hj_T w t (t - 1 - x3.toNatClampNeg) := congrArg Prod.snd q
      rw [q1, q2, hv14] at h
      obtain ⟨g1, g2⟩ := hj_p1 h0 (by omega)
      have step : ∀ (s : Int32), (s = 0 ↔ ¬ hj_k w b t x2 x3.toNatClampNeg) → fX10_meets_2 n (hy_sc μ 11 (upd (μ.1 11) x3.toNatClampNeg s)) x1 x2 (x3 + 1) = some o → ∃ kp : Nat → Bool, (∀ k, k < t → (kp k = true ↔ ¬ hj_k w b t x2 k)) ∧ (∀ j, ¬ j = 7 → ¬ j = 8 → ¬ j = 9 → ¬ j = 10 → ¬ j = 11 → o.1.1 j = μ.1 j) ∧ o.1.2 = μ.2 ∧ o.1.1 9 = (hj_c st (10 * x1.toNatClampNeg) kp t).1 ∧ (o.1.1 10 x1.toNatClampNeg).toInt = ((hj_c st (10 * x1.toNatClampNeg) kp t).2 : Int) ∧ (∀ q, ¬ q = x1.toNatClampNeg → o.1.1 10 q = μ.1 10 q) ∧ o.2 = μ.1 10 x1.toNatClampNeg - o.1.1 10 x1.toNatClampNeg ∧ hj_M (μ.1 7) (o.1.1 7) 3 (fun j => ∃ k : Nat, k + 0 < t ∧ hj_k w b t x2 k ∧ (st (10 * x1.toNatClampNeg + k)).toNatClampNeg = j) ∧ hj_M (μ.1 8) (o.1.1 8) (-1) (fun j => ∃ k : Nat, k + 0 < t ∧ hj_k w b t x2 k ∧ (st (10 * x1.toNatClampNeg + k)).toNatClampNeg = j) := by
        intro s hs2 h
        obtain ⟨kp, r1, r2, r3⟩ := ih (hy_sc μ 11 (upd (μ.1 11) x3.toNatClampNeg s)) (x3 + 1) o hw hb hs ht (by rw [g1]; omega) (by rw [g1]; omega) (by
          intro k hk2
          rw [g2] at hk2
          show upd (μ.1 11) x3.toNatClampNeg s k = 0 ↔ _
          by_cases ek : k = x3.toNatClampNeg
          · rw [ek, hs_upds]
            exact hs2
          · rw [hs_upd ek]
            exact hk k (by omega)) h
        refine ⟨kp, r1, fun j j1 j2 j3 j4 j5 => ?_, r3⟩
        rw [r2 j j1 j2 j3 j4 j5]
        show (if j = 11 then _ else μ.1 j) = μ.1 j
        rw [if_neg j5]
      by_cases c2 : hj_T w t (t - 1 - x3.toNatClampNeg) ≤ b x3.toNatClampNeg - (b x3.toNatClampNeg * x2 + 99) / 100
      · rw [if_pos c2] at h
        unfold fX10_meets_67 at h
        obtain ⟨_, σ1, e, h⟩ := hy_pa_some h
        rw [e] at h
        exact step _ ⟨fun _ z => z c2, fun _ => by decide⟩ h
      · rw [if_neg c2] at h
        unfold fX10_meets_67 at h
        obtain ⟨_, σ1, e, h⟩ := hy_pa_some h
        rw [e] at h
        exact step _ ⟨fun z => absurd z (by decide), fun z => absurd c2 z⟩ h
theorem hj_Pstorm {pl pi st ht pl2 pi2 ht2 : Nat → Int32} {h t : Nat} {B : Nat → Prop} {kp : Nat → Bool} (h24 : h < 24) (h10 : ∀ p, (ht p).toInt ≤ 10) (t10 : t ≤ 10) (ht1 : (ht h).toInt = (t : Int)) (hP : hj_P pl pi st ht) (hB : ∀ k, k < t → (kp k = true ↔ ¬ B k)) (m1 : hj_M pl pl2 3 (fun j => ∃ k : Nat, k + 0 < t ∧ B k ∧ (st (10 * h + k)).toNatClampNeg = j)) (m2 : hj_M pi pi2 (-1) (fun j => ∃ k : Nat, k + 0 < t ∧ B k ∧ (st (10 * h + k)).toNatClampNeg = j)) (hh : (ht2 h).toInt = ((hj_c st (10 * h) kp t).2 : Int)) (ho : ∀ q, ¬ q = h → ht2 q = ht q) : hj_P pl2 pi2 (hj_c st (10 * h) kp t).1 ht2 := by
  obtain ⟨f, f1, f2⟩ := hj_cidx (st := st) (base := 10 * h) (kp := kp) t
  have cell : ∀ p k : Nat, p < 24 → ¬ p = h → (k : Int) < (ht p).toInt → (hj_c st (10 * h) kp t).1 (10 * p + k) = st (10 * p + k) := by
    intro p k hp e hk
    have := h10 p
    exact (hj_cle t).2 _ (by omega)
  have out : ∀ p k : Nat, p < 24 → ¬ p = h → (k : Int) < (ht p).toInt → ¬ ∃ q : Nat, q + 0 < t ∧ B q ∧ (st (10 * h + q)).toNatClampNeg = (st (10 * p + k)).toNatClampNeg := by
    intro p k hp e hk ⟨q, z1, _, z2⟩
    have a := (hP.1 p k hp hk).2
    have b := (hP.1 h q h24 (by omega)).2
    rw [z2] at b
    omega
  have keep : ∀ k : Nat, k < t → kp k = true → ¬ ∃ q : Nat, q + 0 < t ∧ B q ∧ (st (10 * h + q)).toNatClampNeg = (st (10 * h + k)).toNatClampNeg := by
    intro k hk z ⟨q, z1, z2, z3⟩
    rcases Nat.lt_trichotomy q k with c | c | c
    · exact hP.2 h q k h24 c (by omega) z3
    · rw [c] at z2
      exact (hB k hk).mp z z2
    · exact hP.2 h k q h24 c (by omega) z3.symm
  refine ⟨fun p k hp hk => ?_, fun p k q hp hkq hq => ?_⟩
  · by_cases e : p = h
    · subst e
      rw [hh] at hk
      obtain ⟨a1, a2, a3⟩ := f1 k (by omega)
      rw [a3, (m1 _).2 (keep _ a1 a2), (m2 _).2 (keep _ a1 a2)]
      exact hP.1 p _ hp (by omega)
    · rw [ho p e] at hk
      rw [cell p k hp e hk, (m1 _).2 (out p k hp e hk), (m2 _).2 (out p k hp e hk)]
      exact hP.1 p k hp hk
  · by_cases e : p = h
    · subst e
      rw [hh] at hq
      obtain ⟨a1, a2, a3⟩ := f1 k (by omega)
      obtain ⟨b1, b2, b3⟩ := f1 q (by omega)
      rw [a3, b3]
      exact hP.2 p _ _ hp (f2 k q hkq (by omega)) (by omega)
    · rw [ho p e] at hq
      rw [cell p k hp e (by omega), cell p q hp e hq]
      exact hP.2 p k q hp hkq hq
theorem hj_meet {R : hy_S → Prop} {σ μ σ8 σ11 : hy_S} {P x2 v9 v12 : Int32} {o2 : hy_S × Int32} (hC : hc_I R σ) (hR : hj_R σ μ) (p0 : 0 ≤ P.toInt) (p1 : P.toInt < 24) (h1 : fX0_breakWeak σ P x2 = some (σ8, v9)) (h2 : fX0_closeGaps σ8 P = some (σ11, v12)) (h3 : fX10_meets μ P x2 = some o2) : hj_R σ11 o2.1 ∧ o2.2 = σ.1 12 P.toNatClampNeg - σ11.1 12 P.toNatClampNeg ∧ o2.1.2 = μ.2 := by
  have hA := hR.1
  have hF := hR.2.1
  have hD := hR.2.2.1
  have hN := hR.2.2.2.1
  have nP := hs_tn p0
  have b12 : (0 : Int) ≤ (σ.1 12 P.toNatClampNeg).toInt ∧ (σ.1 12 P.toNatClampNeg).toInt ≤ 10 := hC.1 12 _
  obtain ⟨t, et⟩ : ∃ t : Nat, (σ.1 12 P.toNatClampNeg).toInt = (t : Int) := ⟨(σ.1 12 P.toNatClampNeg).toInt.toNat, by omega⟩
  unfold fX0_breakWeak at h1
  obtain ⟨_, v1, f1, h1⟩ := hy_ga_some h1
  have hv1 : v1.toInt = (t : Int) := by rw [f1]; exact et
  have g : (v1 - 1).toInt = v1.toInt - 1 := hs_subk 1 rfl (by omega) (by omega)
  obtain ⟨k1, k2, k3⟩ := hj_bw p0 p1 (t := t) (by omega) hy_fu σ 0 (v1 - 1) 0 (σ8, v9) rfl rfl rfl (by rw [g]; omega) (by rw [g]; omega) rfl h1
  have s11 : σ8.1 11 = σ.1 11 := k1.1 11 (by decide) (by decide)
  have s12 : σ8.1 12 = σ.1 12 := k1.1 12 (by decide) (by decide)
  unfold fX0_closeGaps at h2
  obtain ⟨_, u1, g1, h2⟩ := hy_ga_some h2
  have hu1 : u1.toInt = (t : Int) := by rw [g1, s12]; exact et
  obtain ⟨_, σ4, e4, h2⟩ := hy_pa_some h2
  obtain ⟨c1, c2, c3, c4⟩ := hj_cg p0 p1 (t := t) (by omega) (st := σ.1 11) (pl := σ8.1 9) (kp := fun k => decide (σ8.1 9 (σ.1 11 (10 * P.toNatClampNeg + k)).toNatClampNeg = 1)) (fun _ => rfl) hu1 hy_fu σ4 0 (σ11, v12) (by decide) (show (0 : Int) ≤ (t : Int) by omega) (by rw [e4]; rfl) (by
    rw [e4, ← s11]
    rfl) (by
    rw [e4]
    exact hs_same _ _ _ _) h2
  unfold fX10_meets at h3
  have et2 : (μ.1 10 P.toNatClampNeg).toInt = (t : Int) := by rw [← hD.2.2.2.2]; exact et
  have ew : hj_w (μ.1 0) (μ.1 3) (μ.1 6) (μ.1 9) P.toNatClampNeg = hj_w (σ.1 2) (σ.1 5) (σ.1 8) (σ.1 11) P.toNatClampNeg := by rw [hA.1, hF.1, hD.1, hD.2.2.2.1]
  have eb : hj_b (μ.1 2) (μ.1 3) (μ.1 9) P.toNatClampNeg = hj_b (σ.1 4) (σ.1 5) (σ.1 11) P.toNatClampNeg := by rw [hA.2.2, hF.1, hD.2.2.2.1]
  obtain ⟨kq, r1, r2, r3, r4, r5, r6, r7, r8, r9⟩ := hj_m2 p0 p1 (t := t) (by omega) (st := σ.1 11) hy_fu μ 0 o2 ew.symm eb.symm hD.2.2.2.1 et2 (by decide) (show (0 : Int) ≤ (t : Int) by omega) (fun k hk => absurd hk (Nat.not_lt_zero _)) h3
  rw [← hD.2.1] at r8
  rw [← hD.2.2.1] at r9
  have hP := hR.2.2.2.2.2
  have eqk : ∀ k, k < t → decide (σ8.1 9 (σ.1 11 (10 * P.toNatClampNeg + k)).toNatClampNeg = 1) = kq k := by
    intro k hk
    have in1 := (hP.1 P.toNatClampNeg k (by omega) (by omega)).1
    by_cases z : hj_k (hj_w (σ.1 2) (σ.1 5) (σ.1 8) (σ.1 11) P.toNatClampNeg) (hj_b (σ.1 4) (σ.1 5) (σ.1 11) P.toNatClampNeg) t x2 k
    · have y1 : ¬ kq k = true := fun y => (r1 k hk).mp y z
      rw [(k2 _).1 ⟨k, by omega, z, rfl⟩]
      cases hq : kq k with
      | true => exact absurd hq y1
      | false => rfl
    · have y1 : kq k = true := (r1 k hk).mpr z
      rw [y1]
      refine decide_eq_true ?_
      rw [(k2 _).2 ?_]
      · exact in1
      · intro ⟨q, z1, z2, z3⟩
        rcases Nat.lt_trichotomy q k with c | c | c
        · exact hP.2 P.toNatClampNeg q k (by omega) c (by omega) z3
        · rw [c] at z2
          exact z z2
        · exact hP.2 P.toNatClampNeg k q (by omega) c (by omega) z3.symm
  have ec := hj_ccong (st := σ.1 11) (base := 10 * P.toNatClampNeg) t eqk
  rw [ec] at c2 c3
  have j8 : ∀ j, ¬ j = 9 → ¬ j = 10 → ¬ j = 11 → ¬ j = 12 → σ11.1 j = σ.1 j := by
    intro j j1 j2 j3 j4
    rw [show σ11.1 j = σ4.1 j from c1.1 j j3 j4, e4]
    show (if j = 12 then _ else σ8.1 j) = σ.1 j
    rw [if_neg j4]
    exact k1.1 j j1 j2
  have w9 : σ11.1 9 = σ8.1 9 := by
    rw [show σ11.1 9 = σ4.1 9 from c1.1 9 (by decide) (by decide), e4]
    rfl
  have w10 : σ11.1 10 = σ8.1 10 := by
    rw [show σ11.1 10 = σ4.1 10 from c1.1 10 (by decide) (by decide), e4]
    rfl
  have w12 : ∀ q, ¬ q = P.toNatClampNeg → σ11.1 12 q = σ.1 12 q := by
    intro q hq
    rw [show σ11.1 12 q = σ4.1 12 q from c4 q hq, e4, ← s12]
    show upd (σ8.1 12) P.toNatClampNeg 0 q = σ8.1 12 q
    rw [hs_upd hq]
  have wi : σ11.2 = σ.2 := by
    rw [show σ11.2 = σ4.2 from c1.2, e4]
    exact k1.2
  have w11 : σ11.1 11 = (hj_c (σ.1 11) (10 * P.toNatClampNeg) kq t).1 := c2
  have wh : (σ11.1 12 P.toNatClampNeg).toInt = ((hj_c (σ.1 11) (10 * P.toNatClampNeg) kq t).2 : Int) := c3
  have e12 : σ11.1 12 = o2.1.1 10 := by
    funext q
    by_cases e : q = P.toNatClampNeg
    · rw [e]
      exact Int32.toInt_inj.mp (by rw [wh, r5])
    · rw [w12 q e, r6 q e, hD.2.2.2.2]
  have k2' : hj_M (σ.1 9) (σ8.1 9) 3 _ := k2
  have k3' : hj_M (σ.1 10) (σ8.1 10) (-1) _ := k3
  have e9 : σ8.1 9 = o2.1.1 7 := hj_Meq k2' r8 (fun _ => Iff.rfl)
  have e10 : σ8.1 10 = o2.1.1 8 := hj_Meq k3' r9 (fun _ => Iff.rfl)
  have hPn := hj_Pstorm (by omega) (fun p => (hC.1 12 p).2) (show t ≤ 10 by omega) et hP r1 k2' k3' wh w12
  refine ⟨⟨?_, ?_, ?_, ?_, ?_, ?_⟩, ?_, r3⟩
  · unfold hj_A
    rw [j8 2 (by decide) (by decide) (by decide) (by decide), j8 3 (by decide) (by decide) (by decide) (by decide), j8 4 (by decide) (by decide) (by decide) (by decide), r2 0 (by decide) (by decide) (by decide) (by decide) (by decide), r2 1 (by decide) (by decide) (by decide) (by decide) (by decide), r2 2 (by decide) (by decide) (by decide) (by decide) (by decide)]
    exact hA
  · unfold hj_F
    rw [j8 5 (by decide) (by decide) (by decide) (by decide), j8 6 (by decide) (by decide) (by decide) (by decide), j8 7 (by decide) (by decide) (by decide) (by decide), r2 3 (by decide) (by decide) (by decide) (by decide) (by decide), r2 4 (by decide) (by decide) (by decide) (by decide) (by decide), r2 5 (by decide) (by decide) (by decide) (by decide) (by decide)]
    exact hF
  · refine ⟨?_, ?_, ?_, ?_, e12⟩
    · rw [j8 8 (by decide) (by decide) (by decide) (by decide), r2 6 (by decide) (by decide) (by decide) (by decide) (by decide)]
      exact hD.1
    · rw [w9]
      exact e9
    · rw [w10]
      exact e10
    · rw [w11]
      exact r4.symm
  · unfold hj_N
    rw [wi, r3]
    exact hN
  · intro k hk
    rw [wi] at hk
    have hz := hR.2.2.2.2.1 k hk
    rw [j8 8 (by decide) (by decide) (by decide) (by decide), w9]
    refine ⟨hz.1, ?_⟩
    rw [(k2' k).2 ?_]
    · exact hz.2
    · intro ⟨q, z1, _, z2⟩
      have in1 := (hP.1 P.toNatClampNeg q (by omega) (by omega)).1
      rw [z2, hz.2] at in1
      exact absurd in1 (by decide)
  · rw [w9, w10, w11]
    exact hPn
  · rw [r7, ← hD.2.2.2.2, e12]
