/-! What is seen of a jar. -/
theorem hj_wa {σ : hy_S} {x1 x2 : Int32} (p0 : 0 ≤ x2.toInt) (p1 : x2.toInt < 24) {t : Nat} (t10 : t ≤ 10) {w : Nat → Int32} (hw : w = hj_w (σ.1 2) (σ.1 5) (σ.1 8) (σ.1 11) x2.toNatClampNeg) {k0 : Nat} (hk0 : σ.1 11 (10 * x2.toNatClampNeg + k0) = x1) (un : ∀ k, k0 < k → k < t → ¬ σ.1 11 (10 * x2.toNatClampNeg + k) = x1) : ∀ (n : Nat) (x3 x4 : Int32) (d : Nat) (o : hy_S × Int32), (k0 : Int) ≤ x4.toInt → x4.toInt + 1 + (d : Int) = (t : Int) → x3 = hj_T w t d → fX0_weightAbove_29 n σ x1 x2 x3 x4 = some o → o = (σ, hj_T w t (t - 1 - k0)) := by
  intro n
  induction n with
  | zero => intro x3 x4 d o h0 h1 h2 h; cases h
  | succ n ih =>
    intro x3 x4 d o h0 h1 h2 h
    unfold fX0_weightAbove_29 at h
    have c1 : ¬ x4 < 0 := fun c => by
      have : x4.toInt < 0 := Int32.lt_iff_toInt_lt.mp c
      omega
    rw [if_neg c1] at h
    have h0' : 0 ≤ x4.toInt := by omega
    have nx := hs_tn h0'
    obtain ⟨_, v2, e2, h⟩ := hy_ga_some h
    rw [(hj_ix p0 p1 h0' (by omega)).2] at e2
    by_cases c2 : v2 = x1
    · rw [if_pos c2] at h
      unfold fX0_weightAbove_75 at h
      have ek : x4.toNatClampNeg = k0 := by
        by_cases e : x4.toNatClampNeg = k0
        · exact e
        · exact absurd (by rw [← e2]; exact c2) (un x4.toNatClampNeg (by omega) (by omega))
      rw [← Option.some.inj h, h2, show t - 1 - k0 = d by omega]
    · rw [if_neg c2] at h
      have ek : ¬ x4.toNatClampNeg = k0 := fun e => c2 (by rw [e2, e]; exact hk0)
      obtain ⟨σ6, v7, e6, h⟩ := hy_bd_some h
      have e7 := hj_wc e6
      have e13 : v7 = w x4.toNatClampNeg := by
        rw [show v7 = hj_W (σ.1 2) (σ.1 5) (σ.1 8) v2.toNatClampNeg from congrArg Prod.snd e7, e2, hw]
        rfl
      rw [show σ6 = σ from congrArg Prod.fst e7] at h
      have g1 : (x4 + (-1)).toInt = x4.toInt + (-1) := hs_addk (-1) rfl (by omega) (by omega)
      refine ih (x3 + v7) (x4 + (-1)) (d + 1) o (by rw [g1]; omega) (by rw [g1]; omega) ?_ h
      show x3 + v7 = hj_T w t d + w (t - 1 - d)
      rw [show t - 1 - d = x4.toNatClampNeg by omega, ← e13, h2]
theorem hj_lk {μ : hy_S} {x1 p : Int32} (hp : μ.1 8 x1.toNatClampNeg = p) (p0 : 0 ≤ p.toInt) (p1 : p.toInt < 24) {t : Nat} (ht : (μ.1 10 p.toNatClampNeg).toInt = (t : Int)) (t10 : t ≤ 10) {w : Nat → Int32} (hw : w = hj_w (μ.1 0) (μ.1 3) (μ.1 6) (μ.1 9) p.toNatClampNeg) {k0 : Nat} (k10 : k0 < t) (hk0 : μ.1 9 (10 * p.toNatClampNeg + k0) = x1) (un : ∀ k, k < k0 → ¬ μ.1 9 (10 * p.toNatClampNeg + k) = x1) : ∀ (n : Nat) (x3 : Int32) (o : hy_S × Int32), 0 ≤ x3.toInt → x3.toInt ≤ (k0 : Int) → fX10_look_172 n μ x1 x3 = some o → o = (μ, hj_T w t (t - 1 - k0)) := by
  intro n
  induction n with
  | zero => intro x3 o h0 h1 h; cases h
  | succ n ih =>
    intro x3 o h0 h1 h
    have nx := hs_tn h0
    unfold fX10_look_172 at h
    obtain ⟨_, v1, e1, h⟩ := hy_ga_some h
    rw [hp] at e1
    obtain ⟨_, v4, e4, h⟩ := hy_ga_some h
    rw [e1, (hj_ix p0 p1 h0 (by omega)).1] at e4
    by_cases c2 : v4 = x1
    · rw [if_pos c2] at h
      have ek : x3.toNatClampNeg = k0 := by
        by_cases e : x3.toNatClampNeg = k0
        · exact e
        · exact absurd (by rw [← e4]; exact c2) (un x3.toNatClampNeg (by omega))
      obtain ⟨_, v8, e8, h⟩ := hy_ga_some h
      rw [hp] at e8
      rw [e8] at h
      obtain ⟨σ11, v12, e11, h⟩ := hy_bd_some h
      have q := hj_abv p0 p1 ht t10 hw h0 (by omega) e11
      rw [← Option.some.inj h, q, ek]
    · rw [if_neg c2] at h
      have ek : ¬ x3.toNatClampNeg = k0 := fun e => c2 (by rw [e4, e]; exact hk0)
      obtain ⟨g1, g2⟩ := hj_p1 h0 (by omega)
      exact ih (x3 + 1) o (by rw [g1]; omega) (by rw [g1]; omega) h
theorem hj_look {R S : hy_S → Prop} {σ μ : hy_S} {x1 x2 : Int32} {o : hy_O} {o2 : hy_S × Int32} (hC : hc_I R σ) (hM : hm_I S μ) (hR : hj_R σ μ) (h1 : fX9_look σ x1 x2 = some o) (h2 : fX10_look μ x1 x2 = some o2) : hj_R o.1 o2.1 ∧ ((o.2.2 = 0 ∧ o2.1.2 0 = 0) ∨ (o.2.2 = 1 ∧ o2.1.2 0 = 1) ∨ (o.2.2 = 4 ∧ o2.1.2 0 = 2)) ∧ (o.2.2 = 0 → o2.2 = o.2.1) := by
  have hA := hR.1
  have hF := hR.2.1
  have hD := hR.2.2.1
  have hN := hR.2.2.2.1
  have i4 : (0 : Int) ≤ (σ.2 4).toInt ∧ (σ.2 4).toInt ≤ 60 := hC.2.1 4
  have n4 : (σ.2 4).toInt = (μ.2 2).toInt := by rw [hN.2.1]
  unfold fX9_look at h1
  unfold fX10_look at h2
  obtain ⟨ν, eν, h2⟩ := hy_pf_some h2
  have b2 : ν.2 2 = μ.2 2 := by rw [eν]; rfl
  have n1 : ν.1 = μ.1 := by rw [eν]; rfl
  rcases hi_nj (by rw [b2]; omega) h2 with ⟨c1, c2, h2⟩ | ⟨c1, h2⟩
  · have h2 := hi_t0 h2
    rw [if_pos rfl] at h2
    rw [b2] at c2
    rcases hi_ix h1 with ⟨a1, a2, h1⟩ | ⟨a1, h1⟩
    · have fin : ∀ v : Int32, o = (σ, v, 0) → o2 = (ν, v) → hj_R o.1 o2.1 ∧ ((o.2.2 = 0 ∧ o2.1.2 0 = 0) ∨ (o.2.2 = 1 ∧ o2.1.2 0 = 1) ∨ (o.2.2 = 4 ∧ o2.1.2 0 = 2)) ∧ (o.2.2 = 0 → o2.2 = o.2.1) := by
        intro v z1 z2
        rw [z1, z2, eν]
        exact ⟨hj_t1 hR, Or.inl ⟨rfl, rfl⟩, fun _ => rfl⟩
      have row : ∀ {j q : Nat}, σ.1 j = μ.1 q → hy_ga σ j 60 x1 (fun v => some (σ, v, 0)) = some o → hy_ga ν q 60 x1 (fun v => some (ν, v)) = some o2 → hj_R o.1 o2.1 ∧ ((o.2.2 = 0 ∧ o2.1.2 0 = 0) ∨ (o.2.2 = 1 ∧ o2.1.2 0 = 1) ∨ (o.2.2 = 4 ∧ o2.1.2 0 = 2)) ∧ (o.2.2 = 0 → o2.2 = o.2.1) := by
        intro j q e z1 z2
        obtain ⟨_, v, f, z1⟩ := hy_ga_some z1
        obtain ⟨_, w, g, z2⟩ := hy_ga_some z2
        rw [n1, ← e, ← f] at g
        exact fin v (Option.some.inj z1).symm (by rw [← Option.some.inj z2, g])
      have b10 : (-1 : Int) ≤ (σ.1 10 x1.toNatClampNeg).toInt ∧ (σ.1 10 x1.toNatClampNeg).toInt ≤ 23 := hC.1 10 _
      by_cases d0 : x2 = 0
      · rw [if_pos d0] at h1 h2
        exact row hD.2.1 h1 h2
      · rw [if_neg d0] at h1 h2
        by_cases d1 : x2 = 1
        · rw [if_pos d1] at h1 h2
          exact row hF.1 h1 h2
        · rw [if_neg d1] at h1 h2
          by_cases d2 : x2 = 2
          · rw [if_pos d2] at h1 h2
            exact row hF.2.1 h1 h2
          · rw [if_neg d2] at h1 h2
            by_cases d3 : x2 = 3
            · rw [if_pos d3] at h1 h2
              exact row hF.2.2 h1 h2
            · rw [if_neg d3] at h1 h2
              by_cases d4 : x2 = 4
              · rw [if_pos d4] at h1 h2
                exact row hD.1 h1 h2
              · rw [if_neg d4] at h1 h2
                by_cases d5 : x2 = 5
                · rw [if_pos d5] at h1 h2
                  obtain ⟨τ, v, e, h1⟩ := hy_bd_some h1
                  obtain ⟨τ2, v2, e2, h2⟩ := hy_bd_some h2
                  have q := hj_wc e
                  have q2 := hj_wm e2
                  rw [n1, ← hA.1, ← hF.1, ← hD.1] at q2
                  refine fin (hj_W (σ.1 2) (σ.1 5) (σ.1 8) x1.toNatClampNeg) ?_ ?_
                  · rw [← Option.some.inj h1, show τ = σ from congrArg Prod.fst q, show v = _ from congrArg Prod.snd q]
                  · rw [← Option.some.inj h2, q2]
                · rw [if_neg d5] at h1 h2
                  by_cases d6 : x2 = 6
                  · rw [if_pos d6] at h1 h2
                    obtain ⟨_, v, f, h1⟩ := hy_ga_some h1
                    obtain ⟨_, w, g, h2⟩ := hy_ga_some h2
                    rw [n1, ← hD.2.2.1, ← f] at g
                    rw [g] at h2
                    rw [← f] at b10
                    obtain ⟨τ, v3, e3, h1⟩ := hy_bd_some h1
                    unfold fX0_shipOf at e3
                    by_cases c : v = -1
                    · rw [if_pos c] at e3
                      rw [if_neg (by rw [c]; decide)] at h2
                      exact fin (-1) (by rw [← Option.some.inj h1, show τ = σ from (hi_pr e3).1, show v3 = -1 from (hi_pr e3).2]) (Option.some.inj h2).symm
                    · have c9 : ¬ v.toInt = -1 := hi_ne c
                      rw [if_neg c] at e3
                      rw [if_pos (show (0 : Int32) ≤ v from Int32.le_iff_toInt_le.mpr (show (0 : Int) ≤ v.toInt by omega))] at h2
                      obtain ⟨_, w2, g2, h2⟩ := hy_ga_some h2
                      rw [n1, ← hD.2.2.1, ← f] at g2
                      exact fin (v / 6) (by rw [← Option.some.inj h1, show τ = σ from (hi_pr e3).1, show v3 = v / 6 from (hi_pr e3).2]) (by rw [← Option.some.inj h2, g2])
                  · rw [if_neg d6] at h1 h2
                    by_cases d7 : x2 = 7
                    · rw [if_pos d7] at h1 h2
                      obtain ⟨_, v, f, h1⟩ := hy_ga_some h1
                      obtain ⟨_, w, g, h2⟩ := hy_ga_some h2
                      rw [n1, ← hD.2.2.1, ← f] at g
                      rw [g] at h2
                      rw [← f] at b10
                      obtain ⟨τ, v3, e3, h1⟩ := hy_bd_some h1
                      unfold fX0_holdOf at e3
                      by_cases c : v = -1
                      · rw [if_pos c] at e3
                        rw [if_neg (by rw [c]; decide)] at h2
                        exact fin (-1) (by rw [← Option.some.inj h1, show τ = σ from (hi_pr e3).1, show v3 = -1 from (hi_pr e3).2]) (Option.some.inj h2).symm
                      · have c9 : ¬ v.toInt = -1 := hi_ne c
                        rw [if_neg c] at e3
                        rw [if_pos (show (0 : Int32) ≤ v from Int32.le_iff_toInt_le.mpr (show (0 : Int) ≤ v.toInt by omega))] at h2
                        obtain ⟨_, w2, g2, h2⟩ := hy_ga_some h2
                        rw [n1, ← hD.2.2.1, ← f] at g2
                        exact fin (v - v / 6 * 6) (by rw [← Option.some.inj h1, show τ = σ from (hi_pr e3).1, show v3 = _ from (hi_pr e3).2]) (by rw [← Option.some.inj h2, g2])
                    · rw [if_neg d7] at h1 h2
                      by_cases d8 : x2 = 8
                      · rw [if_pos d8] at h1 h2
                        obtain ⟨τ, v3, e3, h1⟩ := hy_bd_some h1
                        unfold fX0_weightAbove at e3
                        obtain ⟨_, v, f, e3⟩ := hy_ga_some e3
                        obtain ⟨_, w, g, h2⟩ := hy_ga_some h2
                        rw [n1, ← hD.2.2.1, ← f] at g
                        rw [g] at h2
                        rw [← f] at b10
                        by_cases c : v = -1
                        · rw [if_pos c] at e3
                          rw [if_neg (by rw [c]; decide)] at h2
                          exact fin 0 (by rw [← Option.some.inj h1, show τ = σ from (hi_pr e3).1, show v3 = 0 from (hi_pr e3).2]) (Option.some.inj h2).symm
                        · have c9 : ¬ v.toInt = -1 := hi_ne c
                          have v0 : 0 ≤ v.toInt := by omega
                          have v24 : v.toInt < 24 := by omega
                          have nv := hs_tn v0
                          have nx := hs_tn a1
                          rw [if_neg c] at e3
                          rw [if_pos (show (0 : Int32) ≤ v from Int32.le_iff_toInt_le.mpr (show (0 : Int) ≤ v.toInt by omega))] at h2
                          obtain ⟨_, v5, f5, e3⟩ := hy_ga_some e3
                          have b12 : (0 : Int) ≤ (σ.1 12 v.toNatClampNeg).toInt ∧ (σ.1 12 v.toNatClampNeg).toInt ≤ 10 := hC.1 12 _
                          rw [← f5] at b12
                          obtain ⟨t, et⟩ : ∃ t : Nat, v5.toInt = (t : Int) := ⟨v5.toInt.toNat, by omega⟩
                          have g5 : (v5 - 1).toInt = v5.toInt - 1 := hs_subk 1 rfl (by omega) (by omega)
                          obtain ⟨k0, hk1, hk2⟩ := hM.2.2.1 x1.toNatClampNeg (by omega) (by rw [← hD.2.2.1, ← f]; exact v0)
                          rw [← hD.2.2.1, ← f] at hk1 hk2
                          rw [← hD.2.2.2.2, ← f5] at hk1
                          rw [← hD.2.2.2.1] at hk2
                          have hst : σ.1 11 (10 * v.toNatClampNeg + k0) = x1 := Int32.toInt_inj.mp (by rw [hk2]; exact nx)
                          have hP := hR.2.2.2.2.2
                          have q := hj_wa v0 v24 (t := t) (by omega) rfl hst (fun k z1 z2 z3 => hP.2 v.toNatClampNeg k0 k (by omega) z1 (by rw [← f5]; omega) (by rw [hst, z3])) hy_fu 0 (v5 - 1) 0 (τ, v3) (by rw [g5]; omega) (by rw [g5]; omega) rfl e3
                          have ew : hj_w (ν.1 0) (ν.1 3) (ν.1 6) (ν.1 9) v.toNatClampNeg = hj_w (σ.1 2) (σ.1 5) (σ.1 8) (σ.1 11) v.toNatClampNeg := by rw [n1, hA.1, hF.1, hD.1, hD.2.2.2.1]
                          have q2 := hj_lk (μ := ν) (x1 := x1) (p := v) (by rw [n1, ← hD.2.2.1]; exact f.symm) v0 v24 (t := t) (by rw [n1, ← hD.2.2.2.2, ← f5]; exact et) (by omega) ew.symm (k0 := k0) (by omega) (by rw [n1, ← hD.2.2.2.1]; exact hst) (fun k z1 z3 => by
                            rw [n1, ← hD.2.2.2.1] at z3
                            exact hP.2 v.toNatClampNeg k k0 (by omega) z1 (by rw [← f5]; omega) (by rw [hst, z3])) hy_fu 0 o2 (by decide) (show (0 : Int) ≤ (k0 : Int) by omega) h2
                          exact fin _ (by rw [← Option.some.inj h1, show τ = σ from congrArg Prod.fst q, show v3 = _ from congrArg Prod.snd q]) q2
                      · rw [if_neg d8] at h1 h2
                        obtain ⟨ν2, e2, h2⟩ := hy_pf_some h2
                        rw [← Option.some.inj h1, ← Option.some.inj h2, e2, eν]
                        exact ⟨hj_t2 hR, Or.inr (Or.inr ⟨rfl, rfl⟩), fun z => absurd z (Nat.succ_ne_zero _)⟩
    · exfalso
      omega
  · have h2 := hi_t1 h2
    rw [if_neg (by decide)] at h2
    rw [b2] at c1
    rcases hi_ix h1 with ⟨a1, a2, h1⟩ | ⟨a1, h1⟩
    · exfalso
      omega
    · obtain ⟨s1, s2⟩ := hi_pr h2
      refine ⟨?_, Or.inr (Or.inl ⟨by rw [h1], by rw [s1]; rfl⟩), fun z => ?_⟩
      · rw [s1, h1, eν]
        exact hj_t2 hR
      · rw [h1] at z
        exact absurd z (Nat.succ_ne_zero _)
