/-! Agreeing and quarrelling on both sides. -/
theorem hg_Wc {e f : Nat → Nat → Int → Prop} (h : ∀ a b w, e a b w ↔ f a b w) : ∀ (n a b : Nat) (x : Int), hg_W e n a b x ↔ hg_W f n a b x := by
  intro n
  induction n with
  | zero => intro a b x; exact Iff.rfl
  | succ n ih =>
    intro a b x
    refine ⟨fun ⟨m, w, h1, h2⟩ => ⟨m, w, (ih a m _).mp h1, (h m b w).mp h2⟩, fun ⟨m, w, h1, h2⟩ => ⟨m, w, (ih a m _).mpr h1, (h m b w).mpr h2⟩⟩
theorem hg_rc2 {e f : Nat → Nat → Int → Prop} (h : ∀ a b w, e a b w ↔ f a b w) {k p : Nat} : hg_ring e k p ↔ hg_ring f k p := ⟨fun ⟨x, x0, x1⟩ => ⟨x, x0, (hg_Wc h k p p x).mp x1⟩, fun ⟨x, x0, x1⟩ => ⟨x, x0, (hg_Wc h k p p x).mpr x1⟩⟩
theorem hg_TM {R : hy_S → Prop} {σ μ : hy_S} (hC : hc_I R σ) (hR : ht_R σ μ) : hg_T μ (σ.2 8).toNatClampNeg := by
  obtain ⟨⟨A1, A2, A3, A4, A5⟩, ⟨N1, N2⟩, E1, E2⟩ := hR
  have i8 : (0 : Int) ≤ (σ.2 8).toInt ∧ (σ.2 8).toInt ≤ 60 := hC.2.1 8
  have ns := hs_tn i8.1
  refine ⟨by omega, by rw [← N1]; omega, fun i hi => ?_, fun k => by rw [← A5]; exact E1 k⟩
  have b22 : (0 : Int) ≤ (σ.1 22 i).toInt ∧ (σ.1 22 i).toInt ≤ 12 := hC.1 22 i
  have b23 : (0 : Int) ≤ (σ.1 23 i).toInt ∧ (σ.1 23 i).toInt ≤ 12 := hC.1 23 i
  have n22 := hs_tn b22.1
  have n23 := hs_tn b23.1
  obtain ⟨q1, q2, q3⟩ := E2 i (by omega)
  rw [← A1, ← A2, ← A3]
  exact ⟨⟨(σ.1 22 i).toNatClampNeg, by omega, hv_of b22.1 (by omega)⟩, ⟨(σ.1 23 i).toNatClampNeg, by omega, hv_of b23.1 (by omega)⟩, q1, q2, q3⟩
/-- what is known on both sides is the same -/
theorem hg_link {R : hy_S → Prop} {σ μ : hy_S} {d : Int32} (hC : hc_I R σ) (hR : ht_R σ μ) {o : hy_S × Int32} (h : fX8_recall σ d = some o) : ∃ m, hg_ok o.1 m ∧ (∀ a b w, hg_e o.1 m a b w ↔ hg_EM μ (σ.2 8).toNatClampNeg d.toInt a b w) := by
  have hT := hg_TM hC hR
  obtain ⟨⟨A1, A2, A3, A4, A5⟩, ⟨N1, N2⟩, E1, E2⟩ := hR
  have i8 : (0 : Int) ≤ (σ.2 8).toInt ∧ (σ.2 8).toInt ≤ 60 := hC.2.1 8
  have ns := hs_tn i8.1
  obtain ⟨m, m1, m2, m3, m4, m5⟩ := hg_recall (n := (σ.2 8).toNatClampNeg) (by omega) (by omega) E1 h
  have k22 := m4 22 (by decide)
  have k23 := m4 23 (by decide)
  have k24 := m4 24 (by decide)
  have key : ∀ i j, j < (σ.2 8).toNatClampNeg → o.1.1 27 i = hv_i j → hg_A o.1 i = (μ.1 23 j).toNatClampNeg ∧ hg_B o.1 i = (μ.1 24 j).toNatClampNeg ∧ hg_Y o.1 i = (μ.1 25 j).toInt := by
    intro i j hj e
    unfold hg_A hg_B hg_Y
    rw [e, hv_iN (by omega), k22, k23, k24, A1, A2, A3]
    exact ⟨rfl, rfl, rfl⟩
  refine ⟨m, ⟨by omega, m2, fun i hi => ?_⟩, fun a b w => ⟨fun ⟨i, i1, i2, i3, i4⟩ => ?_, fun ⟨j, j1, j2, j3, j4, j5⟩ => ?_⟩⟩
  · obtain ⟨j, j1, j2, j3⟩ := m3.1 i hi
    obtain ⟨z1, z2, z3⟩ := key i j j1 j3
    obtain ⟨⟨p, p1, p2⟩, ⟨q, q1, q2⟩, _, y0, y1⟩ := hT.2.2.1 j j1
    rw [z1, z2, z3, p2, q2, hv_iN (by omega), hv_iN (by omega)]
    exact ⟨p1, q1, y0, y1⟩
  · obtain ⟨j, j1, j2, j3⟩ := m3.1 i i1
    obtain ⟨z1, z2, z3⟩ := key i j j1 j3
    refine ⟨j, j1, by rw [← A4, ← A5]; exact j2, by rw [← z1]; exact i2, by rw [← z2]; exact i3, by rw [← z3]; exact i4⟩
  · obtain ⟨i, i1, i2⟩ := m3.2 j j1 (by rw [A4, A5]; exact j2)
    obtain ⟨z1, z2, z3⟩ := key i j j1 i2
    exact ⟨i, i1, by rw [z1]; exact j3, by rw [z2]; exact j4, by rw [z3]; exact j5⟩
theorem hg_noN {e : Nat → Nat → Int → Prop} (he : ∀ a b w, e a b w → a < 13 ∧ b < 13) (h : ∀ k p, 1 ≤ k → k ≤ 13 → p < 13 → ¬ hg_ring e k p) : hg_N e := by
  intro n p x n1 n13 hw
  have p13 : p < 13 := by
    cases n with
    | zero => omega
    | succ n =>
      obtain ⟨m, w, _, h2⟩ := hw
      exact (he _ _ _ h2).2
  by_cases c : 0 < x
  · exact absurd ⟨x, c, hw⟩ (h n p n1 n13 p13)
  · omega
theorem hg_agree {R : hy_S → Prop} {σ μ : hy_S} {x1 : Int32} {o o2 : hy_S × Int32} (hC : hc_I R σ) (hR : ht_R σ μ) (h1 : fX9_agree σ x1 = some o) (h2 : fX10_agree μ x1 = some o2) : o2.2 = o.2 := by
  unfold fX9_agree at h1
  obtain ⟨β, v, e, h1⟩ := hy_bd_some h1
  obtain ⟨m, ok, ee⟩ := hg_link hC hR e
  have ok : hg_ok β m := ok
  have ee : ∀ a b w, hg_e β m a b w ↔ hg_EM μ (σ.2 8).toNatClampNeg x1.toInt a b w := ee
  obtain ⟨σ4, v5, e4, h1⟩ := hy_bd_some h1
  obtain ⟨_, h1⟩ := hy_ck_some h1
  obtain ⟨_, c⟩ := hg_cah ok e4
  have c : (v5 = 1 ∧ ∀ n p x, hg_W (hg_e β m) n p p x → x ≤ 0) ∨ (v5 = 0 ∧ ¬ hg_N (hg_e β m)) := c
  unfold fX10_agree at h2
  obtain ⟨ν, eν, h2⟩ := hy_pf_some h2
  obtain ⟨σ3, v4, e3, h2⟩ := hy_bd_some h2
  have hT : hg_T ν (σ.2 8).toNatClampNeg := by rw [eν]; exact hg_TM hC hR
  obtain ⟨_, _, _, q⟩ := hg_round hT e3
  rw [eν] at q
  have q : (v4 = 0 ∧ ∀ k p, 1 ≤ k → k ≤ 13 → p < 13 → ¬ hg_ring (hg_EM μ (σ.2 8).toNatClampNeg x1.toInt) k p) ∨ ∃ s p, v4 = hv_i s ∧ 2 ≤ s ∧ s ≤ 13 ∧ p < 13 ∧ hg_ring (hg_EM μ (σ.2 8).toNatClampNeg x1.toInt) s p ∧ ∀ k p, 1 ≤ k → k < s → p < 13 → ¬ hg_ring (hg_EM μ (σ.2 8).toNatClampNeg x1.toInt) k p := q
  rw [← Option.some.inj h1]
  rcases c with ⟨c1, c2⟩ | ⟨c1, c2⟩
  · rcases q with ⟨q1, q2⟩ | ⟨s, p, q1, s2, s13, p13, ⟨x, x0, x1⟩, _⟩
    · rw [if_pos q1] at h2
      rw [(hi_pr h2).2]
      exact c1.symm
    · have := c2 s p x ((hg_Wc ee s p p x).mpr x1)
      exfalso
      omega
  · rcases q with ⟨q1, q2⟩ | ⟨s, p, q1, s2, s13, p13, _, _⟩
    · exact absurd (hg_noN (hg_e13 ok) (fun k p k1 k2 k3 z => q2 k p k1 k2 k3 ((hg_rc2 ee).mp z))) c2
    · have n0 : ¬ v4 = 0 := fun z => by
        rw [q1] at z
        have := congrArg Int32.toInt z
        rw [hv_ii (by omega)] at this
        have : (s : Int) = 0 := this
        omega
      rw [if_neg n0] at h2
      rw [(hi_pr h2).2]
      exact c1.symm
theorem hg_quarrel {R : hy_S → Prop} {σ μ : hy_S} {x1 : Int32} {o o2 : hy_S × Int32} (hC : hc_I R σ) (hR : ht_R σ μ) (h1 : fX9_quarrel σ x1 = some o) (h2 : fX10_quarrel μ x1 = some o2) : o2.2 = o.2 := by
  unfold fX9_quarrel at h1
  obtain ⟨β, v, e, h1⟩ := hy_bd_some h1
  obtain ⟨m, ok, ee⟩ := hg_link hC hR e
  have ok : hg_ok β m := ok
  have ee : ∀ a b w, hg_e β m a b w ↔ hg_EM μ (σ.2 8).toNatClampNeg x1.toInt a b w := ee
  obtain ⟨σ4, v5, e4, h1⟩ := hy_bd_some h1
  obtain ⟨F4, c⟩ := hg_cah ok e4
  have F4 : hg_F β σ4 := F4
  have c : (v5 = 1 ∧ ∀ n p x, hg_W (hg_e β m) n p p x → x ≤ 0) ∨ (v5 = 0 ∧ ¬ hg_N (hg_e β m)) := c
  unfold fX10_quarrel at h2
  obtain ⟨ν, eν, h2⟩ := hy_pf_some h2
  obtain ⟨σ3, v4, e3, h2⟩ := hy_bd_some h2
  have hT : hg_T ν (σ.2 8).toNatClampNeg := by rw [eν]; exact hg_TM hC hR
  obtain ⟨_, _, _, q⟩ := hg_round hT e3
  rw [eν] at q
  have q : (v4 = 0 ∧ ∀ k p, 1 ≤ k → k ≤ 13 → p < 13 → ¬ hg_ring (hg_EM μ (σ.2 8).toNatClampNeg x1.toInt) k p) ∨ ∃ s p, v4 = hv_i s ∧ 2 ≤ s ∧ s ≤ 13 ∧ p < 13 ∧ hg_ring (hg_EM μ (σ.2 8).toNatClampNeg x1.toInt) s p ∧ ∀ k p, 1 ≤ k → k < s → p < 13 → ¬ hg_ring (hg_EM μ (σ.2 8).toNatClampNeg x1.toInt) k p := q
  rw [(hi_pr h2).2]
  rcases c with ⟨c1, c2⟩ | ⟨c1, c2⟩
  · rw [c1] at h1
    rw [if_neg (by decide)] at h1
    rw [(hi_pr h1).2]
    rcases q with ⟨q1, q2⟩ | ⟨s, p, q1, s2, s13, p13, ⟨x, x0, x1⟩, _⟩
    · exact q1
    · have := c2 s p x ((hg_Wc ee s p p x).mpr x1)
      exfalso
      omega
  · rw [c1] at h1
    rw [if_pos rfl] at h1
    obtain ⟨σ8, v9, e8, h1⟩ := hy_bd_some h1
    rw [(hi_pr h1).2]
    unfold fX8_fewestThatQuarrel at e8
    obtain ⟨_, r, r1, r2, r3, r4⟩ := hg_few ok hy_fu σ4 14 0 (σ8, v9) F4 (by omega) (by omega) (fun z => absurd z (by omega)) (fun q k hq => absurd hq (Nat.not_lt_zero _)) e8
    have r1 : v9 = hv_i r := r1
    rcases q with ⟨q1, q2⟩ | ⟨s, p, q1, s2, s13, p13, s4, s5⟩
    · exact absurd (hg_noN (hg_e13 ok) (fun k p k1 k2 k3 z => q2 k p k1 k2 k3 ((hg_rc2 ee).mp z))) c2
    · have le : r ≤ s := by
        by_cases z : r ≤ s
        · exact z
        · exact absurd ((hg_rc2 ee).mpr s4) (r4 p s p13 (by omega) (by omega))
      obtain ⟨ra, q, q13, rq⟩ := r3 (by omega)
      have ge : s ≤ r := by
        by_cases z : s ≤ r
        · exact z
        · exact absurd ((hg_rc2 ee).mp rq) (s5 r q ra (by omega) q13)
      rw [q1, r1, show s = r by omega]
