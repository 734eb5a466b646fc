/-! Loading, landing, and what stands in a stack. -/
theorem hj_put {R : hy_S → Prop} {σ : hy_S} {x1 x2 : Int32} {o : hy_S × Int32} (hC : hc_I R σ) (p0 : 0 ≤ x2.toInt) (p1 : x2.toInt < 24) {t : Nat} (ht : (σ.1 12 x2.toNatClampNeg).toInt = (t : Int)) {w b : Nat → Int32} (hw : w = hj_w (σ.1 2) (σ.1 5) (σ.1 8) (σ.1 11) x2.toNatClampNeg) (hb : b = hj_b (σ.1 4) (σ.1 5) (σ.1 11) x2.toNatClampNeg) (h : fX0_put σ x1 x2 = some o) :
    ((σ.1 9 x1.toNatClampNeg = 0 ∧ t < 10 ∧ ∀ k : Nat, k < t → hj_W (σ.1 2) (σ.1 5) (σ.1 8) x1.toNatClampNeg + hj_T w t (t - 1 - k) ≤ b k) ∧ o = (hy_sc (hy_sc (hy_sc (hy_sc σ 11 (upd (σ.1 11) (10 * x2.toNatClampNeg + t) x1)) 12 (upd (σ.1 12) x2.toNatClampNeg (σ.1 12 x2.toNatClampNeg + 1))) 9 (upd (σ.1 9) x1.toNatClampNeg 1)) 10 (upd (σ.1 10) x1.toNatClampNeg x2), 1)) ∨
    (¬ (σ.1 9 x1.toNatClampNeg = 0 ∧ t < 10 ∧ ∀ k : Nat, k < t → hj_W (σ.1 2) (σ.1 5) (σ.1 8) x1.toNatClampNeg + hj_T w t (t - 1 - k) ≤ b k) ∧ o = (σ, 0)) := by
  have b12 : (0 : Int) ≤ (σ.1 12 x2.toNatClampNeg).toInt ∧ (σ.1 12 x2.toNatClampNeg).toInt ≤ 10 := hC.1 12 _
  have t10 : t ≤ 10 := by omega
  unfold fX0_put at h
  obtain ⟨_, v1, e1, h⟩ := hy_ga_some h
  by_cases c1 : v1 = 0
  · rw [if_pos c1] at h
    obtain ⟨_, v5, e5, h⟩ := hy_ga_some h
    have hv5 : v5.toInt = (t : Int) := by rw [e5]; exact ht
    by_cases c2 : 10 ≤ v5
    · rw [if_pos c2] at h
      have c3 : (10 : Int) ≤ v5.toInt := hi_le.mp c2
      exact Or.inr ⟨fun z => absurd z.2.1 (by omega), (Option.some.inj h).symm⟩
    · rw [if_neg c2] at h
      have c3 : ¬ (10 : Int) ≤ v5.toInt := hi_nle c2
      obtain ⟨σ9, v10, e10, h⟩ := hy_bd_some h
      unfold fX0_canBear at e10
      obtain ⟨σ1, v2, e2, e10⟩ := hy_bd_some e10
      have q := hj_wc e2
      have q1 : σ1 = σ := congrArg Prod.fst q
      have q2 : v2 = hj_W (σ.1 2) (σ.1 5) (σ.1 8) x1.toNatClampNeg := congrArg Prod.snd q
      rw [q1] at e10
      obtain ⟨_, v4, e4, e10⟩ := hy_ga_some e10
      have hv4 : v4.toInt = (t : Int) := by rw [e4]; exact ht
      have g : (v4 - 1).toInt = v4.toInt - 1 := hs_subk 1 rfl (by omega) (by omega)
      obtain ⟨r1, r2⟩ := hj_cb p0 p1 t10 hw hb v2 hy_fu v2 (v4 - 1) 0 (σ9, v10) (by rw [g]; omega) (by rw [g]; omega) (by show v2 = v2 + 0; rw [Int32.add_zero]) e10
      have r1 : σ9 = σ := r1
      rcases r2 with ⟨f1, f2⟩ | ⟨f1, k, hk, f2⟩
      · have f1 : v10 = 1 := f1
        rw [r1, f1] at h
        rw [if_neg (by decide)] at h
        obtain ⟨σ13, v14, e13, h⟩ := hy_bd_some h
        unfold fX0_setTop at e13
        obtain ⟨_, u1, ue1, e13⟩ := hy_ga_some e13
        obtain ⟨_, σ4, ue4, e13⟩ := hy_pa_some e13
        obtain ⟨_, u7, ue7, e13⟩ := hy_ga_some e13
        obtain ⟨_, σ10, ue10, e13⟩ := hy_pa_some e13
        have y1 : σ13 = σ10 := (hi_pr e13).1
        obtain ⟨σ16, v17, e16, h⟩ := hy_bd_some h
        unfold fX1_move at e16
        obtain ⟨_, σa, ea, e16⟩ := hy_pa_some e16
        obtain ⟨_, σb, eb, e16⟩ := hy_pa_some e16
        have y2 : σ16 = σb := (hi_pr e16).1
        have hu1 : u1.toInt = (t : Int) := by rw [ue1]; exact ht
        have hu7 : u7 = σ.1 12 x2.toNatClampNeg := by rw [ue7, ue4]; rfl
        have ix : (x2 * 10 + u1).toNatClampNeg = 10 * x2.toNatClampNeg + t := by
          rw [(hj_ix p0 p1 (by omega) (by omega)).2]
          have := hs_tn (x := u1) (by omega)
          omega
        refine Or.inl ⟨⟨by rw [← e1]; exact c1, by omega, fun k hk => ?_⟩, ?_⟩
        · rw [← q2]
          exact f2 k (by omega)
        · rw [← Option.some.inj h, y2, eb, ea, y1, ue10, hu7, ue4, ix]
          rfl
      · have f1 : v10 = 0 := f1
        rw [r1, f1] at h
        rw [if_pos rfl] at h
        refine Or.inr ⟨fun z => f2 ?_, (Option.some.inj h).symm⟩
        rw [q2]
        exact z.2.2 k (by omega)
  · rw [if_neg c1] at h
    exact Or.inr ⟨fun z => c1 (by rw [e1]; exact z.1), (Option.some.inj h).symm⟩
theorem hj_lo {μ : hy_S} {x1 x4 : Int32} (p0 : 0 ≤ x4.toInt) (p1 : x4.toInt < 24) {t : Nat} (ht : (μ.1 10 x4.toNatClampNeg).toInt = (t : Int)) (t9 : t < 10) {w b : Nat → Int32} (hw : w = hj_w (μ.1 0) (μ.1 3) (μ.1 6) (μ.1 9) x4.toNatClampNeg) (hb : b = hj_b (μ.1 2) (μ.1 3) (μ.1 9) x4.toNatClampNeg) : ∀ (n : Nat) (x5 : Int32) (o : hy_S × Int32), 0 ≤ x5.toInt → x5.toInt ≤ (t : Int) → fX10_load_71 n μ x1 x4 x5 = some o →
    ((∀ k : Nat, x5.toNatClampNeg ≤ k → k < t → hj_T w t (t - 1 - k) + hj_W (μ.1 0) (μ.1 3) (μ.1 6) x1.toNatClampNeg ≤ b k) ∧ o = (hy_sc (hy_sc (hy_sc (hy_sc μ 9 (upd (μ.1 9) (10 * x4.toNatClampNeg + t) x1)) 10 (upd (μ.1 10) x4.toNatClampNeg (μ.1 10 x4.toNatClampNeg + 1))) 7 (upd (μ.1 7) x1.toNatClampNeg 1)) 8 (upd (μ.1 8) x1.toNatClampNeg x4), 1)) ∨
    ((∃ k : Nat, x5.toNatClampNeg ≤ k ∧ k < t ∧ ¬ hj_T w t (t - 1 - k) + hj_W (μ.1 0) (μ.1 3) (μ.1 6) x1.toNatClampNeg ≤ b k) ∧ o = (μ, 0)) := by
  intro n
  induction n with
  | zero => intro x5 o h0 h1 h; cases h
  | succ n ih =>
    intro x5 o h0 h1 h
    have nx := hs_tn h0
    unfold fX10_load_71 at h
    obtain ⟨_, v1, e1, h⟩ := hy_ga_some h
    have hv1 : v1.toInt = (t : Int) := by rw [e1]; exact ht
    by_cases c : v1 ≤ x5
    · rw [if_pos c] at h
      have c1 : v1.toInt ≤ x5.toInt := hi_le.mp c
      obtain ⟨_, v5, e5, h⟩ := hy_ga_some h
      obtain ⟨_, σ8, e8, h⟩ := hy_pa_some h
      obtain ⟨_, v11, e11, h⟩ := hy_ga_some h
      obtain ⟨_, σ14, e14, h⟩ := hy_pa_some h
      obtain ⟨_, σ17, e17, h⟩ := hy_pa_some h
      obtain ⟨_, σ20, e20, h⟩ := hy_pa_some h
      have hv5 : v5.toInt = (t : Int) := by rw [e5]; exact ht
      have hv11 : v11 = μ.1 10 x4.toNatClampNeg := by rw [e11, e8]; rfl
      have ix : (10 * x4 + v5).toNatClampNeg = 10 * x4.toNatClampNeg + t := by
        rw [(hj_ix p0 p1 (by omega) (by omega)).1]
        have := hs_tn (x := v5) (by omega)
        omega
      refine Or.inl ⟨fun k hk hk2 => absurd hk2 (by omega), ?_⟩
      rw [← Option.some.inj h, e20, e17, e14, hv11, e8, ix]
      rfl
    · rw [if_neg c] at h
      have c1 := hi_nle c
      obtain ⟨σ23, v24, e23, h⟩ := hy_bd_some h
      have q := hj_abv p0 p1 ht (by omega) hw h0 (by omega) e23
      have q1 : σ23 = μ := congrArg Prod.fst q
      have q2 : v24 = hj_T w t (t - 1 - x5.toNatClampNeg) := congrArg Prod.snd q
      rw [q1] at h
      obtain ⟨σ26, v27, e26, h⟩ := hy_bd_some h
      have q3 := hj_wm e26
      have q4 : σ26 = μ := congrArg Prod.fst q3
      have q5 : v27 = hj_W (μ.1 0) (μ.1 3) (μ.1 6) x1.toNatClampNeg := congrArg Prod.snd q3
      rw [q4] at h
      obtain ⟨_, v29, e29, h⟩ := hy_ga_some h
      obtain ⟨_, v32, e32, h⟩ := hy_ga_some h
      obtain ⟨_, v35, e35, h⟩ := hy_ga_some h
      have q6 : v35 = b x5.toNatClampNeg := by
        rw [e35, e32, e29, (hj_ix p0 p1 h0 (by omega)).1, hb]
        rfl
      obtain ⟨g1, g2⟩ := hj_p1 h0 (by omega)
      by_cases c2 : v24 + v27 ≤ v35
      · rw [if_pos c2] at h
        rcases ih (x5 + 1) o (by rw [g1]; omega) (by rw [g1]; omega) h with ⟨f1, f2⟩ | ⟨⟨k, hk1, hk2, f1⟩, f2⟩
        · refine Or.inl ⟨fun k hk hk2 => ?_, f2⟩
          by_cases ek : k = x5.toNatClampNeg
          · rw [ek, ← q2, ← q5, ← q6]
            exact c2
          · exact f1 k (by omega) hk2
        · exact Or.inr ⟨⟨k, by omega, hk2, f1⟩, f2⟩
      · rw [if_neg c2] at h
        refine Or.inr ⟨⟨x5.toNatClampNeg, Nat.le_refl _, by omega, ?_⟩, (Option.some.inj h).symm⟩
        rw [← q2, ← q5, ← q6]
        exact c2
theorem hj_pile {x y : Int32} {n : Int} (hn : n ≤ 4) (h0 : 0 ≤ x.toInt) (h1 : x.toInt < n) (h2 : 0 ≤ y.toInt) (h3 : y.toInt < 6) : 6 * x + y = x * 6 + y ∧ 0 ≤ (x * 6 + y).toInt ∧ (x * 6 + y).toInt < 24 := by
  have f2 : (x * 6).toInt = x.toInt * 6 := hs_mulr 6 rfl (by omega) (by omega)
  have f3 : (x * 6 + y).toInt = x.toInt * 6 + y.toInt := by rw [hs_add (by rw [f2]; omega) (by rw [f2]; omega), f2]
  refine ⟨by rw [Int32.mul_comm], ?_, ?_⟩
  · rw [f3]; omega
  · rw [f3]; omega
theorem hj_load {R : hy_S → Prop} {σ μ : hy_S} {x1 x2 x3 : Int32} {o : hy_O} {o2 : hy_S × Int32} (hC : hc_I R σ) (hR : hj_R σ μ) (h1 : fX9_load σ x1 x2 x3 = some o) (h2 : fX10_load μ x1 x2 x3 = some o2) : hj_R o.1 o2.1 ∧ ((o.2.2 = 0 ∧ o2.1.2 0 = 0) ∨ (o.2.2 = 1 ∧ o2.1.2 0 = 1)) ∧ (o.2.2 = 0 → o2.2 = o.2.1) := by
  have hA := hR.1
  have hF := hR.2.1
  have hD := hR.2.2.1
  have hN := hR.2.2.2.1
  have i4 : (0 : Int) ≤ (σ.2 4).toInt ∧ (σ.2 4).toInt ≤ 60 := hC.2.1 4
  have i5 : (0 : Int) ≤ (σ.2 5).toInt ∧ (σ.2 5).toInt ≤ 4 := hC.2.1 5
  have n4 : (σ.2 4).toInt = (μ.2 2).toInt := by rw [hN.2.1]
  have n5 : (σ.2 5).toInt = (μ.2 3).toInt := by rw [hN.2.2]
  unfold fX9_load at h1
  unfold fX10_load at h2
  obtain ⟨ν, eν, h2⟩ := hy_pf_some h2
  have b2 : ν.2 2 = μ.2 2 := by rw [eν]; rfl
  have b3 : ν.2 3 = μ.2 3 := by rw [eν]; rfl
  have thr : ∀ {τ : hy_S}, τ = ν → fX10_load_23 τ x1 x2 x3 = some o2 → o = (σ, 0, 1) → hj_R o.1 o2.1 ∧ ((o.2.2 = 0 ∧ o2.1.2 0 = 0) ∨ (o.2.2 = 1 ∧ o2.1.2 0 = 1)) ∧ (o.2.2 = 0 → o2.2 = o.2.1) := by
    intro τ eτ h e
    unfold fX10_load_23 fX10_load_28 at h
    have h := hi_t1 h
    rw [if_neg (by decide)] at h
    obtain ⟨s1, s2⟩ := hi_pr h
    refine ⟨?_, Or.inr ⟨by rw [e], by rw [s1]; rfl⟩, fun z => ?_⟩
    · rw [s1, e, eτ, eν]
      exact hj_t2 hR
    · rw [e] at z
      exact absurd z (Nat.succ_ne_zero _)
  rcases hi_nj (by rw [b2]; omega) h2 with ⟨c1, c2, h2⟩ | ⟨c1, h2⟩
  · rw [if_pos rfl] at h2
    rw [b2] at c2
    rcases hi_ix h1 with ⟨a1, a2, h1⟩ | ⟨a1, h1⟩
    · rcases hi_nh (by rw [b3]; omega) h2 with ⟨c3, c4, c5, c6, h2⟩ | ⟨c3, h2⟩
      · rw [if_pos rfl] at h2
        rw [b3] at c4
        rcases hi_ho h1 with ⟨a3, a4, a5, a6, h1⟩ | ⟨a3, h1⟩
        · obtain ⟨pe, pp0, pp1⟩ := hj_pile (by omega) a3 a4 a5 a6
          unfold fX10_load_28 at h2
          have h2 := hi_t0 h2
          rw [if_pos rfl] at h2
          rw [pe] at h2
          obtain ⟨σ9, v10, e9, h1⟩ := hy_bd_some h1
          unfold fX0_pileOf at e9
          obtain ⟨u1, u2⟩ := hi_pr e9
          have u1 : σ9 = σ := u1
          have u2 : v10 = x2 * 6 + x3 := u2
          obtain ⟨σ12, v13, e12, h1⟩ := hy_bd_some h1
          obtain ⟨_, h1⟩ := hy_ck_some h1
          obtain ⟨p1, p2⟩ := hi_pr h1
          have p3 : o.2.1 = v13 := congrArg Prod.fst p2
          have p4 : o.2.2 = 0 := congrArg Prod.snd p2
          obtain ⟨P, eP⟩ : ∃ P, P = x2 * 6 + x3 := ⟨_, rfl⟩
          rw [u1, u2, ← eP] at e12
          rw [← eP] at h2 pp0 pp1
          have b12 : (0 : Int) ≤ (σ.1 12 P.toNatClampNeg).toInt ∧ (σ.1 12 P.toNatClampNeg).toInt ≤ 10 := hC.1 12 _
          obtain ⟨t, et⟩ : ∃ t : Nat, (σ.1 12 P.toNatClampNeg).toInt = (t : Int) := ⟨(σ.1 12 P.toNatClampNeg).toInt.toNat, by omega⟩
          have et2 : (μ.1 10 P.toNatClampNeg).toInt = (t : Int) := by rw [← hD.2.2.2.2]; exact et
          have q := hj_put hC pp0 pp1 et rfl rfl e12
          obtain ⟨_, v5, f5, h2⟩ := hy_ga_some h2
          have f5 : v5 = σ.1 9 x1.toNatClampNeg := by rw [f5, eν, hD.2.1]; rfl
          have no : o2 = (hy_si μ 0 0, 0) → o.1 = σ → v13 = 0 → hj_R o.1 o2.1 ∧ ((o.2.2 = 0 ∧ o2.1.2 0 = 0) ∨ (o.2.2 = 1 ∧ o2.1.2 0 = 1)) ∧ (o.2.2 = 0 → o2.2 = o.2.1) := by
            intro z1 z2 z3
            rw [z1, z2, p3, z3]
            exact ⟨hj_t1 hR, Or.inl ⟨p4, rfl⟩, fun _ => rfl⟩
          by_cases d1 : v5 = 0
          · rw [if_pos d1] at h2
            obtain ⟨_, v9, f9, h2⟩ := hy_ga_some h2
            have f9 : v9 = σ.1 12 P.toNatClampNeg := by rw [f9, eν, hD.2.2.2.2]; rfl
            by_cases d2 : v9 = 10
            · rw [if_pos d2] at h2
              have d3 : (σ.1 12 P.toNatClampNeg).toInt = 10 := by rw [← f9, d2]; rfl
              rcases q with ⟨q1, q2⟩ | ⟨q1, q2⟩
              · exact absurd q1.2.1 (by omega)
              · refine no ?_ ?_ (congrArg Prod.snd q2)
                · rw [← Option.some.inj h2, eν]
                · rw [p1]; exact congrArg Prod.fst q2
            · rw [if_neg d2] at h2
              have d3 : ¬ (σ.1 12 P.toNatClampNeg).toInt = 10 := by
                rw [← f9]
                exact hi_ne d2
              have t9 : t < 10 := by omega
              rw [eν] at h2
              have m := hj_lo (μ := hy_si μ 0 0) (x1 := x1) pp0 pp1 et2 t9 rfl rfl hy_fu 0 o2 (by decide) (show (0 : Int) ≤ (t : Int) by omega) h2
              have ew : hj_w ((hy_si μ 0 0).1 0) ((hy_si μ 0 0).1 3) ((hy_si μ 0 0).1 6) ((hy_si μ 0 0).1 9) P.toNatClampNeg = hj_w (σ.1 2) (σ.1 5) (σ.1 8) (σ.1 11) P.toNatClampNeg := by
                rw [hA.1, hF.1, hD.1, hD.2.2.2.1]; rfl
              have eb : hj_b ((hy_si μ 0 0).1 2) ((hy_si μ 0 0).1 3) ((hy_si μ 0 0).1 9) P.toNatClampNeg = hj_b (σ.1 4) (σ.1 5) (σ.1 11) P.toNatClampNeg := by
                rw [hA.2.2, hF.1, hD.2.2.2.1]; rfl
              have eW : hj_W ((hy_si μ 0 0).1 0) ((hy_si μ 0 0).1 3) ((hy_si μ 0 0).1 6) x1.toNatClampNeg = hj_W (σ.1 2) (σ.1 5) (σ.1 8) x1.toNatClampNeg := by
                rw [hA.1, hF.1, hD.1]; rfl
              rw [ew, eb, eW] at m
              rcases m with ⟨m1, m2⟩ | ⟨⟨k, _, m0, m1⟩, m2⟩
              · rcases q with ⟨q1, q2⟩ | ⟨q1, q2⟩
                · have z1 := congrArg Prod.fst q2
                  have z2 : v13 = 1 := congrArg Prod.snd q2
                  have z1 : o.1 = _ := p1.trans z1
                  have nx := hs_tn c1
                  refine ⟨?_, Or.inl ⟨p4, by rw [m2]; rfl⟩, fun _ => by rw [m2, p3, z2]⟩
                  rw [z1, m2]
                  refine ⟨hA, hF, ⟨hD.1, ?_, ?_, ?_, ?_⟩, hN, fun k hk => ?_, ?_⟩
                  · show upd (σ.1 9) x1.toNatClampNeg 1 = upd (μ.1 7) x1.toNatClampNeg 1
                    rw [hD.2.1]
                  · show upd (σ.1 10) x1.toNatClampNeg P = upd (μ.1 8) x1.toNatClampNeg P
                    rw [hD.2.2.1]
                  · show upd (σ.1 11) (10 * P.toNatClampNeg + t) x1 = upd (μ.1 9) (10 * P.toNatClampNeg + t) x1
                    rw [hD.2.2.2.1]
                  · show upd (σ.1 12) P.toNatClampNeg (σ.1 12 P.toNatClampNeg + 1) = upd (μ.1 10) P.toNatClampNeg (μ.1 10 P.toNatClampNeg + 1)
                    rw [hD.2.2.2.2]
                  · have hk : (σ.2 4).toInt ≤ (k : Int) := hk
                    have hz := hR.2.2.2.2.1 k hk
                    refine ⟨hz.1, ?_⟩
                    show upd (σ.1 9) x1.toNatClampNeg 1 k = 0
                    rw [hs_upd (by omega)]
                    exact hz.2
                  · exact hj_Pload hR.2.2.2.2.2 (fun p => (hC.1 12 p).2) pp0 pp1 et t9 (by rw [← f5]; exact d1)
                · exact absurd ⟨by rw [← f5]; exact d1, t9, fun k hk => by rw [Int32.add_comm]; exact m1 k (Nat.zero_le _) hk⟩ q1
              · rcases q with ⟨q1, q2⟩ | ⟨q1, q2⟩
                · exact absurd (by rw [Int32.add_comm]; exact q1.2.2 k m0) m1
                · refine no m2 ?_ (congrArg Prod.snd q2)
                  rw [p1]; exact congrArg Prod.fst q2
          · rw [if_neg d1] at h2
            rcases q with ⟨q1, q2⟩ | ⟨q1, q2⟩
            · exact absurd (by rw [f5]; exact q1.1) d1
            · refine no ?_ ?_ (congrArg Prod.snd q2)
              · rw [← Option.some.inj h2, eν]
              · rw [p1]; exact congrArg Prod.fst q2
        · exfalso
          omega
      · rw [if_neg (by decide)] at h2
        rw [b3] at c3
        rcases hi_ho h1 with ⟨a3, a4, a5, a6, h1⟩ | ⟨a3, h1⟩
        · exfalso
          omega
        · exact thr rfl h2 h1
    · exfalso
      omega
  · rw [if_neg (by decide)] at h2
    rw [b2] at c1
    rcases hi_ix h1 with ⟨a1, a2, h1⟩ | ⟨a1, h1⟩
    · exfalso
      omega
    · exact thr rfl h2 h1
theorem hj_jarAt {σ : hy_S} {x1 x2 : Int32} {o : hy_S × Int32} (p0 : 0 ≤ x1.toInt) (p1 : x1.toInt < 24) {t : Nat} (ht : (σ.1 12 x1.toNatClampNeg).toInt = (t : Int)) (t10 : t ≤ 10) (h : fX0_jarAt σ x1 x2 = some o) : (0 ≤ x2.toInt ∧ x2.toInt < (t : Int) ∧ o = (σ, σ.1 11 (10 * x1.toNatClampNeg + x2.toNatClampNeg))) ∨ ((x2.toInt < 0 ∨ (t : Int) ≤ x2.toInt) ∧ o = (σ, -1)) := by
  unfold fX0_jarAt fX0_jarAt_14 at h
  by_cases c : x2 < 0
  · rw [if_pos c] at h
    exact Or.inr ⟨Or.inl (Int32.lt_iff_toInt_lt.mp c), (Option.some.inj h).symm⟩
  · rw [if_neg c] at h
    have c1 : ¬ x2.toInt < 0 := hi_nlt c
    obtain ⟨_, v2, e2, h⟩ := hy_ga_some h
    have hv : v2.toInt = (t : Int) := by rw [e2]; exact ht
    by_cases c2 : x2 < v2
    · rw [if_pos c2] at h
      have c3 := Int32.lt_iff_toInt_lt.mp c2
      obtain ⟨_, v6, e6, h⟩ := hy_ga_some h
      rw [(hj_ix p0 p1 (by omega) (by omega)).2] at e6
      exact Or.inl ⟨by omega, by omega, by rw [← Option.some.inj h, e6]⟩
    · rw [if_neg c2] at h
      have c3 := hi_nlt c2
      exact Or.inr ⟨Or.inr (by omega), (Option.some.inj h).symm⟩
theorem hj_stack {R : hy_S → Prop} {σ μ : hy_S} {x1 x2 x3 : Int32} {o : hy_O} {o2 : hy_S × Int32} (hC : hc_I R σ) (hR : hj_R σ μ) (h1 : fX9_stack σ x1 x2 x3 = some o) (h2 : fX10_stack μ x1 x2 x3 = some o2) : hj_R o.1 o2.1 ∧ ((o.2.2 = 0 ∧ o2.1.2 0 = 0) ∨ (o.2.2 = 1 ∧ o2.1.2 0 = 1)) ∧ (o.2.2 = 0 → o2.2 = o.2.1) := by
  have hD := hR.2.2.1
  have hN := hR.2.2.2.1
  have i5 : (0 : Int) ≤ (σ.2 5).toInt ∧ (σ.2 5).toInt ≤ 4 := hC.2.1 5
  have n5 : (σ.2 5).toInt = (μ.2 3).toInt := by rw [hN.2.2]
  unfold fX9_stack at h1
  unfold fX10_stack at h2
  obtain ⟨ν, eν, h2⟩ := hy_pf_some h2
  have b3 : ν.2 3 = μ.2 3 := by rw [eν]; rfl
  rcases hi_nh (by rw [b3]; omega) h2 with ⟨c3, c4, c5, c6, h2⟩ | ⟨c3, h2⟩
  · have h2 := hi_t0 h2
    rw [if_pos rfl] at h2
    rw [b3] at c4
    rcases hi_ho h1 with ⟨a3, a4, a5, a6, h1⟩ | ⟨a3, h1⟩
    · obtain ⟨pe, pp0, pp1⟩ := hj_pile (by omega) a3 a4 a5 a6
      rw [pe] at h2
      obtain ⟨σ5, v6, e5, h1⟩ := hy_bd_some h1
      unfold fX0_pileOf at e5
      obtain ⟨u1, u2⟩ := hi_pr e5
      have u1 : σ5 = σ := u1
      have u2 : v6 = x1 * 6 + x2 := u2
      obtain ⟨P, eP⟩ : ∃ P, P = x1 * 6 + x2 := ⟨_, rfl⟩
      rw [← eP] at h2 pp0 pp1 u2
      rw [u1, u2] at h1
      obtain ⟨σ8, v9, e8, h1⟩ := hy_bd_some h1
      obtain ⟨p1, p2⟩ := hi_pr h1
      have p3 : o.2.1 = v9 := congrArg Prod.fst p2
      have p4 : o.2.2 = 0 := congrArg Prod.snd p2
      have b12 : (0 : Int) ≤ (σ.1 12 P.toNatClampNeg).toInt ∧ (σ.1 12 P.toNatClampNeg).toInt ≤ 10 := hC.1 12 _
      obtain ⟨t, et⟩ : ∃ t : Nat, (σ.1 12 P.toNatClampNeg).toInt = (t : Int) := ⟨(σ.1 12 P.toNatClampNeg).toInt.toNat, by omega⟩
      have q := hj_jarAt pp0 pp1 et (by omega) e8
      have q0 : σ8 = σ := by
        rcases q with ⟨_, _, q⟩ | ⟨_, q⟩
        · exact congrArg Prod.fst q
        · exact congrArg Prod.fst q
      obtain ⟨_, v10, f10, h2⟩ := hy_ga_some h2
      have f10 : v10.toInt = (t : Int) := by rw [f10, eν, ← et, hD.2.2.2.2]; rfl
      have g : (v10 - 1).toInt = v10.toInt - 1 := hs_subk 1 rfl (by omega) (by omega)
      have fin : o2.1 = ν → o2.2 = v9 → hj_R o.1 o2.1 ∧ ((o.2.2 = 0 ∧ o2.1.2 0 = 0) ∨ (o.2.2 = 1 ∧ o2.1.2 0 = 1)) ∧ (o.2.2 = 0 → o2.2 = o.2.1) := by
        intro z1 z2
        rw [z1, z2, p1, q0, p3, eν]
        exact ⟨hj_t1 hR, Or.inl ⟨p4, rfl⟩, fun _ => rfl⟩
      rcases hi_in h2 with ⟨d1, d2, h2⟩ | ⟨d1, h2⟩
      · rw [if_neg (by decide)] at h2
        rw [g] at d2
        have d1 : (0 : Int) ≤ x3.toInt := d1
        obtain ⟨_, v17, f17, h2⟩ := hy_ga_some h2
        rw [(hj_ix pp0 pp1 d1 (by omega)).1] at f17
        obtain ⟨s1, s2⟩ := hi_pr h2
        rcases q with ⟨_, _, q⟩ | ⟨q9, q⟩
        · refine fin s1 ?_
          rw [s2, f17, eν, show v9 = _ from congrArg Prod.snd q, hD.2.2.2.1]
          rfl
        · exfalso
          omega
      · rw [if_pos rfl] at h2
        obtain ⟨s1, s2⟩ := hi_pr h2
        rw [g] at d1
        have d1 : x3.toInt < (0 : Int) ∨ v10.toInt - 1 < x3.toInt := d1
        rcases q with ⟨q8, q9, q⟩ | ⟨_, q⟩
        · exfalso
          omega
        · exact fin s1 (by rw [s2]; exact (congrArg Prod.snd q).symm)
    · exfalso
      omega
  · have h2 := hi_t1 h2
    rw [if_neg (by decide)] at h2
    rw [b3] at c3
    obtain ⟨s1, s2⟩ := hi_pr h2
    rcases hi_ho h1 with ⟨a3, a4, a5, a6, h1⟩ | ⟨a3, h1⟩
    · exfalso
      omega
    · refine ⟨?_, Or.inr ⟨by rw [h1], by rw [s1]; rfl⟩, fun z => ?_⟩
      · rw [s1, h1, eν]
        exact hj_t2 hR
      · rw [h1] at z
        exact absurd z (Nat.succ_ne_zero _)
theorem hj_land {R : hy_S → Prop} {σ μ : hy_S} {x1 x2 : Int32} {o : hy_O} {o2 : hy_S × Int32} (hC : hc_I R σ) (hR : hj_R σ μ) (h1 : fX9_land σ x1 x2 = some o) (h2 : fX10_land μ x1 x2 = some o2) : hj_R o.1 o2.1 ∧ ((o.2.2 = 0 ∧ o2.1.2 0 = 0) ∨ (o.2.2 = 1 ∧ o2.1.2 0 = 1)) ∧ (o.2.2 = 0 → o2.2 = o.2.1) := by
  have hA := hR.1
  have hF := hR.2.1
  have hD := hR.2.2.1
  have hN := hR.2.2.2.1
  have i5 : (0 : Int) ≤ (σ.2 5).toInt ∧ (σ.2 5).toInt ≤ 4 := hC.2.1 5
  have n5 : (σ.2 5).toInt = (μ.2 3).toInt := by rw [hN.2.2]
  unfold fX9_land at h1
  unfold fX10_land at h2
  obtain ⟨ν, eν, h2⟩ := hy_pf_some h2
  have b3 : ν.2 3 = μ.2 3 := by rw [eν]; rfl
  rcases hi_nh (by rw [b3]; omega) h2 with ⟨c3, c4, c5, c6, h2⟩ | ⟨c3, h2⟩
  · have h2 := hi_t0 h2
    rw [if_pos rfl] at h2
    rw [b3] at c4
    rcases hi_ho h1 with ⟨a3, a4, a5, a6, h1⟩ | ⟨a3, h1⟩
    · obtain ⟨pe, pp0, pp1⟩ := hj_pile (by omega) a3 a4 a5 a6
      rw [pe] at h2
      obtain ⟨σ5, v6, e5, h1⟩ := hy_bd_some h1
      unfold fX0_pileOf at e5
      obtain ⟨u1, u2⟩ := hi_pr e5
      have u1 : σ5 = σ := u1
      have u2 : v6 = x1 * 6 + x2 := u2
      obtain ⟨P, eP⟩ : ∃ P, P = x1 * 6 + x2 := ⟨_, rfl⟩
      rw [← eP] at h2 pp0 pp1 u2
      rw [u1, u2] at h1
      obtain ⟨σ8, v9, e8, h1⟩ := hy_bd_some h1
      obtain ⟨p1, p2⟩ := hi_pr h1
      have p3 : o.2.1 = v9 := congrArg Prod.fst p2
      have p4 : o.2.2 = 0 := congrArg Prod.snd p2
      have b12 : (0 : Int) ≤ (σ.1 12 P.toNatClampNeg).toInt ∧ (σ.1 12 P.toNatClampNeg).toInt ≤ 10 := hC.1 12 _
      obtain ⟨t, et⟩ : ∃ t : Nat, (σ.1 12 P.toNatClampNeg).toInt = (t : Int) := ⟨(σ.1 12 P.toNatClampNeg).toInt.toNat, by omega⟩
      have nP := hs_tn pp0
      unfold fX0_takeTop at e8
      obtain ⟨_, v1, f1, e8⟩ := hy_ga_some e8
      have hv1 : v1.toInt = (t : Int) := by rw [f1]; exact et
      have g : (v1 - 1).toInt = v1.toInt - 1 := hs_subk 1 rfl (by omega) (by omega)
      obtain ⟨σ4, v5, e4, e8⟩ := hy_bd_some e8
      have q := hj_jarAt pp0 pp1 et (by omega) e4
      rw [g, hv1] at q
      obtain ⟨_, v10, f10, h2⟩ := hy_ga_some h2
      have hv10 : v10 = v1 := by rw [f10, eν, f1, hD.2.2.2.2]; rfl
      rcases q with ⟨q1, q2, q⟩ | ⟨q1, q⟩
      · have q3 : σ4 = σ := congrArg Prod.fst q
        have q4 : v5 = σ.1 11 (10 * P.toNatClampNeg + (v1 - 1).toNatClampNeg) := congrArg Prod.snd q
        have n1 := hs_tn (x := v1 - 1) (by rw [g]; omega)
        rw [g] at n1
        have n2 : (v1 - 1).toNatClampNeg = t - 1 := by omega
        rw [n2] at q4
        have b11 : (0 : Int) ≤ (σ.1 11 (10 * P.toNatClampNeg + (t - 1))).toInt ∧ (σ.1 11 (10 * P.toNatClampNeg + (t - 1))).toInt ≤ 59 := hC.1 11 _
        rw [← q4] at b11
        have d5 : ¬ v5 = -1 := fun z => by
          have : v5.toInt = -1 := by rw [z]; rfl
          omega
        rw [if_neg d5, q3] at e8
        obtain ⟨_, v8, f8, e8⟩ := hy_ga_some e8
        obtain ⟨_, σ11, f11, e8⟩ := hy_pa_some e8
        obtain ⟨σ14, v15, e14, e8⟩ := hy_bd_some e8
        unfold fX1_move at e14
        obtain ⟨_, σa, ea, e14⟩ := hy_pa_some e14
        obtain ⟨_, σb, eb, e14⟩ := hy_pa_some e14
        have y2 : σ14 = σb := (hi_pr e14).1
        unfold fX0_takeTop_39 at e8
        have y3 : σ8 = σ14 := (hi_pr e8).1
        have y4 : v9 = v5 := (hi_pr e8).2
        have d6 : ¬ v10 = 0 := fun z => by
          have : v10.toInt = 0 := by rw [z]; rfl
          rw [hv10] at this
          omega
        rw [if_neg d6] at h2
        obtain ⟨_, v14, g14, h2⟩ := hy_ga_some h2
        have g14 : v14 = v1 := by rw [g14, eν, f1, hD.2.2.2.2]; rfl
        obtain ⟨_, ν17, g17, h2⟩ := hy_pa_some h2
        obtain ⟨_, v20, g20, h2⟩ := hy_ga_some h2
        have g20 : v20 = v1 - 1 := by
          rw [g20, g17, g14]
          exact Int32.toInt_inj.mp (hs_same _ _ _ _)
        obtain ⟨_, v23, g23, h2⟩ := hy_ga_some h2
        have g23 : v23 = v5 := by
          rw [g23, g20, (hj_ix pp0 pp1 (by rw [g]; omega) (by rw [g]; omega)).1, n2, q4, g17, eν, hD.2.2.2.1]
          rfl
        obtain ⟨_, ν26, g26, h2⟩ := hy_pa_some h2
        obtain ⟨_, ν29, g29, h2⟩ := hy_pa_some h2
        obtain ⟨s1, s2⟩ := hi_pr h2
        have z1 : o.1 = hy_sc (hy_sc (hy_sc σ 12 (upd (σ.1 12) P.toNatClampNeg (v1 - 1))) 9 (upd (σ.1 9) v5.toNatClampNeg 2)) 10 (upd (σ.1 10) v5.toNatClampNeg (-1)) := by
          rw [p1, y3, y2, eb, ea, f11, show v8 = v1 by rw [f8, f1]]
          rfl
        have z2 : o2.1 = hy_sc (hy_sc (hy_sc (hy_si μ 0 0) 10 (upd (μ.1 10) P.toNatClampNeg (v1 - 1))) 7 (upd (μ.1 7) v5.toNatClampNeg 2)) 8 (upd (μ.1 8) v5.toNatClampNeg (-1)) := by
          rw [s1, g29, g26, g23, g17, g14, eν]
          rfl
        refine ⟨?_, Or.inl ⟨p4, by rw [z2]; rfl⟩, fun _ => by rw [p3, y4, s2, g23]⟩
        have in1 := (hR.2.2.2.2.2.1 P.toNatClampNeg (t - 1) (by omega) (by omega)).1
        rw [← q4] at in1
        rw [z1, z2]
        refine ⟨hA, hF, ⟨hD.1, ?_, ?_, hD.2.2.2.1, ?_⟩, hN, fun k hk => ?_, ?_⟩
        · show upd (σ.1 9) v5.toNatClampNeg 2 = upd (μ.1 7) v5.toNatClampNeg 2
          rw [hD.2.1]
        · show upd (σ.1 10) v5.toNatClampNeg (-1) = upd (μ.1 8) v5.toNatClampNeg (-1)
          rw [hD.2.2.1]
        · show upd (σ.1 12) P.toNatClampNeg (v1 - 1) = upd (μ.1 10) P.toNatClampNeg (v1 - 1)
          rw [hD.2.2.2.2]
        · have hk : (σ.2 4).toInt ≤ (k : Int) := hk
          have hz := hR.2.2.2.2.1 k hk
          refine ⟨hz.1, ?_⟩
          show upd (σ.1 9) v5.toNatClampNeg 2 k = 0
          rw [hs_upd ?_]
          · exact hz.2
          · intro e
            rw [← e, hz.2] at in1
            exact absurd in1 (by decide)
        · exact hj_Pland hR.2.2.2.2.2 (t := t - 1) (by omega) (by omega) (by rw [g]; omega) (by rw [q4])
      · have q3 : σ4 = σ := congrArg Prod.fst q
        have q4 : v5 = -1 := congrArg Prod.snd q
        rw [q3, q4] at e8
        rw [if_pos rfl] at e8
        unfold fX0_takeTop_39 at e8
        have y3 : σ8 = σ := (hi_pr e8).1
        have y4 : v9 = -1 := (hi_pr e8).2
        have d6 : v10 = 0 := by
          rw [hv10]
          exact Int32.toInt_inj.mp (show v1.toInt = 0 by omega)
        rw [if_pos d6] at h2
        obtain ⟨s1, s2⟩ := hi_pr h2
        refine ⟨?_, Or.inl ⟨p4, by rw [s1, eν]; rfl⟩, fun _ => by rw [p3, y4, s2]⟩
        rw [p1, y3, s1, eν]
        exact hj_t1 hR
    · exfalso
      omega
  · have h2 := hi_t1 h2
    rw [if_neg (by decide)] at h2
    rw [b3] at c3
    obtain ⟨s1, s2⟩ := hi_pr h2
    rcases hi_ho h1 with ⟨a3, a4, a5, a6, h1⟩ | ⟨a3, h1⟩
    · exfalso
      omega
    · refine ⟨?_, Or.inr ⟨by rw [h1], by rw [s1]; rfl⟩, fun z => ?_⟩
      · rw [s1, h1, eν]
        exact hj_t2 hR
      · rw [h1] at z
        exact absurd z (Nat.succ_ne_zero _)
