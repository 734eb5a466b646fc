/-! Joining, and what is told of vessels. -/
theorem hv_lt {a b : Nat} (ha : a < 4096) (hb : b < 4096) : hv_i a < hv_i b ↔ a < b := by
  rw [Int32.lt_iff_toInt_lt, hv_ii ha, hv_ii hb]
  omega
theorem hv_hg {f : Nat → Int32} {i n : Nat} {p q : Int32} (h : ∀ k, k < n → f k = q → i ≤ k) : hv_h f i n p q = hv_g f n p q := by
  funext k
  unfold hv_h hv_g
  by_cases c : k < n ∧ f k = q
  · rw [if_pos c, if_pos ⟨h k c.1 c.2, c⟩]
  · rw [if_neg c, if_neg (fun z => c z.2)]
theorem hv_sum {x y : Int32} {a b n : Nat} (ha : x.toInt = (a : Int)) (hb : y.toInt = (b : Int)) (la : a ≤ n) (lb : b ≤ n) (hn : n ≤ 60) : (x + y).toInt = x.toInt + y.toInt := hs_add (by omega) (by omega)
theorem hv_join {R : hy_S → Prop} {σ μ : hy_S} {x1 x2 : Int32} {o : hy_O} {o2 : hy_S × Int32} (hC : hc_I R σ) (hR : hv_R σ μ) (h1 : fX9_join σ x1 x2 = some o) (h2 : fX10_join μ x1 x2 = some o2) : hv_R o.1 o2.1 ∧ ((o.2.2 = 0 ∧ o2.1.2 0 = 0) ∨ (o.2.2 = 1 ∧ o2.1.2 0 = 1)) ∧ (o.2.2 = 0 → o2.2 = o.2.1) := by
  have i7 : (0 : Int) ≤ (σ.2 7).toInt ∧ (σ.2 7).toInt ≤ 60 := hC.2.1 7
  have ns := hs_tn i7.1
  have n7 : (σ.2 7).toInt = (μ.2 9).toInt := by rw [hR.1.2.2]
  unfold fX9_join at h1
  unfold fX10_join at h2
  obtain ⟨ν, eν, h2⟩ := hy_pf_some h2
  have b9 : ν.2 9 = μ.2 9 := by rw [eν]; rfl
  have n1 : ν.1 = μ.1 := by rw [eν]; rfl
  have hRν : hv_R σ ν := by rw [eν]; exact hv_t1 hR
  have thr : fX10_join_22 ν x1 x2 = some o2 → o = (σ, 0, 1) → hv_R o.1 o2.1 ∧ ((o.2.2 = 0 ∧ o2.1.2 0 = 0) ∨ (o.2.2 = 1 ∧ o2.1.2 0 = 1)) ∧ (o.2.2 = 0 → o2.2 = o.2.1) := by
    intro h e
    unfold fX10_join_22 fX10_join_27 at h
    have h := hi_t1 h
    rw [if_neg (by decide)] at h
    obtain ⟨s1, s2⟩ := hi_pr h
    refine ⟨?_, Or.inr ⟨by rw [e], by rw [s1]; rfl⟩, fun z => ?_⟩
    · rw [s1, e, eν]
      exact hv_t2 hR
    · rw [e] at z
      exact absurd z (Nat.succ_ne_zero _)
  rcases hi_ns (by rw [b9]; omega) h2 with ⟨c1, c2, h2⟩ | ⟨c1, h2⟩
  · rw [if_pos rfl] at h2
    rw [b9] at c2
    rcases hi_ix h1 with ⟨a1, a2, h1⟩ | ⟨a1, h1⟩
    · rcases hi_ns (by rw [b9]; omega) h2 with ⟨c3, c4, h2⟩ | ⟨c3, h2⟩
      · rw [if_pos rfl] at h2
        rw [b9] at c4
        rcases hi_ix h1 with ⟨a3, a4, h1⟩ | ⟨a3, h1⟩
        · unfold fX10_join_27 at h2
          have h2 := hi_t0 h2
          rw [if_pos rfl] at h2
          obtain ⟨σ9, v10, e9, h1⟩ := hy_bd_some h1
          obtain ⟨_, h1⟩ := hy_ck_some h1
          obtain ⟨p1, p2⟩ := hi_pr h1
          have p3 : o.2.1 = v10 := congrArg Prod.fst p2
          have p4 : o.2.2 = 0 := congrArg Prod.snd p2
          have na := hs_tn a1
          have nb := hs_tn a3
          obtain ⟨ra, ra1, ra2, ra3⟩ := hR.2.1 x1.toNatClampNeg (by omega)
          obtain ⟨rb, rb1, rb2, rb3⟩ := hR.2.1 x2.toNatClampNeg (by omega)
          obtain ⟨p, q, eK, eL, pq, qn, fp, fq, pqr⟩ : ∃ p q : Nat, (if hv_i rb < hv_i ra then hv_i rb else hv_i ra) = hv_i p ∧ (if hv_i ra < hv_i rb then hv_i rb else hv_i ra) = hv_i q ∧ p ≤ q ∧ q < (σ.2 7).toNatClampNeg ∧ σ.1 18 p = hv_i p ∧ σ.1 18 q = hv_i q ∧ ((p = ra ∧ q = rb) ∨ (p = rb ∧ q = ra)) := by
            by_cases c : rb < ra
            · exact ⟨rb, ra, by rw [if_pos ((hv_lt (by omega) (by omega)).mpr c)], by rw [if_neg (fun z => by have := (hv_lt (by omega) (by omega)).mp z; omega)], by omega, by omega, rb3, ra3, Or.inr ⟨rfl, rfl⟩⟩
            · refine ⟨ra, rb, by rw [if_neg (fun z => c ((hv_lt (by omega) (by omega)).mp z))], ?_, by omega, by omega, ra3, rb3, Or.inl ⟨rfl, rfl⟩⟩
              by_cases d : ra < rb
              · rw [if_pos ((hv_lt (by omega) (by omega)).mpr d)]
              · rw [if_neg (fun z => d ((hv_lt (by omega) (by omega)).mp z)), show ra = rb by omega]
          have ca := hR.2.2.1 x1.toNatClampNeg ra (by omega) (by omega) ra2
          have cb := hR.2.2.1 x2.toNatClampNeg rb (by omega) (by omega) rb2
          have cc : σ.1 20 x1.toNatClampNeg = σ.1 20 x2.toNatClampNeg ↔ σ.1 20 p = σ.1 20 q := by
            rw [ca, cb]
            rcases pqr with ⟨z1, z2⟩ | ⟨z1, z2⟩
            · rw [z1, z2]
            · rw [z1, z2]
              exact ⟨fun z => z.symm, fun z => z.symm⟩
          unfold fX5_unite at e9
          obtain ⟨_, v1, f1, e9⟩ := hy_ga_some e9
          obtain ⟨_, v4, f4, e9⟩ := hy_ga_some e9
          obtain ⟨_, v9, f9, e9⟩ := hy_ga_some e9
          obtain ⟨_, v12, f12, e9⟩ := hy_ga_some e9
          rw [ra2] at f1 f9
          rw [rb2] at f4 f12
          subst f1
          subst f4
          subst f9
          subst f12
          obtain ⟨_, w5, g5, h2⟩ := hy_ga_some h2
          obtain ⟨_, w8, g8, h2⟩ := hy_ga_some h2
          obtain ⟨_, w13, g13, h2⟩ := hy_ga_some h2
          obtain ⟨_, w16, g16, h2⟩ := hy_ga_some h2
          rw [← hRν.1.1, ra2] at g5 g13
          rw [← hRν.1.1, rb2] at g8 g16
          subst g5
          subst g8
          subst g13
          subst g16
          rw [eK, eL] at e9 h2
          obtain ⟨σ21, v22, e21, h2⟩ := hy_bd_some h2
          obtain ⟨m1, m2⟩ := hv_st hC hRν (by omega) fp e21
          have m1 : σ21 = ν := m1
          have m2 : v22 = σ.1 21 p := m2
          rw [m1] at h2
          obtain ⟨σ24, v25, e24, h2⟩ := hy_bd_some h2
          obtain ⟨m3, m4⟩ := hv_st hC hRν qn fq e24
          have m3 : σ24 = ν := m3
          have m4 : v25 = σ.1 21 q := m4
          rw [m3, m2, m4] at h2
          have no : σ9 = σ → v10 = 0 → o2 = (ν, 0) → hv_R o.1 o2.1 ∧ ((o.2.2 = 0 ∧ o2.1.2 0 = 0) ∨ (o.2.2 = 1 ∧ o2.1.2 0 = 1)) ∧ (o.2.2 = 0 → o2.2 = o.2.1) := by
            intro z1 z2 z3
            rw [p1, z1, p3, z2, z3]
            exact ⟨hRν, Or.inl ⟨p4, by rw [eν]; rfl⟩, fun _ => rfl⟩
          by_cases epq : p = q
          · rw [epq] at e9 h2
            rw [if_pos rfl] at e9 h2
            exact no (hi_pr e9).1 (hi_pr e9).2 (Option.some.inj h2).symm
          · have nK : ¬ hv_i p = hv_i q := fun z => epq (hv_inj (by omega) (by omega) z)
            have hpq : p < q := Nat.lt_of_le_of_ne pq epq
            have n60 : (σ.2 7).toNatClampNeg ≤ 60 := by omega
            have p60 : p < 4096 := by omega
            have q60 : q < 4096 := by omega
            have pn : p < (σ.2 7).toNatClampNeg := by omega
            have nn7 : (σ.2 7).toInt = ((σ.2 7).toNatClampNeg : Int) := by omega
            have nn9 : (μ.2 9).toInt = ((σ.2 7).toNatClampNeg : Int) := by omega
            rw [if_neg nK] at e9 h2
            obtain ⟨σ18, v19, e18, e9⟩ := hy_bd_some e9
            obtain ⟨k1, k2⟩ := hv_fit e18
            have k1 : σ18 = σ := k1
            rw [hv_iN (by omega), hv_iN (by omega)] at k2
            rw [k1] at e9
            obtain ⟨_, w28, g28, h2⟩ := hy_ga_some h2
            obtain ⟨_, w31, g31, h2⟩ := hy_ga_some h2
            rw [← hRν.1.2.1] at g28 g31
            obtain ⟨sp1, _, _⟩ := hR.2.2.2.1 p (by omega) fp
            obtain ⟨sq1, _, _⟩ := hR.2.2.2.1 q qn fq
            have lt0 : ∀ y : Int32, (y = -1 ∨ 0 ≤ y.toInt) → (y < 0 ↔ y = -1) := by
              intro y hy
              refine ⟨fun z => ?_, fun z => by rw [z]; decide⟩
              rcases hy with hy | hy
              · exact hy
              · have z : y.toInt < 0 := Int32.lt_iff_toInt_lt.mp z
                omega
            have yes : (σ.1 20 p = σ.1 20 q ∧ (σ.1 21 p = -1 ∨ σ.1 21 q = -1 ∨ σ.1 21 p = σ.1 21 q)) → fX10_join_124 ν (hv_i p) (hv_i q) = some o2 → hv_R o.1 o2.1 ∧ ((o.2.2 = 0 ∧ o2.1.2 0 = 0) ∨ (o.2.2 = 1 ∧ o2.1.2 0 = 1)) ∧ (o.2.2 = 0 → o2.2 = o.2.1) := by
              intro z h2
              rcases k2 with ⟨k2, _⟩ | ⟨_, k3⟩
              · have k2 : v19 = 1 := k2
                rw [k2] at e9
                rw [if_neg (by decide)] at e9
                obtain ⟨u1, u2, u3, u4, u5, u6⟩ := hv_un (n := (σ.2 7).toNatClampNeg) n60 hy_fu σ (hv_i q) (σ9, v10) nn7 (by rw [hv_ii q60]; exact Int.natCast_nonneg _) (by rw [hv_ii q60]; exact Int.ofNat_le.mpr (Nat.le_trans (Nat.le_of_lt qn) n60)) e9
                unfold fX10_join_124 at h2
                have w := hv_jn (n := (σ.2 7).toNatClampNeg) n60 hy_fu ν 0 o2 (by rw [b9]; exact nn9) (by decide) (by decide) h2
                rw [hv_iN q60, hv_hg ?_] at u2
                rotate_left
                · intro k hk e
                  obtain ⟨r, r1, r2, _⟩ := hR.2.1 k hk
                  have r60 : r < 4096 := Nat.lt_of_le_of_lt r1 (Nat.lt_of_lt_of_le hk (Nat.le_trans n60 (by decide)))
                  rw [← hv_inj r60 q60 (r2.symm.trans e)]
                  exact r1
                rw [show (0 : Int32).toNatClampNeg = 0 from rfl, hv_hg (fun k _ _ => Nat.zero_le _), ← hRν.1.1] at w
                have u1 : v10 = 1 := u1
                have u2 : σ9.1 18 = _ := u2
                have u3 : σ9.1 19 = _ := u3
                have u4 : σ9.1 20 = σ.1 20 := u4
                have u5 : σ9.1 21 = _ := u5
                have u6 : σ9.2 = σ.2 := u6
                rw [hv_iN p60, hv_iN q60] at u3 u5
                have mp := hR.2.2.2.2 p pn fp
                have mq := hR.2.2.2.2 q qn fq
                have lp := hv_nle (p := fun k => decide (σ.1 18 k = hv_i p)) (σ.2 7).toNatClampNeg
                have lq := hv_nle (p := fun k => decide (σ.1 18 k = hv_i q)) (σ.2 7).toNatClampNeg
                have E := hv_Ejoin n60 hR.2 (p := p) (q := q) hpq qn fp fq z.1 z.2 (v := σ.1 19 p + σ.1 19 q) (hv_sum mp mq lp lq n60) rfl
                refine ⟨⟨⟨?_, ?_, ?_⟩, ?_⟩, Or.inl ⟨p4, by rw [w, eν]; rfl⟩, fun _ => by rw [w, p3, u1]⟩
                · rw [p1, u2, w]
                  rfl
                · rw [p1, u4, w]
                  exact hRν.1.2.1
                · rw [p1, u6, w]
                  exact hRν.1.2.2
                · rw [p1, u2, u3, u4, u5, u6, w, eν]
                  exact E
              · exact absurd z k3
            have nog : ¬ (σ.1 20 p = σ.1 20 q ∧ (σ.1 21 p = -1 ∨ σ.1 21 q = -1 ∨ σ.1 21 p = σ.1 21 q)) → some (ν, (0 : Int32)) = some o2 → hv_R o.1 o2.1 ∧ ((o.2.2 = 0 ∧ o2.1.2 0 = 0) ∨ (o.2.2 = 1 ∧ o2.1.2 0 = 1)) ∧ (o.2.2 = 0 → o2.2 = o.2.1) := by
              intro z h2
              rcases k2 with ⟨_, k3⟩ | ⟨k2, _⟩
              · exact absurd k3 z
              · have k2 : v19 = 0 := k2
                rw [k2] at e9
                rw [if_pos rfl] at e9
                exact no (hi_pr e9).1 (hi_pr e9).2 (Option.some.inj h2).symm
            by_cases d1 : w28 = w31
            · rw [if_pos d1] at h2
              have d1' : σ.1 20 p = σ.1 20 q := cc.mp (by rw [← g28, ← g31]; exact d1)
              by_cases d2 : σ.1 21 p < 0
              · rw [if_pos d2] at h2
                exact yes ⟨d1', Or.inl ((lt0 _ sp1).mp d2)⟩ h2
              · rw [if_neg d2] at h2
                by_cases d3 : σ.1 21 q < 0
                · rw [if_pos d3] at h2
                  exact yes ⟨d1', Or.inr (Or.inl ((lt0 _ sq1).mp d3))⟩ h2
                · rw [if_neg d3] at h2
                  by_cases d4 : σ.1 21 p = σ.1 21 q
                  · rw [if_pos d4] at h2
                    exact yes ⟨d1', Or.inr (Or.inr d4)⟩ h2
                  · rw [if_neg d4] at h2
                    refine nog (fun z => ?_) h2
                    rcases z.2 with z | z | z
                    · exact d2 ((lt0 _ sp1).mpr z)
                    · exact d3 ((lt0 _ sq1).mpr z)
                    · exact d4 z
            · rw [if_neg d1] at h2
              exact nog (fun z => d1 (by rw [g28, g31]; exact cc.mpr z.1)) h2
        · exfalso
          omega
      · rw [if_neg (by decide)] at h2
        rw [b9] at c3
        rcases hi_ix h1 with ⟨a3, a4, h1⟩ | ⟨a3, h1⟩
        · exfalso
          omega
        · exact thr h2 h1
    · exfalso
      omega
  · rw [if_neg (by decide)] at h2
    rw [b9] at c1
    rcases hi_ix h1 with ⟨a1, a2, h1⟩ | ⟨a1, h1⟩
    · exfalso
      omega
    · exact thr h2 h1
theorem hv_all {σ μ : hy_S} {y : Int32} (hy : y < 0) (e18 : σ.1 18 = μ.1 22) (e7 : σ.2 7 = μ.2 9) : ∀ (u : Nat) (x2 x3 : Int32) (o o2 : hy_S × Int32), fX5_allVessels_4 u σ x2 x3 = some o → fX10_vessels_36 u μ y x2 x3 = some o2 → o.1 = σ ∧ o2.1 = μ ∧ o2.2 = o.2 := by
  intro u
  induction u with
  | zero => intro x2 x3 o o2 h; cases h
  | succ u ih =>
    intro x2 x3 o o2 h h2
    unfold fX5_allVessels_4 at h
    unfold fX10_vessels_36 at h2
    rw [← e7] at h2
    by_cases c : σ.2 7 ≤ x3
    · rw [if_pos c] at h h2
      rw [← Option.some.inj h, ← Option.some.inj h2]
      exact ⟨rfl, rfl, rfl⟩
    · rw [if_neg c] at h h2
      obtain ⟨_, v2, f2, h⟩ := hy_ga_some h
      obtain ⟨_, w2, g2, h2⟩ := hy_ga_some h2
      rw [← e18, ← f2] at g2
      rw [g2] at h2
      by_cases d : v2 = x3
      · rw [if_pos d] at h h2
        rw [if_pos hy] at h2
        unfold fX5_allVessels_25 at h
        unfold fX10_vessels_68 fX10_vessels_73 at h2
        exact ih (x2 + 1) (x3 + 1) o o2 h h2
      · rw [if_neg d] at h h2
        unfold fX5_allVessels_25 at h
        unfold fX10_vessels_72 fX10_vessels_73 at h2
        rw [Int32.add_zero] at h2
        exact ih x2 (x3 + 1) o o2 h h2
theorem hv_with {R : hy_S → Prop} {σ μ : hy_S} {y : Int32} (hC : hc_I R σ) (hR : hv_R σ μ) (hy : ¬ y < 0) : ∀ (u : Nat) (x2 x3 : Int32) (o o2 : hy_S × Int32), 0 ≤ x3.toInt → x3.toInt ≤ 60 → fX5_vesselsWith_4 u σ y x2 x3 = some o → fX10_vessels_36 u μ y x2 x3 = some o2 → o.1 = σ ∧ o2.1 = μ ∧ o2.2 = o.2 := by
  have i7 : (0 : Int) ≤ (σ.2 7).toInt ∧ (σ.2 7).toInt ≤ 60 := hC.2.1 7
  have ns := hs_tn i7.1
  intro u
  induction u with
  | zero => intro x2 x3 o o2 h0 h1 h; cases h
  | succ u ih =>
    intro x2 x3 o o2 h0 h1 h h2
    have nx := hs_tn h0
    unfold fX5_vesselsWith_4 at h
    unfold fX10_vessels_36 at h2
    rw [← hR.1.2.2] at h2
    by_cases c : σ.2 7 ≤ x3
    · rw [if_pos c] at h h2
      rw [← Option.some.inj h, ← Option.some.inj h2]
      exact ⟨rfl, rfl, rfl⟩
    · rw [if_neg c] at h h2
      have c1 := hi_nle c
      obtain ⟨g1, _⟩ := hj_p1 h0 (by omega)
      obtain ⟨_, v2, f2, h⟩ := hy_ga_some h
      obtain ⟨_, w2, g2, h2⟩ := hy_ga_some h2
      rw [← hR.1.1, ← f2] at g2
      rw [g2] at h2
      by_cases d : v2 = x3
      · rw [if_pos d] at h h2
        rw [if_neg hy] at h2
        obtain ⟨_, v6, f6, h⟩ := hy_ga_some h
        obtain ⟨σ7, v8, e7, h2⟩ := hy_bd_some h2
        have ex : x3 = hv_i x3.toNatClampNeg := hv_of h0 (by omega)
        rw [ex] at e7
        obtain ⟨q1, q2⟩ := hv_st hC hR (r := x3.toNatClampNeg) (by omega) (by rw [← f2, d, ← ex]) e7
        rw [show σ7 = μ from q1, show v8 = σ.1 21 x3.toNatClampNeg from q2, ← f6] at h2
        by_cases d2 : v6 = y
        · rw [if_pos d2] at h h2
          unfold fX5_vesselsWith_35 at h
          unfold fX10_vessels_68 fX10_vessels_73 at h2
          exact ih (x2 + 1) (x3 + 1) o o2 (by rw [g1]; omega) (by rw [g1]; omega) h h2
        · rw [if_neg d2] at h h2
          unfold fX5_vesselsWith_35 at h
          unfold fX10_vessels_72 fX10_vessels_73 at h2
          rw [Int32.add_zero] at h2
          exact ih x2 (x3 + 1) o o2 (by rw [g1]; omega) (by rw [g1]; omega) h h2
      · rw [if_neg d] at h h2
        unfold fX5_vesselsWith_35 at h
        unfold fX10_vessels_72 fX10_vessels_73 at h2
        rw [Int32.add_zero] at h2
        exact ih x2 (x3 + 1) o o2 (by rw [g1]; omega) (by rw [g1]; omega) h h2
theorem hv_vessels {R : hy_S → Prop} {σ μ : hy_S} {x1 : Int32} {o : hy_O} {o2 : hy_S × Int32} (hC : hc_I R σ) (hR : hv_R σ μ) (h1 : fX9_vessels σ x1 = some o) (h2 : fX10_vessels μ x1 = some o2) : hv_R o.1 o2.1 ∧ ((o.2.2 = 0 ∧ o2.1.2 0 = 0) ∨ (o.2.2 = 1 ∧ o2.1.2 0 = 1)) ∧ (o.2.2 = 0 → o2.2 = o.2.1) := by
  unfold fX9_vessels at h1
  unfold fX10_vessels at h2
  obtain ⟨ν, eν, h2⟩ := hy_pf_some h2
  have hRν : hv_R σ ν := by rw [eν]; exact hv_t1 hR
  have fin : ∀ {τ : hy_S} {v : Int32}, τ = σ → some (τ, v, 0) = some o → o2.1 = ν → o2.2 = v → hv_R o.1 o2.1 ∧ ((o.2.2 = 0 ∧ o2.1.2 0 = 0) ∨ (o.2.2 = 1 ∧ o2.1.2 0 = 1)) ∧ (o.2.2 = 0 → o2.2 = o.2.1) := by
    intro τ v z0 z1 z2 z3
    rw [← Option.some.inj z1, z0, z2, z3, eν]
    exact ⟨hv_t1 hR, Or.inl ⟨rfl, rfl⟩, fun _ => rfl⟩
  have go : (x1.toInt = -1 ∨ (0 ≤ x1.toInt ∧ x1.toInt < 12)) → fX10_vessels_22 ν x1 = some o2 → hv_R o.1 o2.1 ∧ ((o.2.2 = 0 ∧ o2.1.2 0 = 0) ∨ (o.2.2 = 1 ∧ o2.1.2 0 = 1)) ∧ (o.2.2 = 0 → o2.2 = o.2.1) := by
    intro z h2
    unfold fX10_vessels_22 fX10_vessels_23 at h2
    have h2 := hi_t0 h2
    rw [if_pos rfl] at h2
    rcases hi_sn h1 with ⟨a1, h1⟩ | ⟨a1, h1⟩
    · by_cases c : x1 = -1
      · rw [if_pos c] at h1
        obtain ⟨τ, v, e, h1⟩ := hy_bd_some h1
        unfold fX5_allVessels at e
        obtain ⟨q1, q2, q3⟩ := hv_all (by rw [c]; decide) hRν.1.1 hRν.1.2.2 hy_fu 0 0 _ _ e h2
        exact fin q1 h1 q2 q3
      · rw [if_neg c] at h1
        have c9 := hi_ne c
        have c8 : ¬ x1.toInt = -1 := c9
        obtain ⟨τ, v, e, h1⟩ := hy_bd_some h1
        unfold fX5_vesselsWith at e
        obtain ⟨q1, q2, q3⟩ := hv_with hC hRν (fun w => by have w : x1.toInt < 0 := Int32.lt_iff_toInt_lt.mp w; omega) hy_fu 0 0 _ _ (by decide) (by decide) e h2
        exact fin q1 h1 q2 q3
    · exfalso
      omega
  by_cases c : x1 = -1
  · rw [if_pos c] at h2
    exact go (Or.inl (by rw [c]; rfl)) h2
  · rw [if_neg c] at h2
    have c8 : ¬ x1.toInt = -1 := hi_ne c
    rcases hi_nt h2 with ⟨b1, b2, h2⟩ | ⟨b1, h2⟩
    · rw [if_pos rfl] at h2
      exact go (Or.inr ⟨b1, b2⟩) h2
    · rw [if_neg (by decide)] at h2
      unfold fX10_vessels_23 at h2
      have h2 := hi_t1 h2
      rw [if_neg (by decide)] at h2
      obtain ⟨s1, s2⟩ := hi_pr h2
      rcases hi_sn h1 with ⟨a1, h1⟩ | ⟨a1, h1⟩
      · exfalso
        omega
      · refine ⟨?_, Or.inr ⟨by rw [h1], by rw [s1]; rfl⟩, fun z => ?_⟩
        · rw [s1, h1, eν]
          exact hv_t2 hR
        · rw [h1] at z
          exact absurd z (Nat.succ_ne_zero _)
theorem hv_vc {μ : hy_S} {x1 v : Int32} (hv : μ.1 22 x1.toNatClampNeg = v) {n : Nat} (hn : (μ.2 9).toInt = (n : Int)) (n60 : n ≤ 60) : ∀ (u : Nat) (x3 x4 : Int32) (o : hy_S × Int32), 0 ≤ x4.toInt → x4.toInt ≤ (n : Int) → x3.toInt = (hv_n (fun k => decide (μ.1 22 k = v)) x4.toNatClampNeg : Int) → fX10_vessel_53 u μ x1 x3 x4 = some o → o.1 = μ ∧ o.2.toInt = (hv_n (fun k => decide (μ.1 22 k = v)) n : Int) := by
  intro u
  induction u with
  | zero => intro x3 x4 o h0 h1 h2 h; cases h
  | succ u ih =>
    intro x3 x4 o h0 h1 h2 h
    have nx := hs_tn h0
    unfold fX10_vessel_53 at h
    by_cases c : μ.2 9 ≤ x4
    · rw [if_pos c] at h
      have c1 : (μ.2 9).toInt ≤ x4.toInt := hi_le.mp c
      rw [show x4.toNatClampNeg = n by omega] at h2
      rw [← Option.some.inj h]
      exact ⟨rfl, h2⟩
    · rw [if_neg c] at h
      have c1 := hi_nle c
      obtain ⟨g1, g2⟩ := hj_p1 h0 (by omega)
      have le := hv_nle (p := fun k => decide (μ.1 22 k = v)) x4.toNatClampNeg
      obtain ⟨_, w2, e2, h⟩ := hy_ga_some h
      obtain ⟨_, w5, e5, h⟩ := hy_ga_some h
      rw [hv] at e5
      rw [e5] at h
      by_cases d : w2 = v
      · rw [if_pos d] at h
        unfold fX10_vessel_84 at h
        have gx : (x3 + 1).toInt = x3.toInt + 1 := hs_addk 1 rfl (by omega) (by omega)
        refine ih (x3 + 1) (x4 + 1) o (by rw [g1]; omega) (by rw [g1]; omega) ?_ h
        rw [gx, g2, h2]
        show _ = ((hv_n (fun k => decide (μ.1 22 k = v)) x4.toNatClampNeg + (if decide (μ.1 22 x4.toNatClampNeg = v) = true then 1 else 0) : Nat) : Int)
        rw [if_pos (decide_eq_true (by rw [← e2]; exact d))]
        omega
      · rw [if_neg d] at h
        unfold fX10_vessel_84 at h
        rw [Int32.add_zero] at h
        refine ih x3 (x4 + 1) o (by rw [g1]; omega) (by rw [g1]; omega) ?_ h
        rw [g2, h2]
        show _ = ((hv_n (fun k => decide (μ.1 22 k = v)) x4.toNatClampNeg + (if decide (μ.1 22 x4.toNatClampNeg = v) = true then 1 else 0) : Nat) : Int)
        rw [if_neg (fun z => d (by rw [e2]; exact of_decide_eq_true z))]
        omega
theorem hv_vessel {R : hy_S → Prop} {σ μ : hy_S} {x1 x2 : Int32} {o : hy_O} {o2 : hy_S × Int32} (hC : hc_I R σ) (hR : hv_R σ μ) (h1 : fX9_vessel σ x1 x2 = some o) (h2 : fX10_vessel μ x1 x2 = some o2) : hv_R o.1 o2.1 ∧ ((o.2.2 = 0 ∧ o2.1.2 0 = 0) ∨ (o.2.2 = 1 ∧ o2.1.2 0 = 1) ∨ (o.2.2 = 4 ∧ o2.1.2 0 = 2)) ∧ (o.2.2 = 0 → o2.2 = o.2.1) := by
  have i7 : (0 : Int) ≤ (σ.2 7).toInt ∧ (σ.2 7).toInt ≤ 60 := hC.2.1 7
  have ns := hs_tn i7.1
  have n7 : (σ.2 7).toInt = (μ.2 9).toInt := by rw [hR.1.2.2]
  unfold fX9_vessel at h1
  unfold fX10_vessel at h2
  obtain ⟨ν, eν, h2⟩ := hy_pf_some h2
  have b9 : ν.2 9 = μ.2 9 := by rw [eν]; rfl
  have hRν : hv_R σ ν := by rw [eν]; exact hv_t1 hR
  rcases hi_ns (by rw [b9]; omega) h2 with ⟨c1, c2, h2⟩ | ⟨c1, h2⟩
  · have h2 := hi_t0 h2
    rw [if_pos rfl] at h2
    rw [b9] at c2
    rcases hi_ix h1 with ⟨a1, a2, h1⟩ | ⟨a1, h1⟩
    · have na := hs_tn a1
      have fin : ∀ v : Int32, o = (σ, v, 0) → o2.1 = ν → o2.2 = v → hv_R o.1 o2.1 ∧ ((o.2.2 = 0 ∧ o2.1.2 0 = 0) ∨ (o.2.2 = 1 ∧ o2.1.2 0 = 1) ∨ (o.2.2 = 4 ∧ o2.1.2 0 = 2)) ∧ (o.2.2 = 0 → o2.2 = o.2.1) := by
        intro v z1 z2 z3
        rw [z1, z2, z3, eν]
        exact ⟨hv_t1 hR, Or.inl ⟨rfl, rfl⟩, fun _ => rfl⟩
      obtain ⟨r, r1, r2, r3⟩ := hR.2.1 x1.toNatClampNeg (by omega)
      obtain ⟨_, v5, f5, h1⟩ := hy_ga_some h1
      rw [r2] at f5
      rw [f5] at h1
      by_cases d0 : x2 = 0
      · rw [if_pos d0] at h1 h2
        obtain ⟨_, v9, f9, h1⟩ := hy_ga_some h1
        rw [hv_iN (by omega)] at f9
        obtain ⟨q1, q2⟩ := hv_vc (μ := ν) (x1 := x1) (v := hv_i r) (by rw [← hRν.1.1]; exact r2) (n := (σ.2 7).toNatClampNeg) (by rw [b9]; omega) (by omega) hy_fu 0 0 o2 (by decide) (show (0 : Int) ≤ _ by omega) rfl h2
        refine fin v9 (Option.some.inj h1).symm q1 (Int32.toInt_inj.mp ?_)
        rw [q2, f9, hR.2.2.2.2 r (by omega) r3, ← hRν.1.1]
      · rw [if_neg d0] at h1 h2
        by_cases d1 : x2 = 1
        · rw [if_pos d1] at h1 h2
          obtain ⟨_, v13, f13, h1⟩ := hy_ga_some h1
          rw [hv_iN (by omega)] at f13
          obtain ⟨_, w12, g12, h2⟩ := hy_ga_some h2
          rw [← hRν.1.1, r2] at g12
          rw [g12] at h2
          obtain ⟨σ15, v16, e15, h2⟩ := hy_bd_some h2
          obtain ⟨q1, q2⟩ := hv_st hC hRν (r := r) (by omega) r3 e15
          obtain ⟨s1, s2⟩ := hi_pr h2
          exact fin v13 (Option.some.inj h1).symm (by rw [s1]; exact q1) (by rw [s2, f13]; exact q2)
        · rw [if_neg d1] at h1 h2
          by_cases d2 : x2 = 2
          · rw [if_pos d2] at h1 h2
            obtain ⟨_, w19, g19, h2⟩ := hy_ga_some h2
            rw [← hRν.1.1, r2] at g19
            obtain ⟨s1, s2⟩ := hi_pr h2
            exact fin (hv_i r) (Option.some.inj h1).symm s1 (by rw [s2, g19])
          · rw [if_neg d2] at h1 h2
            obtain ⟨ν2, e2, h2⟩ := hy_pf_some h2
            rw [← Option.some.inj h1, ← Option.some.inj h2, e2, eν]
            exact ⟨hv_t2 hR, Or.inr (Or.inr ⟨rfl, rfl⟩), fun z => absurd z (Nat.succ_ne_zero _)⟩
    · exfalso
      omega
  · have h2 := hi_t1 h2
    rw [if_neg (by decide)] at h2
    rw [b9] at c1
    rcases hi_ix h1 with ⟨a1, a2, h1⟩ | ⟨a1, h1⟩
    · exfalso
      omega
    · obtain ⟨s1, s2⟩ := hi_pr h2
      refine ⟨?_, Or.inr (Or.inl ⟨by rw [h1], by rw [s1]; rfl⟩), fun z => ?_⟩
      · rw [s1, h1, eν]
        exact hv_t2 hR
      · rw [h1] at z
        exact absurd z (Nat.succ_ne_zero _)
