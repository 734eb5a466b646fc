/-! The tallest stack on both sides. -/
theorem hq_cy {f : Nat → Int32} {i y : Nat} (hy : y < 20) (h : f i = hv_i y) : hq_c f i = y := by
  unfold hq_c
  rw [h]
  exact hv_iN (by omega)
theorem hq_Pc {f : Nat → Int32} {n : Nat} {D : Nat → Prop} (d20 : ∀ y, D y → y < 20) (h : hq_P f n D) : (∀ p q, p < n → q < n → hq_c f p = hq_c f q → p = q) ∧ (∀ p, p < n → D (hq_c f p)) ∧ ∀ x, D x → ∃ p, p < n ∧ hq_c f p = x := by
  obtain ⟨h1, h2, h3⟩ := h
  refine ⟨fun p q hp hq e => ?_, fun p hp => ?_, fun x hx => ?_⟩
  · obtain ⟨y, y1, _, y3⟩ := h1 p hp
    obtain ⟨z, z1, _, z3⟩ := h1 q hq
    rw [hq_cy y1 y3, hq_cy z1 z3] at e
    exact h3 p q hp hq (by rw [y3, z3, e])
  · obtain ⟨y, y1, y2, y3⟩ := h1 p hp
    rw [hq_cy y1 y3]
    exact y2
  · obtain ⟨p, p1, p2⟩ := h2 x hx
    exact ⟨p, p1, hq_cy (d20 x hx) p2⟩
theorem hq_tc {β σ : hy_S} (hB : hq_B β) {n : Nat} (n20 : n ≤ 20) {D : Nat → Prop} (d20 : ∀ y, D y → y < 20) (hH : hq_H β σ) (h6 : σ.2 6 = hv_i n) (hR : hq_R β (σ.1 13) n D) {o : hy_S × Int32} (h : fX6_greatest σ = some o) : ∃ H, o.2 = hv_i H ∧ hq_L (hq_w β) (hq_b β) D H ∧ ∀ k, hq_L (hq_w β) (hq_b β) D k → k ≤ H := by
  have ok := hq_Bok hB
  have ew : hq_w σ = hq_w β := by
    funext x
    unfold hq_w
    rw [hH.1 2 (by decide), hH.1 5 (by decide), hH.1 8 (by decide)]
  have eb : hq_b σ = hq_b β := by
    funext x
    unfold hq_b
    rw [hH.1 4 (by decide), hH.1 5 (by decide)]
  have ok1 : hq_ok σ := by
    unfold hq_ok
    rw [ew, eb]
    exact ok
  obtain ⟨H, q1, q2, q3, q4⟩ := hq_greatest ok1 n20 h6 h
  rw [ew, eb] at q3 q4
  obtain ⟨r1, r2, r3, r4⟩ := hR
  obtain ⟨i1, i2, i3⟩ := hq_Pc d20 ⟨r1, r2, r3⟩
  have ex : ∀ x, ∃ p, D x → p < n ∧ hq_c (σ.1 13) p = x := fun x => by
    by_cases d : D x
    · obtain ⟨p, p1⟩ := i3 x d
      exact ⟨p, fun _ => p1⟩
    · exact ⟨0, fun z => absurd z d⟩
  obtain ⟨pos, hp⟩ := Classical.axiomOfChoice ex
  have zl := hq_ZL (w := hq_w β) (b := hq_b β) (fun x => (ok.1 x).1) i1 i2 hp r4
  refine ⟨H, q1, (zl H).mp q3, fun k hk => ?_⟩
  obtain ⟨s, z⟩ := (zl k).mpr hk
  by_cases c : k ≤ H
  · exact c
  · exact absurd z (q4 k s (by omega))
theorem hq_tallest {R : hy_S → Prop} {σ μ : hy_S} {x1 : Int32} {o : hy_O} {o2 : hy_S × Int32} (hC : hc_I R σ) (hR : hj_R σ μ) (hB : hq_B σ) (h1 : fX9_tallest σ x1 = some o) (h2 : fX10_tallest μ x1 = some o2) : ((o.2.2 = 0 ∧ o2.1.2 0 = 0) ∨ (o.2.2 = 2 ∧ o2.1.2 0 = 1)) ∧ (o.2.2 = 0 → o2.2 = o.2.1) := by
  obtain ⟨⟨a2, a3, a4⟩, ⟨a5, _, _⟩, ⟨a8, a9, _⟩, ⟨_, n4, _⟩, _⟩ := hR
  have i4 : (0 : Int) ≤ (σ.2 4).toInt ∧ (σ.2 4).toInt ≤ 60 := hC.2.1 4
  have ok := hq_Bok hB
  obtain ⟨J, J20, JN, Je⟩ : ∃ J : Nat, J ≤ 20 ∧ (J : Int) ≤ (σ.2 4).toInt ∧ (J = 20 ∨ (σ.2 4).toInt ≤ (J : Int)) := by
    by_cases c : 20 ≤ (σ.2 4).toInt
    · exact ⟨20, Nat.le_refl _, c, Or.inl rfl⟩
    · exact ⟨(σ.2 4).toInt.toNat, by omega, by omega, Or.inr (by omega)⟩
  have nj := hq_nj (e := hq_e x1 (σ.1 9)) J
  have d20 : ∀ y, (y < J ∧ hq_e x1 (σ.1 9) y = true) → y < 20 := fun y hy => by have := hy.1; omega
  unfold fX9_tallest at h1
  obtain ⟨σ1, v2, e1, h1⟩ := hy_bd_some h1
  obtain ⟨c1, c2, c3, c4⟩ := hq_choose ok J20 JN Je e1
  have c1 : hq_H σ σ1 := c1
  have c2 : v2 = hv_i (hq_n (hq_e x1 (σ.1 9)) J) := c2
  have c3 : σ1.2 6 = hv_i (hq_n (hq_e x1 (σ.1 9)) J) := c3
  have c4 : hq_R σ (σ1.1 13) (hq_n (hq_e x1 (σ.1 9)) J) (fun y => y < J ∧ hq_e x1 (σ.1 9) y = true) := c4
  have iv : v2.toInt = (hq_n (hq_e x1 (σ.1 9)) J : Int) := by rw [c2]; exact hv_ii (by omega)
  unfold fX10_tallest at h2
  obtain ⟨τ0, e0, h2⟩ := hy_pf_some h2
  have r9 := hq_t9 (β := μ) (s := x1) J20 (by rw [← n4]; exact JN) (by rw [← n4]; exact Je) hy_fu τ0 0 o2 ⟨fun j _ _ => by rw [e0]; rfl, fun j hj => by
    rw [e0]
    show (if j = 0 then _ else μ.2 j) = μ.2 j
    rw [if_neg hj]⟩ (Nat.zero_le _) (Nat.zero_le _) ⟨fun i hi => absurd hi (Nat.not_lt_zero _), fun y hy => absurd hy.1 (Nat.not_lt_zero _), fun i j hi => absurd hi (Nat.not_lt_zero _)⟩ h2
  rw [← a9] at r9
  rcases hi_nm h1 with ⟨_, b2, h1⟩ | ⟨b1, h1⟩
  · have b2 : v2.toInt ≤ (12 : Int) := b2
    obtain ⟨σ8, v9, e8, h1⟩ := hy_bd_some h1
    obtain ⟨H, g1, g2, g3⟩ := hq_tc hB (by omega) d20 c1 c3 c4 e8
    have g1 : v9 = hv_i H := g1
    have eo : o = (σ8, v9, 0) := (Option.some.inj h1).symm
    rcases r9 with ⟨z, _⟩ | ⟨_, τ, t1, t2, t3, t4⟩
    · omega
    · have mw : hq_mw τ = hq_w σ := by
        funext x
        unfold hq_mw hq_w
        rw [t1.1 0 (by decide) (by decide), t1.1 3 (by decide) (by decide), t1.1 6 (by decide) (by decide), a2, a5, a8]
      have mb : hq_mb τ = hq_b σ := by
        funext x
        unfold hq_mb hq_b
        rw [t1.1 2 (by decide) (by decide), t1.1 3 (by decide) (by decide), a4, a5]
      have ok2 : hq_mok τ := by
        unfold hq_mok
        rw [mw, mb]
        exact ok
      obtain ⟨s1, G, s2, s3, s4⟩ := hq_t80 ok2 (by omega) t4
      obtain ⟨i1, i2, i3⟩ := hq_Pc d20 t3
      have ll := hq_LL (w := hq_mw τ) (b := hq_mb τ) i1 i2 i3
      have s3 := (ll G).mp s3
      have s4 : ∀ k, hq_L (hq_mw τ) (hq_mb τ) (fun y => y < J ∧ hq_e x1 (σ.1 9) y = true) k → k ≤ G := fun k hk => s4 k ((ll k).mpr hk)
      rw [mw, mb] at s3 s4
      have eH : G = H := Nat.le_antisymm (g3 G s3) (s4 H g2)
      have t0 : τ0.2 0 = 0 := by rw [e0]; rfl
      rw [eo]
      refine ⟨Or.inl ⟨rfl, ?_⟩, fun _ => ?_⟩
      · rw [s1, t2, t0]
      · show o2.2 = v9
        rw [s2, g1, eH]
  · have b1 : v2.toInt < (0 : Int) ∨ (12 : Int) < v2.toInt := b1
    rw [h1]
    rcases r9 with ⟨_, _, z⟩ | ⟨z, _⟩
    · exact ⟨Or.inr ⟨rfl, z⟩, fun q => absurd (show (2 : Nat) = 0 from q) (by decide)⟩
    · omega
