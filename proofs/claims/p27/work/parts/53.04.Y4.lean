/-! Pushing years on until they settle. -/
noncomputable abbrev hg_U : Int := -1000000000
noncomputable def hg_r (e : Nat → Nat → Int → Prop) (g : Nat → Int) (n v : Nat) (x : Int) : Prop := ∃ u y, u < 13 ∧ ¬ g u = hg_U ∧ hg_W e n u v y ∧ x = g u + y
noncomputable def hg_bd (f : Nat → Int32) (k : Nat) : Prop := ∀ v, v < 13 → (f v).toInt = hg_U ∨ (-1000 * (k : Int) ≤ (f v).toInt ∧ (f v).toInt ≤ 1000 * (k : Int))
noncomputable def hg_so (e : Nat → Nat → Int → Prop) (g : Nat → Int) (f : Nat → Int32) : Prop := ∀ v, v < 13 → ¬ (f v).toInt = hg_U → ∃ n, hg_r e g n v (f v).toInt
noncomputable def hg_co (e : Nat → Nat → Int → Prop) (g : Nat → Int) (f : Nat → Int32) (r : Nat) : Prop := ∀ v n x, v < 13 → n ≤ r → hg_r e g n v x → ¬ (f v).toInt = hg_U ∧ x ≤ (f v).toInt
noncomputable def hg_mo (f f2 : Nat → Int32) : Prop := ∀ v, v < 13 → ¬ (f v).toInt = hg_U → ¬ (f2 v).toInt = hg_U ∧ (f v).toInt ≤ (f2 v).toInt
theorem hg_mo0 {f : Nat → Int32} : hg_mo f f := fun _ _ h => ⟨h, Int.le_refl _⟩
theorem hg_mot {f g h : Nat → Int32} (h1 : hg_mo f g) (h2 : hg_mo g h) : hg_mo f h := by
  intro v hv z
  obtain ⟨a, b⟩ := h1 v hv z
  obtain ⟨c, d⟩ := h2 v hv a
  exact ⟨c, by omega⟩
theorem hg_pu {β : hy_S} {m : Nat} (ok : hg_ok β m) {g : Nat → Int} : ∀ (u : Nat) (σ : hy_S) (i k : Nat) (x1 : Int32) (o : hy_S × Int32), hg_F β σ → i ≤ m → k + (m - i) ≤ 1000 → hg_bd (σ.1 28) k → hg_so (hg_e β m) g (σ.1 28) → fX8_pushOn_4 u σ x1 (hv_i i) = some o →
    hg_F β o.1 ∧ hg_bd (o.1.1 28) (k + (m - i)) ∧ hg_so (hg_e β m) g (o.1.1 28) ∧ hg_mo (σ.1 28) (o.1.1 28) ∧ (∀ j, i ≤ j → j < m → ¬ (σ.1 28 (hg_A β j)).toInt = hg_U → ¬ (o.1.1 28 (hg_B β j)).toInt = hg_U ∧ (σ.1 28 (hg_A β j)).toInt + hg_Y β j ≤ (o.1.1 28 (hg_B β j)).toInt) ∧ ((o.2 = x1 ∧ o.1.1 28 = σ.1 28) ∨ (o.2 = 1 ∧ ∃ v n x, v < 13 ∧ hg_r (hg_e β m) g n v x ∧ ¬ (¬ (σ.1 28 v).toInt = hg_U ∧ x ≤ (σ.1 28 v).toInt))) := by
  intro u
  induction u with
  | zero => intro σ i k x1 o hF hi hk hb hs h; cases h
  | succ u ih =>
    intro σ i k x1 o hF hi hk hb hs h
    have m60 := ok.1
    have U : hg_U = -1000000000 := rfl
    have ei := hv_ii (r := i) (by omega)
    have em := hv_ii (r := m) (by omega)
    have ni := hv_iN (r := i) (by omega)
    unfold fX8_pushOn_4 at h
    rw [show σ.2 9 = hv_i m by rw [hF.2]; exact ok.2.1] at h
    by_cases c : hv_i m ≤ hv_i i
    · rw [if_pos c] at h
      have c1 : (hv_i m).toInt ≤ (hv_i i).toInt := hi_le.mp c
      obtain ⟨_, h⟩ := hy_ck_some h
      obtain ⟨s1, s2⟩ := hi_pr h
      have e0 : m - i = 0 := by omega
      rw [s1, e0]
      exact ⟨hF, hb, hs, hg_mo0, fun j j1 j2 => absurd j2 (by omega), Or.inl ⟨s2, rfl⟩⟩
    · rw [if_neg c] at h
      have c1 := hi_nle c
      have im : i < m := by omega
      obtain ⟨a13, b13, y0, y1⟩ := ok.2.2 i im
      obtain ⟨_, v3, e3, h⟩ := hy_ga_some h
      rw [ni, hF.1 27 (by decide) (by decide)] at e3
      obtain ⟨_, v6, e6, h⟩ := hy_ga_some h
      rw [hF.1 22 (by decide) (by decide), e3] at e6
      have n6 : v6.toNatClampNeg = hg_A β i := by rw [e6]; rfl
      obtain ⟨_, v9, e9, h⟩ := hy_ga_some h
      rw [n6] at e9
      by_cases d : v9 = -1000000000
      · rw [if_pos d] at h
        unfold fX8_pushOn_84 at h
        rw [hn_i1' (by omega)] at h
        obtain ⟨q1, q2, q3, q4, q5, q6⟩ := ih σ (i + 1) k x1 o hF (by omega) (by omega) hb hs h
        refine ⟨q1, fun v hv => ?_, q3, q4, fun j j1 j2 j3 => ?_, q6⟩
        · rcases q2 v hv with z | z
          · exact Or.inl z
          · exact Or.inr ⟨by omega, by omega⟩
        · by_cases ej : j = i
          · exfalso
            rw [ej, ← e9, d] at j3
            exact j3 (by decide)
          · exact q5 j (by omega) j2 j3
      · rw [if_neg d] at h
        have d1 : ¬ v9.toInt = hg_U := hi_ne d
        have b9 : -1000 * (k : Int) ≤ v9.toInt ∧ v9.toInt ≤ 1000 * (k : Int) := by
          rcases hb _ a13 with z | z
          · rw [← e9] at z
            exact absurd z d1
          · rw [← e9] at z
            exact z
        obtain ⟨_, v13, e13, h⟩ := hy_ga_some h
        rw [hF.1 24 (by decide) (by decide), e3] at e13
        have n13 : v13.toInt = hg_Y β i := by rw [e13]; rfl
        obtain ⟨_, v16, e16, h⟩ := hy_ga_some h
        rw [hF.1 23 (by decide) (by decide), e3] at e16
        have n16 : v16.toNatClampNeg = hg_B β i := by rw [e16]; rfl
        obtain ⟨_, v19, e19, h⟩ := hy_ga_some h
        rw [n16] at e19
        have ga : (v9 + v13).toInt = v9.toInt + hg_Y β i := by rw [hs_add (by omega) (by omega), n13]
        by_cases f : v9 + v13 ≤ v19
        · rw [if_pos f] at h
          have f1 : (v9 + v13).toInt ≤ v19.toInt := hi_le.mp f
          rw [ga] at f1
          unfold fX8_pushOn_84 at h
          rw [hn_i1' (by omega)] at h
          obtain ⟨q1, q2, q3, q4, q5, q6⟩ := ih σ (i + 1) k x1 o hF (by omega) (by omega) hb hs h
          refine ⟨q1, fun v hv => ?_, q3, q4, fun j j1 j2 j3 => ?_, q6⟩
          · rcases q2 v hv with z | z
            · exact Or.inl z
            · exact Or.inr ⟨by omega, by omega⟩
          · by_cases ej : j = i
            · rw [ej, ← e9]
              have z := q4 _ b13 (by rw [← e19]; omega)
              rw [← e19] at z
              exact ⟨z.1, by omega⟩
            · exact q5 j (by omega) j2 j3
        · rw [if_neg f] at h
          have f1 : ¬ (v9 + v13).toInt ≤ v19.toInt := hi_nle f
          rw [ga] at f1
          obtain ⟨_, v23, e23, h⟩ := hy_ga_some h
          rw [hF.1 23 (by decide) (by decide), e3] at e23
          have n23 : v23.toNatClampNeg = hg_B β i := by rw [e23]; rfl
          obtain ⟨_, v26, e26, h⟩ := hy_ga_some h
          rw [hF.1 24 (by decide) (by decide), e3, ← e13] at e26
          obtain ⟨_, σ29, e29, h⟩ := hy_pa_some h
          rw [n23, e26] at e29
          unfold fX8_pushOn_84 at h
          rw [hn_i1' (by omega)] at h
          have k28 : σ29.1 28 = upd (σ.1 28) (hg_B β i) (v9 + v13) := by rw [e29]; rfl
          have mono1 : hg_mo (σ.1 28) (σ29.1 28) := by
            intro v hv z
            rw [k28]
            by_cases ev : v = hg_B β i
            · rw [ev, hs_upds, ga, ← e19]
              exact ⟨by omega, by omega⟩
            · rw [hs_upd ev]
              exact ⟨z, Int.le_refl _⟩
          have new : ∃ n, hg_r (hg_e β m) g n (hg_B β i) (v9.toInt + hg_Y β i) := by
            obtain ⟨n, s, y, s1, s2, s3, s4⟩ := hs _ a13 (by rw [← e9]; exact d1)
            rw [← e9] at s4
            refine ⟨n + 1, s, y + hg_Y β i, s1, s2, ⟨hg_A β i, hg_Y β i, ?_, ⟨i, im, rfl, rfl, rfl⟩⟩, by omega⟩
            rw [show y + hg_Y β i - hg_Y β i = y by omega]
            exact s3
          have hs1 : hg_so (hg_e β m) g (σ29.1 28) := by
            intro v hv z
            rw [k28] at z ⊢
            by_cases ev : v = hg_B β i
            · rw [ev, hs_upds, ga]
              exact new
            · rw [hs_upd ev] at z ⊢
              exact hs v hv z
          have hb1 : hg_bd (σ29.1 28) (k + 1) := by
            intro v hv
            rw [k28]
            by_cases ev : v = hg_B β i
            · rw [ev, hs_upds, ga]
              exact Or.inr ⟨by omega, by omega⟩
            · rw [hs_upd ev]
              rcases hb v hv with z | z
              · exact Or.inl z
              · exact Or.inr ⟨by omega, by omega⟩
          have hF1 : hg_F β σ29 := by rw [e29]; exact hg_Ft hF hg_F28
          obtain ⟨q1, q2, q3, q4, q5, q6⟩ := ih σ29 (i + 1) (k + 1) 1 o hF1 (by omega) (by omega) hb1 hs1 h
          have o1 : o.2 = 1 := by
            rcases q6 with z | z
            · exact z.1
            · exact z.1
          refine ⟨q1, fun v hv => ?_, q3, hg_mot mono1 q4, fun j j1 j2 j3 => ?_, Or.inr ⟨o1, ?_⟩⟩
          · rcases q2 v hv with z | z
            · exact Or.inl z
            · exact Or.inr ⟨by omega, by omega⟩
          · by_cases ej : j = i
            · rw [ej, ← e9]
              have z := q4 _ b13 (by rw [k28, hs_upds, ga]; omega)
              rw [k28, hs_upds, ga] at z
              exact z
            · obtain ⟨aj, _, _, _⟩ := ok.2.2 j j2
              obtain ⟨z1, z2⟩ := mono1 _ aj j3
              obtain ⟨z3, z4⟩ := q5 j (by omega) j2 z1
              exact ⟨z3, by omega⟩
          · obtain ⟨n, hn⟩ := new
            refine ⟨hg_B β i, n, _, b13, hn, fun z => ?_⟩
            rw [← e19] at z
            omega
noncomputable def hg_fx (β : hy_S) (m : Nat) (f : Nat → Int32) : Prop := ∀ j, j < m → ¬ (f (hg_A β j)).toInt = hg_U → ¬ (f (hg_B β j)).toInt = hg_U ∧ (f (hg_A β j)).toInt + hg_Y β j ≤ (f (hg_B β j)).toInt
theorem hg_e13 {β : hy_S} {m : Nat} (ok : hg_ok β m) : ∀ a b w, hg_e β m a b w → a < 13 ∧ b < 13 := by
  intro a b w ⟨i, i1, i2, i3, _⟩
  obtain ⟨z1, z2, _⟩ := ok.2.2 i i1
  rw [i2] at z1
  rw [i3] at z2
  exact ⟨z1, z2⟩
theorem hg_se {β : hy_S} {m : Nat} (ok : hg_ok β m) {g : Nat → Int} : ∀ (u : Nat) (σ : hy_S) (r : Nat) (o : hy_S × Int32), hg_F β σ → r ≤ 13 → hg_bd (σ.1 28) (60 * r) → hg_so (hg_e β m) g (σ.1 28) → hg_co (hg_e β m) g (σ.1 28) r → (r = 13 → ¬ hg_N (hg_e β m)) → fX8_settles_2 u σ (hv_i r) = some o → hg_F β o.1 ∧ hg_so (hg_e β m) g (o.1.1 28) ∧ hg_mo (σ.1 28) (o.1.1 28) ∧ ((o.2 = 1 ∧ hg_fx β m (o.1.1 28)) ∨ (o.2 = 0 ∧ ¬ hg_N (hg_e β m))) := by
  intro u
  induction u with
  | zero => intro σ r o hF hr hb hs hc hN h; cases h
  | succ u ih =>
    intro σ r o hF hr hb hs hc hN h
    have m60 := ok.1
    have er := hv_ii (r := r) (by omega)
    unfold fX8_settles_2 at h
    by_cases c : 13 ≤ hv_i r
    · rw [if_pos c] at h
      have c1 : (13 : Int) ≤ (hv_i r).toInt := hi_le.mp c
      obtain ⟨s1, s2⟩ := hi_pr h
      rw [s1]
      exact ⟨hF, hs, hg_mo0, Or.inr ⟨s2, hN (by omega)⟩⟩
    · rw [if_neg c] at h
      have c1 : ¬ (13 : Int) ≤ (hv_i r).toInt := hi_nle c
      obtain ⟨σ2, v3, e2, h⟩ := hy_bd_some h
      unfold fX8_pushOn at e2
      obtain ⟨q1, q2, q3, q4, q5, q6⟩ := hg_pu ok hy_fu σ 0 (60 * r) 0 (σ2, v3) hF (Nat.zero_le _) (by omega) hb hs e2
      have q1 : hg_F β σ2 := q1
      have q2 : hg_bd (σ2.1 28) (60 * r + (m - 0)) := q2
      have q3 : hg_so (hg_e β m) g (σ2.1 28) := q3
      have q4 : hg_mo (σ.1 28) (σ2.1 28) := q4
      by_cases d : v3 = 0
      · rw [if_pos d] at h
        obtain ⟨s1, s2⟩ := hi_pr h
        rw [s1]
        refine ⟨q1, q3, q4, Or.inl ⟨s2, ?_⟩⟩
        rcases q6 with ⟨_, z⟩ | ⟨z, _⟩
        · have z : σ2.1 28 = σ.1 28 := z
          intro j j1 j2
          rw [z] at j2
          have w := q5 j (Nat.zero_le _) j1 j2
          have w : ¬ (σ2.1 28 (hg_B β j)).toInt = hg_U ∧ (σ.1 28 (hg_A β j)).toInt + hg_Y β j ≤ (σ2.1 28 (hg_B β j)).toInt := w
          rw [← z] at w
          exact w
        · have z : v3 = 1 := z
          rw [d] at z
          exact absurd z (by decide)
      · rw [if_neg d] at h
        rw [hn_i1' (by omega)] at h
        have hb2 : hg_bd (σ2.1 28) (60 * (r + 1)) := by
          intro v hv
          rcases q2 v hv with z | z
          · exact Or.inl z
          · exact Or.inr ⟨by omega, by omega⟩
        have hc2 : hg_co (hg_e β m) g (σ2.1 28) (r + 1) := by
          intro v n x hv hn ⟨s, y, s1, s2, s3, s4⟩
          cases n with
          | zero =>
            obtain ⟨z1, z2⟩ := hc v 0 x hv (Nat.zero_le _) ⟨s, y, s1, s2, s3, s4⟩
            obtain ⟨z3, z4⟩ := q4 v hv z1
            exact ⟨z3, by omega⟩
          | succ n =>
            obtain ⟨p, w, w1, j, j1, j2, j3, j4⟩ := s3
            have p13 := (hg_e13 ok _ _ _ ⟨j, j1, j2, j3, j4⟩).1
            obtain ⟨z1, z2⟩ := hc p n (g s + (y - w)) p13 (by omega) ⟨s, y - w, s1, s2, w1, rfl⟩
            rw [← j2] at z1 z2
            obtain ⟨z3, z4⟩ := q5 j (Nat.zero_le _) j1 z1
            rw [j3] at z3 z4
            have z4 : (σ.1 28 (hg_A β j)).toInt + hg_Y β j ≤ (σ2.1 28 v).toInt := z4
            exact ⟨z3, by omega⟩
        obtain ⟨w1, w2, w3, w4⟩ := ih σ2 (r + 1) o q1 (by omega) hb2 q3 hc2 (by
          intro r13 nN
          rcases q6 with ⟨z, _⟩ | ⟨_, v, n, x, z1, ⟨s, y, s1, s2, s3, s4⟩, z3⟩
          · exact d z
          · obtain ⟨k, y2, k1, k2, k3, _⟩ := hg_short (hg_e13 ok) nN n s v y s3
            obtain ⟨a1, a2⟩ := hc v k (g s + y2) z1 (by omega) ⟨s, y2, s1, s2, k3, rfl⟩
            exact z3 ⟨a1, by omega⟩) h
        exact ⟨w1, w2, hg_mot q4 w3, w4⟩
theorem hg_sa2 {x : Int32} : ∀ (u : Nat) (σ : hy_S) (i : Nat) (o : hy_S × Int32), i ≤ 13 → (∀ v, v < i → σ.1 28 v = x) → fX8_setAll_a_2 u σ x (hv_i i) = some o → hg_F σ o.1 ∧ ∀ v, v < 13 → o.1.1 28 v = x := by
  intro u
  induction u with
  | zero => intro σ i o hi hv h; cases h
  | succ u ih =>
    intro σ i o hi hv h
    have ei := hv_ii (r := i) (by omega)
    unfold fX8_setAll_a_2 at h
    by_cases c : 13 ≤ hv_i i
    · rw [if_pos c] at h
      have c1 : (13 : Int) ≤ (hv_i i).toInt := hi_le.mp c
      rw [(hi_pr h).1]
      exact ⟨hg_F0, fun v hv2 => hv v (by omega)⟩
    · rw [if_neg c] at h
      obtain ⟨_, τ, e, h⟩ := hy_pa_some h
      rw [hv_iN (by omega)] at e
      rw [hn_i1' (by omega)] at h
      have c1 : ¬ (13 : Int) ≤ (hv_i i).toInt := hi_nle c
      obtain ⟨q1, q2⟩ := ih τ (i + 1) o (by omega) (by
        intro v hv2
        rw [e]
        show upd (σ.1 28) i x v = x
        by_cases ev : v = i
        · rw [ev, hs_upds]
        · rw [hs_upd ev]
          exact hv v (by omega)) h
      rw [e] at q1
      exact ⟨hg_Ft hg_F28 q1, q2⟩
theorem hg_sa {σ : hy_S} {x : Int32} {o : hy_S × Int32} (h : fX8_setAll_a σ x = some o) : hg_F σ o.1 ∧ ∀ v, v < 13 → o.1.1 28 v = x := by
  unfold fX8_setAll_a at h
  exact hg_sa2 hy_fu σ 0 o (by omega) (fun v hv => absurd hv (Nat.not_lt_zero _)) h
theorem hg_cah {σ : hy_S} {m : Nat} (ok : hg_ok σ m) {o : hy_S × Int32} (h : fX8_canAllHold σ = some o) : hg_F σ o.1 ∧ ((o.2 = 1 ∧ ∀ n p x, hg_W (hg_e σ m) n p p x → x ≤ 0) ∨ (o.2 = 0 ∧ ¬ hg_N (hg_e σ m))) := by
  unfold fX8_canAllHold at h
  obtain ⟨σ1, v2, e1, h⟩ := hy_bd_some h
  obtain ⟨F1, z1⟩ := hg_sa e1
  have F1 : hg_F σ σ1 := F1
  have z1 : ∀ v, v < 13 → σ1.1 28 v = 0 := z1
  obtain ⟨σ4, v5, e4, h⟩ := hy_bd_some h
  obtain ⟨_, h⟩ := hy_ck_some h
  unfold fX8_settles at e4
  have zi : ∀ v, v < 13 → (σ1.1 28 v).toInt = 0 := fun v hv => by rw [z1 v hv]; rfl
  obtain ⟨w1, w2, w3, w4⟩ := hg_se ok (g := fun _ => 0) hy_fu σ1 0 (σ4, v5) F1 (by omega) (fun v hv => Or.inr ⟨by rw [zi v hv]; omega, by rw [zi v hv]; omega⟩) (fun v hv _ => ⟨0, v, 0, hv, (by show ¬ (0 : Int) = hg_U; decide), ⟨rfl, rfl⟩, by rw [zi v hv]; rfl⟩) (by
    intro v n x hv hn ⟨s, y, s1, s2, s3, s4⟩
    have en : n = 0 := by omega
    subst en
    have y0 : y = 0 := s3.2
    have s4 : x = 0 + y := s4
    rw [zi v hv]
    exact ⟨by decide, by omega⟩) (fun z => absurd z (by decide)) e4
  have w1 : hg_F σ σ4 := w1
  have w3 : hg_mo (σ1.1 28) (σ4.1 28) := w3
  have w4 : (v5 = 1 ∧ hg_fx σ m (σ4.1 28)) ∨ (v5 = 0 ∧ ¬ hg_N (hg_e σ m)) := w4
  obtain ⟨s1, s2⟩ := hi_pr h
  rw [s1, s2]
  refine ⟨w1, ?_⟩
  rcases w4 with ⟨y1, y2⟩ | y
  · refine Or.inl ⟨y1, fun n p x hw => ?_⟩
    have := hg_pot (e := hg_e σ m) (f := fun v => (σ4.1 28 v).toInt) (by
      intro a b w ⟨j, j1, j2, j3, j4⟩
      obtain ⟨aj, _, _, _⟩ := ok.2.2 j j1
      obtain ⟨z3, z4⟩ := w3 _ aj (by rw [zi _ aj]; decide)
      obtain ⟨z5, z6⟩ := y2 j j1 z3
      rw [j2, j3, j4] at z6
      exact z6) n p p x hw
    omega
  · exact Or.inr y
