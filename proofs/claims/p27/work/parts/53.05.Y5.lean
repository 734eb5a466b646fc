/-! The most years between two points; rings of just so many steps. -/
/-- v is the greatest of S, or u where S has none -/
noncomputable def hg_X (u v : Int) (S : Int → Prop) : Prop := (v = u ∧ ∀ x, ¬ S x) ∨ (¬ v = u ∧ S v ∧ ∀ x, S x → x ≤ v)
theorem hg_Xeq {u v : Int} {S T : Int → Prop} (h : hg_X u v S) (st : ∀ x, S x ↔ T x) : hg_X u v T := by
  rcases h with ⟨h1, h2⟩ | ⟨h1, h2, h3⟩
  · exact Or.inl ⟨h1, fun x z => h2 x ((st x).mpr z)⟩
  · exact Or.inr ⟨h1, (st v).mp h2, fun x z => h3 x ((st x).mpr z)⟩
/-- two greatest ones of one set, whatever stands for none -/
theorem hg_XX {u v u2 v2 : Int} {S : Int → Prop} (h : hg_X u v S) (h2 : hg_X u2 v2 S) : (v = u ∧ v2 = u2) ∨ (¬ v = u ∧ ¬ v2 = u2 ∧ v = v2) := by
  rcases h with ⟨a, b⟩ | ⟨a, b, c⟩
  · rcases h2 with ⟨d, e⟩ | ⟨d, e, f⟩
    · exact Or.inl ⟨a, d⟩
    · exact absurd e (b _)
  · rcases h2 with ⟨d, e⟩ | ⟨d, e, f⟩
    · exact absurd b (e _)
    · have := c _ e
      have := f _ b
      exact Or.inr ⟨a, d, by omega⟩
noncomputable def hg_g (p v : Nat) : Int := if v = p then 0 else hg_U
theorem hg_g1 {p : Nat} : hg_g p p = 0 := if_pos rfl
theorem hg_g0 {p v : Nat} (h : ¬ v = p) : hg_g p v = hg_U := if_neg h
theorem hg_yb {σ : hy_S} {m : Nat} (ok : hg_ok σ m) (hall : ∀ n p x, hg_W (hg_e σ m) n p p x → x ≤ 0) {p q : Nat} (p13 : p < 13) (q13 : q < 13) {o : hy_S × Int32} (h : fX8_yearsBetween σ (hv_i p) (hv_i q) = some o) : hg_F σ o.1 ∧ hg_X hg_U o.2.toInt (fun x => ∃ n, hg_W (hg_e σ m) n p q x) := by
  unfold fX8_yearsBetween at h
  obtain ⟨σ1, v2, e1, h⟩ := hy_bd_some h
  obtain ⟨F1, z1⟩ := hg_sa e1
  have F1 : hg_F σ σ1 := F1
  have z1 : ∀ v, v < 13 → σ1.1 28 v = -1000000000 := z1
  obtain ⟨_, σ4, e4, h⟩ := hy_pa_some h
  rw [hv_iN (by omega)] at e4
  have F4 : hg_F σ σ4 := by rw [e4]; exact hg_Ft F1 hg_F28
  have k28 : σ4.1 28 = upd (σ1.1 28) p 0 := by rw [e4]; rfl
  have vp : (σ4.1 28 p).toInt = 0 := by rw [k28, hs_upds]; rfl
  have vo : ∀ v, v < 13 → ¬ v = p → (σ4.1 28 v).toInt = hg_U := fun v hv ne => by rw [k28, hs_upd ne, z1 v hv]; rfl
  obtain ⟨σ7, v8, e7, h⟩ := hy_bd_some h
  unfold fX8_settles at e7
  obtain ⟨w1, w2, w3, w4⟩ := hg_se ok (g := hg_g p) hy_fu σ4 0 (σ7, v8) F4 (by omega) (by
    intro v hv
    by_cases ev : v = p
    · rw [ev, vp]
      exact Or.inr ⟨by omega, by omega⟩
    · exact Or.inl (vo v hv ev)) (by
    intro v hv z
    by_cases ev : v = p
    · refine ⟨0, v, 0, hv, ?_, ⟨rfl, rfl⟩, ?_⟩
      · rw [ev, hg_g1]
        decide
      · rw [ev, vp, hg_g1]
        rfl
    · exact absurd (vo v hv ev) z) (by
    intro v n x hv hn ⟨s, y, s1, s2, s3, s4⟩
    have en : n = 0 := by omega
    subst en
    have es : s = v := s3.1
    have y0 : y = 0 := s3.2
    by_cases ev : s = p
    · rw [ev, hg_g1] at s4
      rw [← es, ev, vp]
      exact ⟨by decide, by omega⟩
    · rw [hg_g0 ev] at s2
      exact absurd rfl s2) (fun z => absurd z (by decide)) e7
  have w1 : hg_F σ σ7 := w1
  have w2 : hg_so (hg_e σ m) _ (σ7.1 28) := w2
  have w3 : hg_mo (σ4.1 28) (σ7.1 28) := w3
  have w4 : (v8 = 1 ∧ hg_fx σ m (σ7.1 28)) ∨ (v8 = 0 ∧ ¬ hg_N (hg_e σ m)) := w4
  have fx : hg_fx σ m (σ7.1 28) := by
    rcases w4 with z | z
    · exact z.2
    · exact absurd (fun n p x _ _ hw => hall n p x hw) z.2
  have comp : ∀ (n v : Nat) (x : Int), hg_W (hg_e σ m) n p v x → ¬ (σ7.1 28 v).toInt = hg_U ∧ x ≤ (σ7.1 28 v).toInt := by
    intro n
    induction n with
    | zero =>
      intro v x hw
      obtain ⟨a1, a2⟩ := hw
      obtain ⟨b1, b2⟩ := w3 p p13 (by rw [vp]; decide)
      rw [vp] at b2
      rw [← a1]
      exact ⟨b1, by omega⟩
    | succ n ih =>
      intro v x hw
      obtain ⟨k, w, k1, j, j1, j2, j3, j4⟩ := hw
      obtain ⟨b1, b2⟩ := ih k _ k1
      rw [← j2] at b1 b2
      obtain ⟨b3, b4⟩ := fx j j1 b1
      rw [j3] at b3 b4
      exact ⟨b3, by omega⟩
  obtain ⟨_, v10, e10, h⟩ := hy_ga_some h
  rw [hv_iN (by omega)] at e10
  obtain ⟨s1, s2⟩ := hi_pr h
  rw [s1, s2]
  refine ⟨w1, ?_⟩
  by_cases c : v10.toInt = hg_U
  · refine Or.inl ⟨c, fun x ⟨n, hw⟩ => ?_⟩
    have z := (comp n q x hw).1
    rw [← e10] at z
    exact z c
  · refine Or.inr ⟨c, ?_, fun x ⟨n, hw⟩ => ?_⟩
    · obtain ⟨n, s, y, a1, a2, a3, a4⟩ := w2 q q13 (by rw [← e10]; exact c)
      by_cases ev : s = p
      · rw [ev, hg_g1, ← e10] at a4
        rw [ev] at a3
        exact ⟨n, by rw [a4, Int.zero_add]; exact a3⟩
      · rw [hg_g0 ev] at a2
        exact absurd rfl a2
    · have z := (comp n q x hw).2
      rw [← e10] at z
      exact z
/-- one more step -/
theorem hg_so11 {β : hy_S} {m : Nat} (ok : hg_ok β m) {f : Nat → Int32} {k : Nat} (k20 : k ≤ 20) (hb : hg_bd f k) : ∀ (u : Nat) (σ : hy_S) (i : Nat) (o : hy_S × Int32), hg_F β σ → i ≤ m → σ.1 28 = f → (∀ v, v < 13 → hg_X hg_U (σ.1 29 v).toInt (fun x => ∃ j, j < i ∧ hg_B β j = v ∧ ¬ (f (hg_A β j)).toInt = hg_U ∧ x = (f (hg_A β j)).toInt + hg_Y β j)) → fX8_stepOn_11 u σ (hv_i i) = some o → hg_F β o.1 ∧ ∀ v, v < 13 → hg_X hg_U (o.1.1 28 v).toInt (fun x => ∃ j, j < m ∧ hg_B β j = v ∧ ¬ (f (hg_A β j)).toInt = hg_U ∧ x = (f (hg_A β j)).toInt + hg_Y β j) := by
  intro u
  induction u with
  | zero => intro σ i o hF hi h28 hX h; cases h
  | succ u ih =>
    intro σ i o hF hi h28 hX h
    have U : hg_U = -1000000000 := rfl
    have m60 := ok.1
    have ei := hv_ii (r := i) (by omega)
    have em := hv_ii (r := m) (by omega)
    have ni := hv_iN (r := i) (by omega)
    unfold fX8_stepOn_11 at h
    rw [show σ.2 9 = hv_i m by rw [hF.2]; exact ok.2.1] at h
    by_cases c : hv_i m ≤ hv_i i
    · rw [if_pos c] at h
      have c1 : (hv_i m).toInt ≤ (hv_i i).toInt := hi_le.mp c
      have e : i = m := by omega
      obtain ⟨τ, eτ, h⟩ := hy_cp_some h
      rw [(hi_pr h).1, eτ]
      refine ⟨hg_Ft hF hg_F28, fun v hv => ?_⟩
      have w : (hy_sc σ 28 (va_cpy (σ.1 29) (σ.1 28) (0 : Int32).toNatClampNeg (0 : Int32).toNatClampNeg (13 : Int32).toNatClampNeg)).1 28 v = σ.1 29 v := by
        show va_cpy (σ.1 29) (σ.1 28) 0 0 13 v = σ.1 29 v
        unfold va_cpy
        rw [if_pos ⟨Nat.zero_le _, by omega⟩, show 0 + (v - 0) = v by omega]
      rw [w, ← e]
      exact hX v hv
    · rw [if_neg c] at h
      have c1 := hi_nle c
      have im : i < m := by omega
      obtain ⟨a13, b13, y0, y1⟩ := ok.2.2 i im
      obtain ⟨_, v3, e3, h⟩ := hy_ga_some h
      rw [ni, hF.1 27 (by decide) (by decide)] at e3
      obtain ⟨_, v6, e6, h⟩ := hy_ga_some h
      rw [hF.1 22 (by decide) (by decide), e3] at e6
      have n6 : v6.toNatClampNeg = hg_A β i := by rw [e6]; rfl
      obtain ⟨_, v9, e9, h⟩ := hy_ga_some h
      rw [n6, h28] at e9
      by_cases d : v9 = -1000000000
      · rw [if_pos d] at h
        unfold fX8_stepOn_85 at h
        rw [hn_i1' (by omega)] at h
        refine ih σ (i + 1) o hF (by omega) h28 (fun v hv => hg_Xeq (hX v hv) (fun x => ⟨fun ⟨j, j1, j2⟩ => ⟨j, by omega, j2⟩, fun ⟨j, j1, j2, j3, j4⟩ => ?_⟩)) h
        by_cases ej : j = i
        · exfalso
          rw [ej, ← e9, d] at j3
          exact j3 (by decide)
        · exact ⟨j, by omega, j2, j3, j4⟩
      · rw [if_neg d] at h
        have d1 : ¬ v9.toInt = hg_U := hi_ne d
        have b9 : -1000 * (k : Int) ≤ v9.toInt ∧ v9.toInt ≤ 1000 * (k : Int) := by
          rcases hb _ a13 with z | z
          · rw [← e9] at z
            exact absurd z d1
          · rw [← e9] at z
            exact z
        obtain ⟨_, v13, e13, h⟩ := hy_ga_some h
        rw [hF.1 24 (by decide) (by decide), e3] at e13
        have n13 : v13.toInt = hg_Y β i := by rw [e13]; rfl
        obtain ⟨_, v16, e16, h⟩ := hy_ga_some h
        rw [hF.1 23 (by decide) (by decide), e3] at e16
        have n16 : v16.toNatClampNeg = hg_B β i := by rw [e16]; rfl
        obtain ⟨_, v19, e19, h⟩ := hy_ga_some h
        rw [n16] at e19
        have ga : (v9 + v13).toInt = v9.toInt + hg_Y β i := by rw [hs_add (by omega) (by omega), n13]
        have other : ∀ v, v < 13 → ¬ v = hg_B β i → hg_X hg_U (σ.1 29 v).toInt (fun x => ∃ j, j < i + 1 ∧ hg_B β j = v ∧ ¬ (f (hg_A β j)).toInt = hg_U ∧ x = (f (hg_A β j)).toInt + hg_Y β j) := by
          intro v hv ne
          refine hg_Xeq (hX v hv) (fun x => ⟨fun ⟨j, j1, j2⟩ => ⟨j, by omega, j2⟩, fun ⟨j, j1, j2, j3, j4⟩ => ?_⟩)
          by_cases ej : j = i
          · exfalso
            rw [ej] at j2
            exact ne j2.symm
          · exact ⟨j, by omega, j2, j3, j4⟩
        by_cases q : v9 + v13 ≤ v19
        · rw [if_pos q] at h
          have f1 : (v9 + v13).toInt ≤ v19.toInt := hi_le.mp q
          rw [ga] at f1
          unfold fX8_stepOn_85 at h
          rw [hn_i1' (by omega)] at h
          refine ih σ (i + 1) o hF (by omega) h28 (fun v hv => ?_) h
          by_cases ev : v = hg_B β i
          · have X := hX _ b13
            rw [← e19] at X
            rw [ev, ← e19]
            rcases X with ⟨x1, x2⟩ | ⟨x1, ⟨j, j1, j2⟩, x3⟩
            · exfalso
              omega
            · refine Or.inr ⟨x1, ⟨j, by omega, j2⟩, fun x ⟨j, j1, j2, j3, j4⟩ => ?_⟩
              by_cases ej : j = i
              · rw [ej, ← e9] at j4
                omega
              · exact x3 x ⟨j, by omega, j2, j3, j4⟩
          · exact other v hv ev
        · rw [if_neg q] at h
          have f1 : ¬ (v9 + v13).toInt ≤ v19.toInt := hi_nle q
          rw [ga] at f1
          obtain ⟨_, v23, e23, h⟩ := hy_ga_some h
          rw [hF.1 23 (by decide) (by decide), e3] at e23
          have n23 : v23.toNatClampNeg = hg_B β i := by rw [e23]; rfl
          obtain ⟨_, v26, e26, h⟩ := hy_ga_some h
          rw [hF.1 24 (by decide) (by decide), e3, ← e13] at e26
          obtain ⟨_, σ29, e29, h⟩ := hy_pa_some h
          rw [n23, e26] at e29
          unfold fX8_stepOn_85 at h
          rw [hn_i1' (by omega)] at h
          refine ih σ29 (i + 1) o (by rw [e29]; exact hg_Ft hF hg_F29) (by omega) (by rw [e29]; exact h28) (fun v hv => ?_) h
          have k29 : σ29.1 29 = upd (σ.1 29) (hg_B β i) (v9 + v13) := by rw [e29]; rfl
          rw [k29]
          by_cases ev : v = hg_B β i
          · rw [ev, hs_upds, ga]
            refine Or.inr ⟨by omega, ⟨i, by omega, rfl, by rw [← e9]; exact d1, by rw [← e9]⟩, fun x ⟨j, j1, j2, j3, j4⟩ => ?_⟩
            by_cases ej : j = i
            · rw [ej, ← e9] at j4
              omega
            · have X := hX _ b13
              rw [← e19] at X
              rcases X with ⟨x1, x2⟩ | ⟨x1, _, x3⟩
              · exact absurd ⟨j, by omega, j2, j3, j4⟩ (x2 x)
              · have := x3 x ⟨j, by omega, j2, j3, j4⟩
                omega
          · rw [hs_upd ev]
            exact other v hv ev
theorem hg_sn2 {x : Int32} : ∀ (u : Nat) (σ : hy_S) (i : Nat) (o : hy_S × Int32), i ≤ 13 → (∀ v, v < i → σ.1 29 v = x) → fX8_setAll_n_2 u σ x (hv_i i) = some o → hg_F σ o.1 ∧ o.1.1 28 = σ.1 28 ∧ ∀ v, v < 13 → o.1.1 29 v = x := by
  intro u
  induction u with
  | zero => intro σ i o hi hv h; cases h
  | succ u ih =>
    intro σ i o hi hv h
    have U : hg_U = -1000000000 := rfl
    have ei := hv_ii (r := i) (by omega)
    unfold fX8_setAll_n_2 at h
    by_cases c : 13 ≤ hv_i i
    · rw [if_pos c] at h
      have c1 : (13 : Int) ≤ (hv_i i).toInt := hi_le.mp c
      rw [(hi_pr h).1]
      exact ⟨hg_F0, rfl, fun v hv2 => hv v (by omega)⟩
    · rw [if_neg c] at h
      obtain ⟨_, τ, e, h⟩ := hy_pa_some h
      rw [hv_iN (by omega)] at e
      rw [hn_i1' (by omega)] at h
      have c1 : ¬ (13 : Int) ≤ (hv_i i).toInt := hi_nle c
      obtain ⟨q1, q2, q3⟩ := ih τ (i + 1) o (by omega) (by
        intro v hv2
        rw [e]
        show upd (σ.1 29) i x v = x
        by_cases ev : v = i
        · rw [ev, hs_upds]
        · rw [hs_upd ev]
          exact hv v (by omega)) h
      rw [e] at q1 q2
      exact ⟨hg_Ft hg_F29 q1, q2, q3⟩
theorem hg_stepOn {β σ : hy_S} {m : Nat} (ok : hg_ok β m) (hF : hg_F β σ) {n p : Nat} (n20 : n ≤ 19) (hb : hg_bd (σ.1 28) n) (hX : ∀ v, v < 13 → hg_X hg_U (σ.1 28 v).toInt (hg_W (hg_e β m) n p v)) {o : hy_S × Int32} (h : fX8_stepOn σ = some o) : hg_F β o.1 ∧ hg_bd (o.1.1 28) (n + 1) ∧ ∀ v, v < 13 → hg_X hg_U (o.1.1 28 v).toInt (hg_W (hg_e β m) (n + 1) p v) := by
  unfold fX8_stepOn at h
  obtain ⟨σ1, v2, e1, h⟩ := hy_bd_some h
  unfold fX8_setAll_n at e1
  obtain ⟨F1, k28, z1⟩ := hg_sn2 hy_fu σ 0 (σ1, v2) (by omega) (fun v hv => absurd hv (Nat.not_lt_zero _)) e1
  have F1 : hg_F σ σ1 := F1
  have k28 : σ1.1 28 = σ.1 28 := k28
  have z1 : ∀ v, v < 13 → σ1.1 29 v = -1000000000 := z1
  obtain ⟨w1, w2⟩ := hg_so11 ok (k := n) (by omega) hb hy_fu σ1 0 o (hg_Ft hF F1) (Nat.zero_le _) k28 (by
    intro v hv
    rw [z1 v hv]
    exact Or.inl ⟨rfl, fun x ⟨j, j1, _⟩ => absurd j1 (Nat.not_lt_zero _)⟩) h
  have fin : ∀ v, v < 13 → hg_X hg_U (o.1.1 28 v).toInt (hg_W (hg_e β m) (n + 1) p v) := by
    intro v hv
    rcases w2 v hv with ⟨x1, x2⟩ | ⟨x1, ⟨j, j1, j2, j3, j4⟩, x3⟩
    · refine Or.inl ⟨x1, fun x ⟨k, w, k1, j, j1, j2, j3, j4⟩ => ?_⟩
      obtain ⟨aj, _, _, _⟩ := ok.2.2 j j1
      rw [← j2] at k1
      rcases hX _ aj with ⟨y1, y2⟩ | ⟨y1, y2, y3⟩
      · exact y2 _ k1
      · exact x2 _ ⟨j, j1, j3, y1, rfl⟩
    · obtain ⟨aj, _, _, _⟩ := ok.2.2 j j1
      rcases hX _ aj with ⟨y1, y2⟩ | ⟨y1, y2, y3⟩
      · exact absurd y1 j3
      · refine Or.inr ⟨x1, ⟨hg_A β j, hg_Y β j, ?_, ⟨j, j1, rfl, j2, rfl⟩⟩, fun x ⟨k, w, k1, i, i1, i2, i3, i4⟩ => ?_⟩
        · rw [j4, show ∀ a b : Int, a + b - b = a from fun a b => by omega]
          exact y2
        · obtain ⟨ai, _, _, _⟩ := ok.2.2 i i1
          rw [← i2] at k1
          rcases hX _ ai with ⟨u1, u2⟩ | ⟨u1, u2, u3⟩
          · exact absurd k1 (u2 _)
          · have a := u3 _ k1
            have b := x3 _ ⟨i, i1, i3, u1, rfl⟩
            omega
  refine ⟨w1, fun v hv => ?_, fin⟩
  rcases w2 v hv with ⟨x1, x2⟩ | ⟨x1, ⟨j, j1, j2, j3, j4⟩, x3⟩
  · exact Or.inl x1
  · obtain ⟨aj, _, y0, y1⟩ := ok.2.2 j j1
    rcases hb _ aj with z | z
    · exact absurd z j3
    · exact Or.inr ⟨by omega, by omega⟩
/-- a ring of n steps that leads to more than 0 -/
noncomputable def hg_ring (e : Nat → Nat → Int → Prop) (n p : Nat) : Prop := ∃ x, 0 < x ∧ hg_W e n p p x
theorem hg_rt {β : hy_S} {m : Nat} (ok : hg_ok β m) {p l : Nat} (p13 : p < 13) (l14 : l ≤ 14) : ∀ (u : Nat) (σ : hy_S) (n : Nat) (o : hy_S × Int32), hg_F β σ → n ≤ 13 → hg_bd (σ.1 28) n → (∀ v, v < 13 → hg_X hg_U (σ.1 28 v).toInt (hg_W (hg_e β m) n p v)) → (∀ k, 1 ≤ k → k ≤ n → ¬ hg_ring (hg_e β m) k p) → fX8_ringThrough_18 u σ (hv_i p) (hv_i l) (hv_i (n + 1)) = some o → hg_F β o.1 ∧ ∃ r, o.2 = hv_i r ∧ r ≤ l ∧ (r < l → hg_ring (hg_e β m) r p ∧ 1 ≤ r) ∧ ∀ k, 1 ≤ k → k < r → ¬ hg_ring (hg_e β m) k p := by
  intro u
  induction u with
  | zero => intro σ n o hF hn hb hX hr h; cases h
  | succ u ih =>
    intro σ n o hF hn hb hX hr h
    have U : hg_U = -1000000000 := rfl
    have el := hv_ii (r := l) (by omega)
    have en := hv_ii (r := n + 1) (by omega)
    unfold fX8_ringThrough_18 at h
    by_cases c : hv_i l ≤ hv_i (n + 1)
    · rw [if_pos c] at h
      have c1 : (hv_i l).toInt ≤ (hv_i (n + 1)).toInt := hi_le.mp c
      obtain ⟨s1, s2⟩ := hi_pr h
      rw [s1, s2]
      exact ⟨hF, l, rfl, Nat.le_refl _, fun z => absurd z (Nat.lt_irrefl _), fun k k1 k2 => hr k k1 (by omega)⟩
    · rw [if_neg c] at h
      have c1 := hi_nle c
      obtain ⟨σ2, v3, e2, h⟩ := hy_bd_some h
      obtain ⟨w1, w2, w3⟩ := hg_stepOn ok hF (by omega) hb hX e2
      have w1 : hg_F β σ2 := w1
      have w2 : hg_bd (σ2.1 28) (n + 1) := w2
      have w3 : ∀ v, v < 13 → hg_X hg_U (σ2.1 28 v).toInt (hg_W (hg_e β m) (n + 1) p v) := w3
      obtain ⟨_, v5, e5, h⟩ := hy_ga_some h
      rw [hv_iN (by omega)] at e5
      have X := w3 p p13
      rw [← e5] at X
      by_cases d : v5 ≤ 0
      · rw [if_pos d] at h
        have d1 : v5.toInt ≤ 0 := hi_le.mp d
        rw [hn_i1' (by omega)] at h
        refine ih σ2 (n + 1) o w1 (by omega) w2 w3 (fun k k1 k2 ⟨x, x1, x2⟩ => ?_) h
        by_cases ek : k = n + 1
        · rw [ek] at x2
          rcases X with ⟨y1, y2⟩ | ⟨y1, y2, y3⟩
          · exact y2 x x2
          · have := y3 x x2
            omega
        · exact hr k k1 (by omega) ⟨x, x1, x2⟩
      · rw [if_neg d] at h
        have d1 : ¬ v5.toInt ≤ 0 := hi_nle d
        obtain ⟨s1, s2⟩ := hi_pr h
        rw [s1, s2]
        refine ⟨w1, n + 1, rfl, by omega, fun _ => ⟨?_, by omega⟩, fun k k1 k2 => hr k k1 (by omega)⟩
        rcases X with ⟨y1, y2⟩ | ⟨y1, y2, y3⟩
        · exfalso
          omega
        · exact ⟨v5.toInt, by omega, y2⟩
theorem hg_ringT {β σ : hy_S} {m : Nat} (ok : hg_ok β m) (hF : hg_F β σ) {p l : Nat} (p13 : p < 13) (l14 : l ≤ 14) {o : hy_S × Int32} (h : fX8_ringThrough σ (hv_i p) (hv_i l) = some o) : hg_F β o.1 ∧ ∃ r, o.2 = hv_i r ∧ r ≤ l ∧ (r < l → hg_ring (hg_e β m) r p ∧ 1 ≤ r) ∧ ∀ k, 1 ≤ k → k < r → ¬ hg_ring (hg_e β m) k p := by
  unfold fX8_ringThrough at h
  obtain ⟨σ1, v2, e1, h⟩ := hy_bd_some h
  obtain ⟨F1, z1⟩ := hg_sa e1
  have F1 : hg_F σ σ1 := F1
  have z1 : ∀ v, v < 13 → σ1.1 28 v = -1000000000 := z1
  obtain ⟨_, σ4, e4, h⟩ := hy_pa_some h
  rw [hv_iN (by omega)] at e4
  have k28 : σ4.1 28 = upd (σ1.1 28) p 0 := by rw [e4]; rfl
  have vp : (σ4.1 28 p).toInt = 0 := by rw [k28, hs_upds]; rfl
  have vo : ∀ v, v < 13 → ¬ v = p → (σ4.1 28 v).toInt = hg_U := fun v hv ne => by rw [k28, hs_upd ne, z1 v hv]; rfl
  refine hg_rt ok p13 l14 hy_fu σ4 0 o (by rw [e4]; exact hg_Ft (hg_Ft hF F1) hg_F28) (by omega) (fun v hv => ?_) (fun v hv => ?_) (fun k k1 k2 => absurd k2 (by omega)) h
  · by_cases ev : v = p
    · rw [ev, vp]
      exact Or.inr ⟨by omega, by omega⟩
    · exact Or.inl (vo v hv ev)
  · by_cases ev : v = p
    · rw [ev, vp]
      exact Or.inr ⟨by decide, ⟨rfl, rfl⟩, fun x hx => by rw [hx.2]; exact Int.le_refl _⟩
    · rw [vo v hv ev]
      exact Or.inl ⟨rfl, fun x hx => ev hx.1.symm⟩
theorem hg_few {β : hy_S} {m : Nat} (ok : hg_ok β m) : ∀ (u : Nat) (σ : hy_S) (f p : Nat) (o : hy_S × Int32), hg_F β σ → f ≤ 14 → p ≤ 13 → (f < 14 → 1 ≤ f ∧ ∃ q, q < 13 ∧ hg_ring (hg_e β m) f q) → (∀ q k, q < p → 1 ≤ k → k < f → ¬ hg_ring (hg_e β m) k q) → fX8_fewestThatQuarrel_5 u σ (hv_i f) (hv_i p) = some o → hg_F β o.1 ∧ ∃ r, o.2 = hv_i r ∧ r ≤ 14 ∧ (r < 14 → 1 ≤ r ∧ ∃ q, q < 13 ∧ hg_ring (hg_e β m) r q) ∧ ∀ q k, q < 13 → 1 ≤ k → k < r → ¬ hg_ring (hg_e β m) k q := by
  intro u
  induction u with
  | zero => intro σ f p o hF hf hp h1 h2 h; cases h
  | succ u ih =>
    intro σ f p o hF hf hp h1 h2 h
    have U : hg_U = -1000000000 := rfl
    have ep := hv_ii (r := p) (by omega)
    unfold fX8_fewestThatQuarrel_5 at h
    by_cases c : 13 ≤ hv_i p
    · rw [if_pos c] at h
      have c1 : (13 : Int) ≤ (hv_i p).toInt := hi_le.mp c
      obtain ⟨s1, s2⟩ := hi_pr h
      rw [s1, s2]
      exact ⟨hF, f, rfl, hf, h1, fun q k hq => h2 q k (by omega)⟩
    · rw [if_neg c] at h
      have c1 : ¬ (13 : Int) ≤ (hv_i p).toInt := hi_nle c
      obtain ⟨σ2, v3, e2, h⟩ := hy_bd_some h
      obtain ⟨w1, r, r1, r2, r3, r4⟩ := hg_ringT ok hF (by omega) hf e2
      have w1 : hg_F β σ2 := w1
      have r1 : v3 = hv_i r := r1
      rw [r1, hn_i1' (by omega)] at h
      refine ih σ2 r (p + 1) o w1 (by omega) (by omega) (fun z => ?_) (fun q k hq k1 k2 => ?_) h
      · by_cases e : r < f
        · exact ⟨(r3 e).2, p, by omega, (r3 e).1⟩
        · have : r = f := by omega
          rw [this] at z ⊢
          exact h1 z
      · by_cases e : q = p
        · rw [e]
          exact r4 k k1 k2
        · exact h2 q k (by omega) k1 (by omega)
