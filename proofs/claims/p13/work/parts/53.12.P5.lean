/-! The reference: the jars that it takes up. -/
noncomputable def hq_M (β σ : hy_S) : Prop := (∀ j, ¬ j = 12 → ¬ j = 13 → σ.1 j = β.1 j) ∧ ∀ j, ¬ j = 0 → σ.2 j = β.2 j
theorem hq_b01 (z : Int32) : z &&& 1 = 0 ∨ z &&& 1 = 1 := by
  have h := hs_and (x := 1) (y := z) (by decide)
  rw [Int32.and_comm] at h
  exact hs_01 h.1 h.2
theorem hq_nm {e : Nat → Bool} {i : Nat} : ∀ k, hq_n e i ≤ hq_n e (i + k) := by
  intro k
  induction k with
  | zero => exact Nat.le_refl _
  | succ k ih =>
    show hq_n e i ≤ hq_n e (i + k) + (if e (i + k) = true then 1 else 0)
    omega
/-- a row of just the jars of D, none twice -/
noncomputable def hq_P (f : Nat → Int32) (n : Nat) (D : Nat → Prop) : Prop := (∀ i, i < n → ∃ y, y < 20 ∧ D y ∧ f i = hv_i y) ∧ (∀ y, D y → ∃ i, i < n ∧ f i = hv_i y) ∧ (∀ i j, i < n → j < n → f i = f j → i = j)
theorem hq_Peq {f : Nat → Int32} {n : Nat} {D E : Nat → Prop} (h : hq_P f n D) (e : ∀ y, D y ↔ E y) : hq_P f n E := by
  obtain ⟨h1, h2, h3⟩ := h
  refine ⟨fun i hi => ?_, fun y hy => h2 y ((e y).mpr hy), h3⟩
  obtain ⟨y, y1, y2, y3⟩ := h1 i hi
  exact ⟨y, y1, (e y).mp y2, y3⟩
theorem hq_Pin {f : Nat → Int32} {n x : Nat} {D : Nat → Prop} (h : hq_P f n D) (nx : ¬ D x) (x20 : x < 20) : hq_P (upd f n (hv_i x)) (n + 1) (fun y => D y ∨ y = x) := by
  obtain ⟨h1, h2, h3⟩ := h
  have ne : ∀ i, i < n → ¬ f i = hv_i x := by
    intro i hi z
    obtain ⟨y, y1, y2, y3⟩ := h1 i hi
    have e : y = x := hv_inj (by omega) (by omega) (y3.symm.trans z)
    rw [e] at y2
    exact nx y2
  refine ⟨fun i hi => ?_, fun y hy => ?_, fun i j hi hj e => ?_⟩
  · by_cases c : i = n
    · exact ⟨x, x20, Or.inr rfl, by rw [c, hs_upds]⟩
    · obtain ⟨y, y1, y2, y3⟩ := h1 i (by omega)
      exact ⟨y, y1, Or.inl y2, by rw [hs_upd c]; exact y3⟩
  · rcases hy with hy | hy
    · obtain ⟨i, i1, i2⟩ := h2 y hy
      exact ⟨i, by omega, by rw [hs_upd (by omega)]; exact i2⟩
    · exact ⟨n, by omega, by rw [hs_upds, hy]⟩
  · by_cases c : i = n
    · by_cases d : j = n
      · omega
      · rw [c, hs_upds, hs_upd d] at e
        exact absurd e.symm (ne j (by omega))
    · by_cases d : j = n
      · rw [d, hs_upds, hs_upd c] at e
        exact absurd e (ne i (by omega))
      · rw [hs_upd c, hs_upd d] at e
        exact h3 i j (by omega) (by omega) e
theorem hq_t9 {β : hy_S} {s : Int32} {J : Nat} (J20 : J ≤ 20) (JN : (J : Int) ≤ (β.2 2).toInt) (Je : J = 20 ∨ (β.2 2).toInt ≤ (J : Int)) : ∀ (u : Nat) (σ : hy_S) (j : Nat) (o : hy_S × Int32), hq_M β σ → j ≤ J → hq_n (hq_e s (β.1 7)) j ≤ 12 → hq_P (σ.1 13) (hq_n (hq_e s (β.1 7)) j) (fun y => y < j ∧ hq_e s (β.1 7) y = true) → fX10_tallest_9 u σ s (hv_i (hq_n (hq_e s (β.1 7)) j)) (hv_i j) = some o →
    (12 < hq_n (hq_e s (β.1 7)) J ∧ o.2 = 0 ∧ o.1.2 0 = 1) ∨ (hq_n (hq_e s (β.1 7)) J ≤ 12 ∧ ∃ τ, hq_M β τ ∧ τ.2 0 = σ.2 0 ∧ hq_P (τ.1 13) (hq_n (hq_e s (β.1 7)) J) (fun y => y < J ∧ hq_e s (β.1 7) y = true) ∧ fX10_tallest_80 τ (hv_i (hq_n (hq_e s (β.1 7)) J)) = some o) := by
  intro u
  induction u with
  | zero => intro σ j o hF hj h12 hP h; cases h
  | succ u ih =>
    intro σ j o hF hj h12 hP h
    have ej := hv_ii (r := j) (by omega)
    have done : j = J → fX10_tallest_80 σ (hv_i (hq_n (hq_e s (β.1 7)) j)) = some o → (12 < hq_n (hq_e s (β.1 7)) J ∧ o.2 = 0 ∧ o.1.2 0 = 1) ∨ (hq_n (hq_e s (β.1 7)) J ≤ 12 ∧ ∃ τ, hq_M β τ ∧ τ.2 0 = σ.2 0 ∧ hq_P (τ.1 13) (hq_n (hq_e s (β.1 7)) J) (fun y => y < J ∧ hq_e s (β.1 7) y = true) ∧ fX10_tallest_80 τ (hv_i (hq_n (hq_e s (β.1 7)) J)) = some o) := by
      intro e h
      rw [← e]
      exact Or.inr ⟨h12, σ, hF, rfl, hP, h⟩
    have skip : j < J → ¬ hq_e s (β.1 7) j = true → fX10_tallest_74 (fX10_tallest_9 u) σ s (hv_i (hq_n (hq_e s (β.1 7)) j)) (hv_i j) = some o → (12 < hq_n (hq_e s (β.1 7)) J ∧ o.2 = 0 ∧ o.1.2 0 = 1) ∨ (hq_n (hq_e s (β.1 7)) J ≤ 12 ∧ ∃ τ, hq_M β τ ∧ τ.2 0 = σ.2 0 ∧ hq_P (τ.1 13) (hq_n (hq_e s (β.1 7)) J) (fun y => y < J ∧ hq_e s (β.1 7) y = true) ∧ fX10_tallest_80 τ (hv_i (hq_n (hq_e s (β.1 7)) J)) = some o) := by
      intro lt ne h
      unfold fX10_tallest_74 at h
      rw [hn_i1' (r := j) (by omega), ← hq_n0 ne] at h
      refine ih σ (j + 1) o hF (by omega) (by rw [hq_n0 ne]; exact h12) ?_ h
      rw [hq_n0 ne]
      refine hq_Peq hP (fun y => ⟨fun z => ⟨by have := z.1; omega, z.2⟩, fun z => ⟨?_, z.2⟩⟩)
      by_cases c : y = j
      · rw [c] at z
        exact absurd z.2 ne
      · have := z.1
        omega
    unfold fX10_tallest_9 at h
    by_cases c : 20 ≤ hv_i j
    · rw [if_pos c] at h
      have c1 : (20 : Int) ≤ (hv_i j).toInt := hi_le.mp c
      exact done (by omega) h
    · rw [if_neg c] at h
      have c1 : ¬ (20 : Int) ≤ (hv_i j).toInt := hi_nle c
      rw [hF.2 2 (by decide)] at h
      by_cases d : β.2 2 ≤ hv_i j
      · rw [if_pos d] at h
        have d1 : (β.2 2).toInt ≤ (hv_i j).toInt := hi_le.mp d
        exact done (by omega) h
      · rw [if_neg d] at h
        have d1 : ¬ (β.2 2).toInt ≤ (hv_i j).toInt := hi_nle d
        have lt : j < J := by omega
        by_cases f : ((s >>> (hv_i j &&& 31)) &&& 1) = 0
        · rw [if_pos f] at h
          refine skip lt (fun z => ?_) h
          have z1 := (of_decide_eq_true z).1
          rw [f] at z1
          exact absurd z1 (by decide)
        · rw [if_neg f] at h
          have f1 : ((s >>> (hv_i j &&& 31)) &&& 1) = 1 := (hq_b01 _).resolve_left f
          obtain ⟨_, v4, e4, h⟩ := hy_ga_some h
          rw [hv_iN (by omega), hF.1 7 (by decide) (by decide)] at e4
          by_cases g : v4 = 0
          · rw [if_pos g] at h
            have el : hq_e s (β.1 7) j = true := decide_eq_true ⟨f1, by rw [← e4]; exact g⟩
            have en := hv_ii (r := hq_n (hq_e s (β.1 7)) j) (by omega)
            by_cases t : hv_i (hq_n (hq_e s (β.1 7)) j) = 12
            · rw [if_pos t] at h
              unfold fX10_tallest_55 at h
              have h := hi_t1 h
              rw [if_neg (by decide)] at h
              obtain ⟨s1, s2⟩ := hi_pr h
              have t1 : hq_n (hq_e s (β.1 7)) j = 12 := hv_inj (by omega) (by omega) t
              have mo := hq_nm (e := hq_e s (β.1 7)) (i := j + 1) (J - (j + 1))
              rw [show j + 1 + (J - (j + 1)) = J by omega, hq_n1 el] at mo
              exact Or.inl ⟨by omega, s2, by rw [s1]; rfl⟩
            · rw [if_neg t] at h
              unfold fX10_tallest_55 at h
              have h := hi_t0 h
              rw [if_pos rfl] at h
              have t1 : ¬ hq_n (hq_e s (β.1 7)) j = 12 := fun z => t (by rw [z]; rfl)
              obtain ⟨_, σ5, e5, h⟩ := hy_pa_some h
              rw [hv_iN (by omega)] at e5
              unfold fX10_tallest_74 at h
              rw [hn_i1' (r := j) (by omega), hn_i1' (r := hq_n (hq_e s (β.1 7)) j) (by omega), ← hq_n1 el] at h
              have k0 : σ5.2 0 = σ.2 0 := by rw [e5]; rfl
              have k13 : σ5.1 13 = upd (σ.1 13) (hq_n (hq_e s (β.1 7)) j) (hv_i j) := by rw [e5]; rfl
              rw [← k0]
              refine ih σ5 (j + 1) o ⟨fun k k1 k2 => ?_, fun k k1 => by rw [e5]; exact hF.2 k k1⟩ (by omega) (by rw [hq_n1 el]; omega) ?_ h
              · rw [e5]
                show (if k = 13 then _ else σ.1 k) = β.1 k
                rw [if_neg k2]
                exact hF.1 k k1 k2
              · rw [hq_n1 el, k13]
                refine hq_Peq (hq_Pin hP (x := j) (fun z => by have := z.1; omega) (by omega)) (fun y => ⟨fun z => ?_, fun z => ?_⟩)
                · rcases z with z | z
                  · exact ⟨by have := z.1; omega, z.2⟩
                  · rw [z]
                    exact ⟨by omega, el⟩
                · by_cases y1 : y = j
                  · exact Or.inr y1
                  · exact Or.inl ⟨by have := z.1; omega, z.2⟩
          · rw [if_neg g] at h
            exact skip lt (fun z => g (by rw [e4]; exact (of_decide_eq_true z).2)) h
