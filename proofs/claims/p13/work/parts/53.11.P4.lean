/-! The class: the chosen jars, in the order of reach. -/
noncomputable def hq_H (β σ : hy_S) : Prop := (∀ j, ¬ j = 13 → σ.1 j = β.1 j) ∧ ∀ j, ¬ j = 6 → σ.2 j = β.2 j
noncomputable def hq_r (β : hy_S) (x : Nat) : Int := hq_w β x + hq_b β x
theorem hq_rc {β σ : hy_S} (ok : hq_ok β) (hF : hq_H β σ) {x : Int32} {o : hy_S × Int32} (h : fX6_reach σ x = some o) : o.1 = σ ∧ o.2.toInt = hq_r β x.toNatClampNeg := by
  unfold fX6_reach at h
  obtain ⟨σ1, v2, e1, h⟩ := hy_bd_some h
  have e1 := hj_wc e1
  have s1 : σ1 = σ := congrArg Prod.fst e1
  have t2 : v2 = hj_W (σ.1 2) (σ.1 5) (σ.1 8) x.toNatClampNeg := congrArg Prod.snd e1
  rw [hF.1 2 (by decide), hF.1 5 (by decide), hF.1 8 (by decide)] at t2
  have i2 : v2.toInt = hq_w β x.toNatClampNeg := by rw [t2]; rfl
  rw [s1] at h
  obtain ⟨σ4, v5, e4, h⟩ := hy_bd_some h
  have e4 := hj_bc e4
  have s4 : σ4 = σ := congrArg Prod.fst e4
  have t5 : v5 = hj_B (σ.1 4) (σ.1 5) x.toNatClampNeg := congrArg Prod.snd e4
  rw [hF.1 4 (by decide), hF.1 5 (by decide)] at t5
  have i5 : v5.toInt = hq_b β x.toNatClampNeg := by rw [t5]; rfl
  obtain ⟨q1, q2⟩ := hi_pr h
  have w := ok.1 x.toNatClampNeg
  have b := ok.2 x.toNatClampNeg
  refine ⟨by rw [q1, s4], ?_⟩
  rw [q2, hs_add (by omega) (by omega), i2, i5]
  rfl
/-- a row of just the jars of D, none twice, in the order of reach -/
noncomputable def hq_R (β : hy_S) (f : Nat → Int32) (n : Nat) (D : Nat → Prop) : Prop := (∀ i, i < n → ∃ y, y < 20 ∧ D y ∧ f i = hv_i y) ∧ (∀ y, D y → ∃ i, i < n ∧ f i = hv_i y) ∧ (∀ i j, i < n → j < n → f i = f j → i = j) ∧ (∀ i j, i ≤ j → j < n → hq_r β (hq_c f i) ≤ hq_r β (hq_c f j))
theorem hq_Req {β : hy_S} {f : Nat → Int32} {n : Nat} {D E : Nat → Prop} (h : hq_R β f n D) (e : ∀ y, D y ↔ E y) : hq_R β f n E := by
  obtain ⟨h1, h2, h3, h4⟩ := h
  refine ⟨fun i hi => ?_, fun y hy => h2 y ((e y).mpr hy), h3, h4⟩
  obtain ⟨y, y1, y2, y3⟩ := h1 i hi
  exact ⟨y, y1, (e y).mp y2, y3⟩
theorem hq_Rin {β : hy_S} {f g : Nat → Int32} {n p x : Nat} {D : Nat → Prop} (h : hq_R β f n D) (nx : ¬ D x) (x20 : x < 20) (hp : p ≤ n) (g1 : ∀ i, i < p → g i = f i) (g2 : g p = hv_i x) (g3 : ∀ i, p ≤ i → i < n → g (i + 1) = f i) (r1 : ∀ i, i < p → hq_r β (hq_c f i) ≤ hq_r β x) (r2 : ∀ i, p ≤ i → i < n → hq_r β x ≤ hq_r β (hq_c f i)) : hq_R β g (n + 1) (fun y => D y ∨ y = x) := by
  obtain ⟨h1, h2, h3, h4⟩ := h
  have ne : ∀ i, i < n → ¬ f i = hv_i x := by
    intro i hi z
    obtain ⟨y, y1, y2, y3⟩ := h1 i hi
    have e : y = x := hv_inj (by omega) (by omega) (y3.symm.trans z)
    rw [e] at y2
    exact nx y2
  -- where each of the new row stood
  have at1 : ∀ i, i < n + 1 → (i = p ∧ g i = hv_i x) ∨ ∃ k, k < n ∧ g i = f k ∧ ((i = k ∧ k < p) ∨ (i = k + 1 ∧ p ≤ k)) := by
    intro i hi
    by_cases c : i < p
    · exact Or.inr ⟨i, by omega, g1 i c, Or.inl ⟨rfl, c⟩⟩
    · by_cases d : i = p
      · exact Or.inl ⟨d, by rw [d]; exact g2⟩
      · have := g3 (i - 1) (by omega) (by omega)
        rw [show i - 1 + 1 = i by omega] at this
        exact Or.inr ⟨i - 1, by omega, this, Or.inr ⟨by omega, by omega⟩⟩
  have cg : ∀ i k, g i = f k → hq_c g i = hq_c f k := fun i k e => by unfold hq_c; rw [e]
  have cx : ∀ i, g i = hv_i x → hq_c g i = x := fun i e => by unfold hq_c; rw [e]; exact hv_iN (by omega)
  refine ⟨fun i hi => ?_, fun y hy => ?_, fun i j hi hj e => ?_, fun i j ij hj => ?_⟩
  · rcases at1 i hi with ⟨_, z⟩ | ⟨k, k1, k2, _⟩
    · exact ⟨x, x20, Or.inr rfl, z⟩
    · obtain ⟨y, y1, y2, y3⟩ := h1 k k1
      exact ⟨y, y1, Or.inl y2, k2.trans y3⟩
  · rcases hy with hy | hy
    · obtain ⟨i, i1, i2⟩ := h2 y hy
      by_cases c : i < p
      · exact ⟨i, by omega, (g1 i c).trans i2⟩
      · exact ⟨i + 1, by omega, (g3 i (by omega) i1).trans i2⟩
    · exact ⟨p, by omega, by rw [hy]; exact g2⟩
  · rcases at1 i hi with ⟨z1, z2⟩ | ⟨k, k1, k2, k3⟩
    · rcases at1 j hj with ⟨y1, y2⟩ | ⟨l, l1, l2, l3⟩
      · omega
      · exact absurd (l2.symm.trans (e.symm.trans z2)) (ne l l1)
    · rcases at1 j hj with ⟨y1, y2⟩ | ⟨l, l1, l2, l3⟩
      · exact absurd (k2.symm.trans (e.trans y2)) (ne k k1)
      · have := h3 k l k1 l1 (k2.symm.trans (e.trans l2))
        omega
  · rcases at1 i (by omega) with ⟨z1, z2⟩ | ⟨k, k1, k2, k3⟩
    · rcases at1 j hj with ⟨y1, y2⟩ | ⟨l, l1, l2, l3⟩
      · rw [cx i z2, cx j y2]
        exact Int.le_refl _
      · rw [cx i z2, cg j l l2]
        exact r2 l (by omega) l1
    · rcases at1 j hj with ⟨y1, y2⟩ | ⟨l, l1, l2, l3⟩
      · rw [cg i k k2, cx j y2]
        exact r1 k (by omega)
      · rw [cg i k k2, cg j l l2]
        exact h4 k l (by omega) l1
theorem hq_i5 {β : hy_S} (ok : hq_ok β) {f : Nat → Int32} {n x : Nat} {D : Nat → Prop} (hR : hq_R β f n D) (nx : ¬ D x) (x20 : x < 20) (n20 : n < 20) : ∀ (u : Nat) (σ : hy_S) (a : Nat) (o : hy_S × Int32), hq_H β σ → σ.2 6 = hv_i n → a ≤ n → (∀ i, i < a → σ.1 13 i = f i) → (∀ i, a ≤ i → i < n → σ.1 13 (i + 1) = f i) → (∀ i, a ≤ i → i < n → hq_r β x ≤ hq_r β (hq_c f i)) → fX6_insert_5 u σ (hv_i x) (hv_i a) = some o → hq_H β o.1 ∧ o.1.2 6 = hv_i (n + 1) ∧ hq_R β (o.1.1 13) (n + 1) (fun y => D y ∨ y = x) := by
  intro u
  induction u with
  | zero => intro σ a o hF h6 ha lo up re h; cases h
  | succ u ih =>
    intro σ a o hF h6 ha lo up re h
    have ea := hv_ii (r := a) (by omega)
    have put : (∀ i, i < a → hq_r β (hq_c f i) ≤ hq_r β x) → fX6_insert_49 σ (hv_i x) (hv_i a) = some o → hq_H β o.1 ∧ o.1.2 6 = hv_i (n + 1) ∧ hq_R β (o.1.1 13) (n + 1) (fun y => D y ∨ y = x) := by
      intro le h
      unfold fX6_insert_49 at h
      obtain ⟨_, σ1, e1, h⟩ := hy_pa_some h
      rw [hv_iN (by omega)] at e1
      obtain ⟨σ4, e4, h⟩ := hy_pf_some h
      have b6 : σ1.2 6 = hv_i n := by rw [e1]; exact h6
      rw [b6, hn_i1' (by omega)] at e4
      rw [(hi_pr h).1]
      have k13 : σ4.1 13 = upd (σ.1 13) a (hv_i x) := by rw [e4, e1]; rfl
      refine ⟨⟨fun j hj => ?_, fun j hj => ?_⟩, by rw [e4]; rfl, ?_⟩
      · rw [e4, e1]
        show (if j = 13 then _ else σ.1 j) = β.1 j
        rw [if_neg hj]
        exact hF.1 j hj
      · rw [e4]
        show (if j = 6 then _ else σ1.2 j) = β.2 j
        rw [if_neg hj, e1]
        exact hF.2 j hj
      · rw [k13]
        refine hq_Rin hR nx x20 ha (fun i hi => ?_) hs_upds (fun i hi hi2 => ?_) le re
        · rw [hs_upd (by omega)]
          exact lo i hi
        · rw [hs_upd (by omega)]
          exact up i hi hi2
    unfold fX6_insert_5 at h
    by_cases c : hv_i a ≤ 0
    · rw [if_pos c] at h
      have c1 : (hv_i a).toInt ≤ 0 := hi_le.mp c
      exact put (fun i hi => absurd hi (by omega)) h
    · rw [if_neg c] at h
      have c1 : ¬ (hv_i a).toInt ≤ 0 := hi_nle c
      obtain ⟨b, eb⟩ : ∃ b, a = b + 1 := ⟨a - 1, by omega⟩
      subst eb
      have m1 : hv_i (b + 1) - 1 = hv_i b := by
        apply Int32.toInt_inj.mp
        rw [hs_subk 1 (by decide) (by omega) (by omega), ea, hv_ii (by omega)]
        omega
      rw [m1] at h
      obtain ⟨_, v2, e2, h⟩ := hy_ga_some h
      rw [hv_iN (by omega), lo b (by omega)] at e2
      obtain ⟨σ5, v6, e5, h⟩ := hy_bd_some h
      obtain ⟨s5, i6⟩ := hq_rc ok hF e5
      have s5 : σ5 = σ := s5
      have i6 : v6.toInt = hq_r β v2.toNatClampNeg := i6
      rw [e2] at i6
      have i6 : v6.toInt = hq_r β (hq_c f b) := i6
      rw [s5] at h
      obtain ⟨σ8, v9, e8, h⟩ := hy_bd_some h
      obtain ⟨s8, i9⟩ := hq_rc ok hF e8
      have s8 : σ8 = σ := s8
      have i9 : v9.toInt = hq_r β (hv_i x).toNatClampNeg := i9
      rw [hv_iN (by omega)] at i9
      rw [s8] at h
      by_cases d : v6 ≤ v9
      · rw [if_pos d] at h
        have d1 : v6.toInt ≤ v9.toInt := hi_le.mp d
        refine put (fun i hi => ?_) h
        have := hR.2.2.2 i b (by omega) (by omega)
        omega
      · rw [if_neg d] at h
        have d1 : ¬ v6.toInt ≤ v9.toInt := hi_nle d
        obtain ⟨_, v12, e12, h⟩ := hy_ga_some h
        rw [hv_iN (by omega), lo b (by omega)] at e12
        obtain ⟨_, τ, eτ, h⟩ := hy_pa_some h
        rw [hv_iN (by omega)] at eτ
        have k13 : τ.1 13 = upd (σ.1 13) (b + 1) v12 := by rw [eτ]; rfl
        rw [show hv_i (b + 1) + (-1) = hv_i b from hq_xm (a := b + 1) (by omega)] at h
        refine ih τ b o ⟨fun j hj => ?_, fun j hj => ?_⟩ (by rw [eτ]; exact h6) (by omega) (fun i hi => ?_) (fun i hi hi2 => ?_) (fun i hi hi2 => ?_) h
        · rw [eτ]
          show (if j = 13 then _ else σ.1 j) = β.1 j
          rw [if_neg hj]
          exact hF.1 j hj
        · rw [eτ]
          exact hF.2 j hj
        · rw [k13, hs_upd (by omega)]
          exact lo i (by omega)
        · rw [k13]
          by_cases z : i = b
          · rw [z, hs_upds]
            exact e12
          · rw [hs_upd (by omega)]
            exact up i (by omega) hi2
        · by_cases z : i = b
          · rw [z]
            omega
          · exact re i (by omega) hi2
noncomputable def hq_e (s : Int32) (pl : Nat → Int32) (y : Nat) : Bool := decide (((s >>> (hv_i y &&& 31)) &&& 1) = 1 ∧ pl y = 0)
noncomputable def hq_n (e : Nat → Bool) : Nat → Nat
  | 0 => 0
  | j + 1 => hq_n e j + (if e j = true then 1 else 0)
theorem hq_nj {e : Nat → Bool} : ∀ j, hq_n e j ≤ j := by
  intro j
  induction j with
  | zero => exact Nat.le_refl _
  | succ j ih =>
    show hq_n e j + (if e j = true then 1 else 0) ≤ j + 1
    split <;> omega
theorem hq_n1 {e : Nat → Bool} {j : Nat} (h : e j = true) : hq_n e (j + 1) = hq_n e j + 1 := by
  show hq_n e j + (if e j = true then 1 else 0) = _
  rw [if_pos h]
theorem hq_n0 {e : Nat → Bool} {j : Nat} (h : ¬ e j = true) : hq_n e (j + 1) = hq_n e j := by
  show hq_n e j + (if e j = true then 1 else 0) = _
  rw [if_neg h]
  rfl
theorem hq_c7 {β : hy_S} (ok : hq_ok β) {s : Int32} {J : Nat} (J20 : J ≤ 20) (JN : (J : Int) ≤ (β.2 4).toInt) (Je : J = 20 ∨ (β.2 4).toInt ≤ (J : Int)) : ∀ (u : Nat) (σ : hy_S) (j : Nat) (o : hy_S × Int32), hq_H β σ → j ≤ J → σ.2 6 = hv_i (hq_n (hq_e s (β.1 9)) j) → hq_R β (σ.1 13) (hq_n (hq_e s (β.1 9)) j) (fun y => y < j ∧ hq_e s (β.1 9) y = true) → fX6_choose_7 u σ s (hv_i j) = some o →
    hq_H β o.1 ∧ o.2 = hv_i (hq_n (hq_e s (β.1 9)) J) ∧ o.1.2 6 = hv_i (hq_n (hq_e s (β.1 9)) J) ∧ hq_R β (o.1.1 13) (hq_n (hq_e s (β.1 9)) J) (fun y => y < J ∧ hq_e s (β.1 9) y = true) := by
  intro u
  induction u with
  | zero => intro σ j o hF hj h6 hR h; cases h
  | succ u ih =>
    intro σ j o hF hj h6 hR h
    have ej := hv_ii (r := j) (by omega)
    have nj := hq_nj (e := hq_e s (β.1 9)) j
    have done : j = J → fX6_choose_56 σ = some o → hq_H β o.1 ∧ o.2 = hv_i (hq_n (hq_e s (β.1 9)) J) ∧ o.1.2 6 = hv_i (hq_n (hq_e s (β.1 9)) J) ∧ hq_R β (o.1.1 13) (hq_n (hq_e s (β.1 9)) J) (fun y => y < J ∧ hq_e s (β.1 9) y = true) := by
      intro e h
      unfold fX6_choose_56 at h
      obtain ⟨s1, s2⟩ := hi_pr h
      rw [s1, s2, ← e]
      exact ⟨hF, h6, h6, hR⟩
    have skip : j < J → ¬ hq_e s (β.1 9) j = true → fX6_choose_50 (fX6_choose_7 u) σ s (hv_i j) = some o → hq_H β o.1 ∧ o.2 = hv_i (hq_n (hq_e s (β.1 9)) J) ∧ o.1.2 6 = hv_i (hq_n (hq_e s (β.1 9)) J) ∧ hq_R β (o.1.1 13) (hq_n (hq_e s (β.1 9)) J) (fun y => y < J ∧ hq_e s (β.1 9) y = true) := by
      intro lt ne h
      unfold fX6_choose_50 at h
      rw [hn_i1' (by omega)] at h
      refine ih σ (j + 1) o hF (by omega) (by rw [hq_n0 ne]; exact h6) ?_ h
      rw [hq_n0 ne]
      refine hq_Req hR (fun y => ⟨fun z => ⟨by have := z.1; omega, z.2⟩, fun z => ⟨?_, z.2⟩⟩)
      by_cases c : y = j
      · rw [c] at z
        exact absurd z.2 ne
      · have := z.1
        omega
    unfold fX6_choose_7 at h
    by_cases c : 20 ≤ hv_i j
    · rw [if_pos c] at h
      have c1 : (20 : Int) ≤ (hv_i j).toInt := hi_le.mp c
      exact done (by omega) h
    · rw [if_neg c] at h
      have c1 : ¬ (20 : Int) ≤ (hv_i j).toInt := hi_nle c
      rw [hF.2 4 (by decide)] at h
      by_cases d : β.2 4 ≤ hv_i j
      · rw [if_pos d] at h
        have d1 : (β.2 4).toInt ≤ (hv_i j).toInt := hi_le.mp d
        exact done (by omega) h
      · rw [if_neg d] at h
        have d1 : ¬ (β.2 4).toInt ≤ (hv_i j).toInt := hi_nle d
        have lt : j < J := by omega
        by_cases f : ((s >>> (hv_i j &&& 31)) &&& 1) = 1
        · rw [if_pos f] at h
          obtain ⟨_, v4, e4, h⟩ := hy_ga_some h
          rw [hv_iN (by omega), hF.1 9 (by decide)] at e4
          by_cases g : v4 = 0
          · rw [if_pos g] at h
            have el : hq_e s (β.1 9) j = true := decide_eq_true ⟨f, by rw [← e4]; exact g⟩
            obtain ⟨σ8, v9, e8, h⟩ := hy_bd_some h
            unfold fX6_insert at e8
            rw [h6] at e8
            obtain ⟨q1, q2, q3⟩ := hq_i5 ok hR (x := j) (fun z => by have := z.1; omega) (by omega) (by omega) hy_fu σ _ (σ8, v9) hF h6 (Nat.le_refl _) (fun i _ => rfl) (fun i hi hi2 => absurd hi2 (by omega)) (fun i hi hi2 => absurd hi2 (by omega)) e8
            have q1 : hq_H β σ8 := q1
            unfold fX6_choose_50 at h
            rw [hn_i1' (r := j) (by omega)] at h
            refine ih σ8 (j + 1) o q1 (by omega) (by rw [hq_n1 el]; exact q2) ?_ h
            rw [hq_n1 el]
            refine hq_Req q3 (fun y => ⟨fun z => ?_, fun z => ?_⟩)
            · rcases z with z | z
              · exact ⟨by have := z.1; omega, z.2⟩
              · rw [z]
                exact ⟨by omega, el⟩
            · by_cases y1 : y = j
              · exact Or.inr y1
              · exact Or.inl ⟨by have := z.1; omega, z.2⟩
          · rw [if_neg g] at h
            exact skip lt (fun z => g (by rw [e4]; exact (of_decide_eq_true z).2)) h
        · rw [if_neg f] at h
          exact skip lt (fun z => f (of_decide_eq_true z).1) h
theorem hq_choose {β : hy_S} (ok : hq_ok β) {s : Int32} {J : Nat} (J20 : J ≤ 20) (JN : (J : Int) ≤ (β.2 4).toInt) (Je : J = 20 ∨ (β.2 4).toInt ≤ (J : Int)) {o : hy_S × Int32} (h : fX6_choose β s = some o) : hq_H β o.1 ∧ o.2 = hv_i (hq_n (hq_e s (β.1 9)) J) ∧ o.1.2 6 = hv_i (hq_n (hq_e s (β.1 9)) J) ∧ hq_R β (o.1.1 13) (hq_n (hq_e s (β.1 9)) J) (fun y => y < J ∧ hq_e s (β.1 9) y = true) := by
  unfold fX6_choose at h
  obtain ⟨τ, e, h⟩ := hy_pf_some h
  refine hq_c7 ok J20 JN Je hy_fu τ 0 o ⟨fun j hj => by rw [e]; rfl, fun j hj => ?_⟩ (Nat.zero_le _) (by rw [e]; rfl) ⟨fun i hi => absurd hi (Nat.not_lt_zero _), fun y hy => absurd hy.1 (Nat.not_lt_zero _), fun i j hi => absurd hi (Nat.not_lt_zero _), fun i j _ hj => absurd hj (Nat.not_lt_zero _)⟩ h
  rw [e]
  show (if j = 6 then _ else β.2 j) = β.2 j
  rw [if_neg hj]
