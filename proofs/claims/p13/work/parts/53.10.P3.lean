/-! The class: the greatest height over the chosen row. -/
noncomputable def hq_G (β σ : hy_S) : Prop := (∀ j, ¬ j = 14 → σ.1 j = β.1 j) ∧ σ.2 = β.2
noncomputable def hq_w (β : hy_S) (x : Nat) : Int := (hj_W (β.1 2) (β.1 5) (β.1 8) x).toInt
noncomputable def hq_b (β : hy_S) (x : Nat) : Int := (hj_B (β.1 4) (β.1 5) x).toInt
noncomputable def hq_ok (β : hy_S) : Prop := (∀ x, 0 ≤ hq_w β x ∧ hq_w β x ≤ 1000) ∧ ∀ x, 0 ≤ hq_b β x ∧ hq_b β x ≤ 5000
noncomputable def hq_c (f : Nat → Int32) (i : Nat) : Nat := (f i).toNatClampNeg
noncomputable def hq_x : Nat → Int32
  | 0 => -1
  | a + 1 => hv_i a
theorem hq_xm {a : Nat} (h : a < 4000) : hv_i a + (-1) = hq_x a := by
  cases a with
  | zero => decide
  | succ a =>
    apply Int32.toInt_inj.mp
    have e := hv_ii (r := a + 1) (by omega)
    show (hv_i (a + 1) + (-1)).toInt = (hv_i a).toInt
    rw [hs_addk (-1) (by decide) (by omega) (by omega), hv_ii (r := a) (by omega), e]
    omega
noncomputable def hq_nw (L : Nat → Int) (w b : Int) : Nat → Int
  | 0 => L 0
  | h + 1 => if L h ≤ b ∧ L h + w < L (h + 1) then L h + w else L (h + 1)
theorem hq_g39 {β : hy_S} (ok : hq_ok β) {k11 : hy_S → Int32 → Int32 → Option (hy_S × Int32)} {o : hy_S × Int32} {L : Nat → Int} {M i : Nat} (M20 : M < 20) (i20 : i < 20) {x3 : Int32} (bL : ∀ h, h ≤ M → 0 ≤ L h ∧ L h ≤ 20000) : ∀ (u : Nat) (σ : hy_S) (a : Nat), hq_G β σ → a ≤ M + 1 → (∀ h, h ≤ a → (σ.1 14 h).toInt = L h) → (∀ h, a < h → h ≤ M + 1 → (σ.1 14 h).toInt = hq_nw L (hq_w β x3.toNatClampNeg) (hq_b β x3.toNatClampNeg) h) → fX6_greatest_39 k11 u σ (hv_i M) (hv_i i) x3 (hq_x a) = some o →
    ∃ τ, hq_G β τ ∧ (∀ h, h ≤ M + 1 → (τ.1 14 h).toInt = hq_nw L (hq_w β x3.toNatClampNeg) (hq_b β x3.toNatClampNeg) h) ∧ ((1000000000 ≤ (τ.1 14 (M + 1)).toInt ∧ k11 τ (hv_i M) (hv_i (i + 1)) = some o) ∨ (¬ 1000000000 ≤ (τ.1 14 (M + 1)).toInt ∧ k11 τ (hv_i (M + 1)) (hv_i (i + 1)) = some o)) := by
  intro u
  induction u with
  | zero => intro σ a hF ha lo up h; cases h
  | succ u ih =>
    intro σ a hF ha lo up h
    unfold fX6_greatest_39 at h
    cases a with
    | zero =>
      rw [show hq_x 0 = (-1 : Int32) from rfl, if_pos (by decide)] at h
      obtain ⟨_, v2, e2, h⟩ := hy_ga_some h
      rw [hn_i1' (r := M) (by omega), hv_iN (by omega)] at e2
      refine ⟨σ, hF, fun k hk => ?_, ?_⟩
      · cases k with
        | zero => exact lo 0 (Nat.le_refl _)
        | succ k => exact up (k + 1) (by omega) hk
      · by_cases c : 1000000000 ≤ v2
        · rw [if_pos c] at h
          have c1 : (1000000000 : Int) ≤ v2.toInt := hi_le.mp c
          unfold fX6_greatest_121 at h
          rw [hn_i1' (r := i) (by omega)] at h
          exact Or.inl ⟨by rw [← e2]; exact c1, h⟩
        · rw [if_neg c] at h
          have c1 : ¬ (1000000000 : Int) ≤ v2.toInt := hi_nle c
          unfold fX6_greatest_121 at h
          rw [hn_i1' (r := i) (by omega), hn_i1' (r := M) (by omega)] at h
          exact Or.inr ⟨by rw [← e2]; exact c1, h⟩
    | succ a =>
      rw [show hq_x (a + 1) = hv_i a from rfl] at h
      have ea := hv_ii (r := a) (by omega)
      have na : ¬ hv_i a < 0 := fun z => by
        have z1 : (hv_i a).toInt < 0 := Int32.lt_iff_toInt_lt.mp z
        omega
      rw [if_neg na] at h
      obtain ⟨_, v6, e6, h⟩ := hy_ga_some h
      rw [hv_iN (by omega)] at e6
      have l6 : v6.toInt = L a := by rw [e6]; exact lo a (by omega)
      obtain ⟨σ9, v10, e9, h⟩ := hy_bd_some h
      have e9 := hj_bc e9
      have s9 : σ9 = σ := congrArg Prod.fst e9
      have t10 : v10 = hj_B (σ.1 4) (σ.1 5) x3.toNatClampNeg := congrArg Prod.snd e9
      rw [hF.1 4 (by decide), hF.1 5 (by decide)] at t10
      have i10 : v10.toInt = hq_b β x3.toNatClampNeg := by rw [t10]; rfl
      rw [s9] at h
      obtain ⟨b0, b1⟩ := bL a (by omega)
      by_cases d : v10 < v6
      · rw [if_pos d] at h
        have d1 : v10.toInt < v6.toInt := Int32.lt_iff_toInt_lt.mp d
        unfold fX6_greatest_99 at h
        rw [hq_xm (a := a) (by omega)] at h
        refine ih σ a hF (by omega) (fun k hk => lo k (by omega)) (fun k hk hk2 => ?_) h
        by_cases ek : k = a + 1
        · rw [ek, lo (a + 1) (Nat.le_refl _)]
          show L (a + 1) = if L a ≤ _ ∧ L a + _ < L (a + 1) then L a + _ else L (a + 1)
          rw [if_neg (fun z => by have := z.1; omega)]
        · exact up k (by omega) hk2
      · rw [if_neg d] at h
        have d1 : ¬ v10.toInt < v6.toInt := hi_nlt d
        obtain ⟨_, v13, e13, h⟩ := hy_ga_some h
        rw [hn_i1' (r := a) (by omega), hv_iN (by omega)] at e13
        have l13 : v13.toInt = L (a + 1) := by rw [e13]; exact lo (a + 1) (Nat.le_refl _)
        obtain ⟨_, v16, e16, h⟩ := hy_ga_some h
        rw [hv_iN (by omega)] at e16
        have l16 : v16.toInt = L a := by rw [e16]; exact lo a (by omega)
        obtain ⟨σ19, v20, e19, h⟩ := hy_bd_some h
        have e19 := hj_wc e19
        have s19 : σ19 = σ := congrArg Prod.fst e19
        have t20 : v20 = hj_W (σ.1 2) (σ.1 5) (σ.1 8) x3.toNatClampNeg := congrArg Prod.snd e19
        rw [hF.1 2 (by decide), hF.1 5 (by decide), hF.1 8 (by decide)] at t20
        have i20 : v20.toInt = hq_w β x3.toNatClampNeg := by rw [t20]; rfl
        rw [s19] at h
        obtain ⟨_, τ, eτ, h⟩ := hy_pa_some h
        rw [hn_i1' (r := a) (by omega), hv_iN (by omega)] at eτ
        unfold fX6_greatest_99 at h
        rw [hq_xm (a := a) (by omega)] at h
        obtain ⟨w0, w1⟩ := ok.1 x3.toNatClampNeg
        have ga : (v16 + v20).toInt = L a + hq_w β x3.toNatClampNeg := by rw [hs_add (by omega) (by omega), l16, i20]
        have k14 : τ.1 14 = upd (σ.1 14) (a + 1) (if v16 + v20 < v13 then v16 + v20 else v13) := by rw [eτ]; rfl
        refine ih τ a ?_ (by omega) (fun k hk => ?_) (fun k hk hk2 => ?_) h
        · refine ⟨fun j hj => ?_, by rw [eτ]; exact hF.2⟩
          rw [eτ]
          show (if j = 14 then _ else σ.1 j) = β.1 j
          rw [if_neg hj]
          exact hF.1 j hj
        · rw [k14, hs_upd (by omega)]
          exact lo k (by omega)
        · rw [k14]
          by_cases ek : k = a + 1
          · rw [ek, hs_upds]
            show _ = if L a ≤ hq_b β x3.toNatClampNeg ∧ L a + hq_w β x3.toNatClampNeg < L (a + 1) then L a + hq_w β x3.toNatClampNeg else L (a + 1)
            by_cases f : v16 + v20 < v13
            · have f1 : (v16 + v20).toInt < v13.toInt := Int32.lt_iff_toInt_lt.mp f
              rw [if_pos f, if_pos ⟨by omega, by omega⟩]
              exact ga
            · have f1 : ¬ (v16 + v20).toInt < v13.toInt := hi_nlt f
              rw [if_neg f, if_neg (fun z => by have := z.2; omega)]
              exact l13
          · rw [hs_upd ek]
            exact up k (by omega) hk2
/-- what holds of the lightest ones when i of the row are done -/
noncomputable def hq_D (w b : Nat → Int) (c : Nat → Nat) (L : Nat → Int) (i M : Nat) : Prop := (∀ h, h ≤ M → hq_Z w b c i h (L h) ∧ ∀ s, hq_Z w b c i h s → L h ≤ s) ∧ ∀ h s, M < h → ¬ hq_Z w b c i h s
theorem hq_Ds {w b : Nat → Int} {c : Nat → Nat} (w0 : ∀ x, 0 ≤ w x ∧ w x ≤ 1000) {L N : Nat → Int} {i M : Nat} (i20 : i < 20) (h : hq_D w b c L i M) (top : L (M + 1) = 1000000000) (hN : ∀ k, k ≤ M + 1 → N k = hq_nw L (w (c i)) (b (c i)) k) : (1000000000 ≤ N (M + 1) → hq_D w b c N (i + 1) M) ∧ (¬ 1000000000 ≤ N (M + 1) → hq_D w b c N (i + 1) (M + 1)) := by
  obtain ⟨h1, h2⟩ := h
  have wi := w0 (c i)
  obtain ⟨m1, m2⟩ := h1 M (Nat.le_refl _)
  obtain ⟨p0, p1, _, _⟩ := hq_Zpos w0 i M _ m1
  have low : ∀ k, k ≤ M → hq_Z w b c (i + 1) k (N k) ∧ ∀ s, hq_Z w b c (i + 1) k s → N k ≤ s := by
    intro k hk
    rw [hN k (by omega)]
    cases k with
    | zero =>
      obtain ⟨a1, a2⟩ := h1 0 hk
      refine ⟨Or.inl a1, fun s z => ?_⟩
      rcases z with z | ⟨k, t, k1, _⟩
      · exact a2 s z
      · exact absurd k1 (by omega)
    | succ k =>
      obtain ⟨a1, a2⟩ := h1 (k + 1) hk
      obtain ⟨d1, d2⟩ := h1 k (by omega)
      show hq_Z w b c (i + 1) (k + 1) (if L k ≤ b (c i) ∧ L k + w (c i) < L (k + 1) then L k + w (c i) else L (k + 1)) ∧ ∀ s, hq_Z w b c (i + 1) (k + 1) s → (if L k ≤ b (c i) ∧ L k + w (c i) < L (k + 1) then L k + w (c i) else L (k + 1)) ≤ s
      by_cases f : L k ≤ b (c i) ∧ L k + w (c i) < L (k + 1)
      · rw [if_pos f]
        refine ⟨Or.inr ⟨k, L k, rfl, d1, f.1, rfl⟩, fun s z => ?_⟩
        rcases z with z | ⟨k2, t, k1, z1, z2, z3⟩
        · have := a2 s z
          have := f.2
          omega
        · have e : k2 = k := by omega
          rw [e] at z1
          have := d2 t z1
          omega
      · rw [if_neg f]
        refine ⟨Or.inl a1, fun s z => ?_⟩
        rcases z with z | ⟨k2, t, k1, z1, z2, z3⟩
        · exact a2 s z
        · have e : k2 = k := by omega
          rw [e] at z1
          have y := d2 t z1
          by_cases g : L k + w (c i) < L (k + 1)
          · exact absurd ⟨by omega, g⟩ f
          · omega
  have eT : N (M + 1) = if L M ≤ b (c i) ∧ L M + w (c i) < L (M + 1) then L M + w (c i) else L (M + 1) := hN (M + 1) (Nat.le_refl _)
  have high : ∀ k s, M + 1 < k → ¬ hq_Z w b c (i + 1) k s := by
    intro k s hk z
    rcases z with z | ⟨k2, t, k1, z1, _, _⟩
    · exact h2 k s (by omega) z
    · exact h2 k2 t (by omega) z1
  refine ⟨fun hT => ⟨low, fun k s hk z => ?_⟩, fun hT => ⟨fun k hk => ?_, high⟩⟩
  · by_cases ek : k = M + 1
    · rcases z with z | ⟨k2, t, k1, z1, z2, _⟩
      · exact h2 k s hk z
      · have e : k2 = M := by omega
        rw [e] at z1
        have y := m2 t z1
        rw [eT, if_pos ⟨by omega, by omega⟩] at hT
        omega
    · exact high k s (by omega) z
  · by_cases ek : k = M + 1
    · rw [ek]
      by_cases f : L M ≤ b (c i) ∧ L M + w (c i) < L (M + 1)
      · rw [eT, if_pos f]
        refine ⟨Or.inr ⟨M, L M, rfl, m1, f.1, rfl⟩, fun s z => ?_⟩
        rcases z with z | ⟨k2, t, k1, z1, _, z3⟩
        · exact absurd z (h2 (M + 1) s (by omega))
        · have e : k2 = M := by omega
          rw [e] at z1
          have := m2 t z1
          omega
      · rw [eT, if_neg f] at hT
        omega
    · exact low k (by omega)
theorem hq_g11 {β : hy_S} (ok : hq_ok β) {n : Nat} (n20 : n ≤ 20) (hn : β.2 6 = hv_i n) : ∀ (u : Nat) (σ : hy_S) (M i : Nat) (o : hy_S × Int32), hq_G β σ → i ≤ n → M ≤ i → hq_D (hq_w β) (hq_b β) (hq_c (β.1 13)) (fun h => (σ.1 14 h).toInt) i M → fX6_greatest_11 u σ (hv_i M) (hv_i i) = some o → ∃ H, o.2 = hv_i H ∧ H ≤ n ∧ (∃ s, hq_Z (hq_w β) (hq_b β) (hq_c (β.1 13)) n H s) ∧ ∀ h s, H < h → ¬ hq_Z (hq_w β) (hq_b β) (hq_c (β.1 13)) n h s := by
  intro u
  induction u with
  | zero => intro σ M i o hF hi hM hD h; cases h
  | succ u ih =>
    intro σ M i o hF hi hM hD h
    have ei := hv_ii (r := i) (by omega)
    have en := hv_ii (r := n) (by omega)
    unfold fX6_greatest_11 at h
    rw [show σ.2 6 = hv_i n by rw [hF.2]; exact hn] at h
    by_cases c : hv_i n ≤ hv_i i
    · rw [if_pos c] at h
      have c1 : (hv_i n).toInt ≤ (hv_i i).toInt := hi_le.mp c
      have e : i = n := by omega
      rw [e] at hD
      rw [(hi_pr h).2]
      exact ⟨M, rfl, by omega, ⟨_, (hD.1 M (Nat.le_refl _)).1⟩, hD.2⟩
    · rw [if_neg c] at h
      have c1 : ¬ (hv_i n).toInt ≤ (hv_i i).toInt := hi_nle c
      obtain ⟨_, v2, e2, h⟩ := hy_ga_some h
      rw [hv_iN (by omega), hF.1 13 (by decide)] at e2
      obtain ⟨_, σ5, e5, h⟩ := hy_pa_some h
      rw [hn_i1' (r := M) (by omega), hv_iN (by omega)] at e5
      have k14 : σ5.1 14 = upd (σ.1 14) (M + 1) 1000000000 := by rw [e5]; rfl
      have hF5 : hq_G β σ5 := by
        refine ⟨fun j hj => ?_, by rw [e5]; exact hF.2⟩
        rw [e5]
        show (if j = 14 then _ else σ.1 j) = β.1 j
        rw [if_neg hj]
        exact hF.1 j hj
      have same : ∀ k, k ≤ M → (σ5.1 14 k).toInt = (σ.1 14 k).toInt := fun k hk => by rw [k14, hs_upd (by omega)]
      have hD5 : hq_D (hq_w β) (hq_b β) (hq_c (β.1 13)) (fun h => (σ5.1 14 h).toInt) i M := by
        refine ⟨fun k hk => ?_, hD.2⟩
        show hq_Z _ _ _ i k (σ5.1 14 k).toInt ∧ ∀ s, _ → (σ5.1 14 k).toInt ≤ s
        rw [same k hk]
        exact hD.1 k hk
      have top : (σ5.1 14 (M + 1)).toInt = 1000000000 := by rw [k14, hs_upds]; rfl
      have bL : ∀ k, k ≤ M → 0 ≤ (fun h => (σ5.1 14 h).toInt) k ∧ (fun h => (σ5.1 14 h).toInt) k ≤ 20000 := by
        intro k hk
        obtain ⟨p0, p1, _, _⟩ := hq_Zpos ok.1 i k _ (hD5.1 k hk).1
        exact ⟨p0, by omega⟩
      have cv : hq_c (β.1 13) i = v2.toNatClampNeg := by rw [e2]; rfl
      obtain ⟨τ, t1, t2, t3⟩ := hq_g39 ok (L := fun h => (σ5.1 14 h).toInt) (M := M) (i := i) (by omega) (by omega) bL hy_fu σ5 (M + 1) hF5 (Nat.le_refl _) (fun k hk => rfl) (fun k hk hk2 => absurd hk (by omega)) h
      obtain ⟨s1, s2⟩ := hq_Ds (c := hq_c (β.1 13)) ok.1 (N := fun h => (τ.1 14 h).toInt) (by omega) hD5 top (by rw [cv]; exact t2)
      rcases t3 with ⟨y1, y2⟩ | ⟨y1, y2⟩
      · exact ih τ M (i + 1) o t1 (by omega) (by omega) (s1 y1) y2
      · exact ih τ (M + 1) (i + 1) o t1 (by omega) (by omega) (s2 y1) y2
theorem hq_greatest {β : hy_S} (ok : hq_ok β) {n : Nat} (n20 : n ≤ 20) (hn : β.2 6 = hv_i n) {o : hy_S × Int32} (h : fX6_greatest β = some o) : ∃ H, o.2 = hv_i H ∧ H ≤ n ∧ (∃ s, hq_Z (hq_w β) (hq_b β) (hq_c (β.1 13)) n H s) ∧ ∀ h s, H < h → ¬ hq_Z (hq_w β) (hq_b β) (hq_c (β.1 13)) n h s := by
  unfold fX6_greatest at h
  obtain ⟨_, τ, e, h⟩ := hy_pa_some h
  have k14 : (τ.1 14 0).toInt = 0 := by rw [e]; rfl
  refine hq_g11 ok n20 hn hy_fu τ 0 0 o ⟨fun j hj => ?_, by rw [e]; rfl⟩ (Nat.zero_le _) (Nat.le_refl _) ⟨fun k hk => ?_, fun k s hk z => ?_⟩ h
  · rw [e]
    show (if j = 14 then _ else β.1 j) = β.1 j
    rw [if_neg hj]
  · have ek : k = 0 := by omega
    rw [ek]
    exact ⟨⟨rfl, k14⟩, fun s z => by show (τ.1 14 0).toInt ≤ s; have := z.2; omega⟩
  · have := z.1
    omega
