/-! A note read by both sides: the same first wrong byte, or the same five numbers. -/
theorem hn_wd {σ : hy_S} {p : Nat} (p5 : p < 5) {o : hy_S × Int32} (h : fX3_wordOf σ (hv_i p) = some o) : o.1 = σ ∧ o.2.toNatClampNeg = p := by
  unfold fX3_wordOf at h
  rcases (show p = 0 ∨ p = 1 ∨ p = 2 ∨ p = 3 ∨ p = 4 by omega) with rfl | rfl | rfl | rfl | rfl
  · rw [if_pos (by decide)] at h
    exact ⟨(hi_pr h).1, by rw [(hi_pr h).2]; rfl⟩
  · rw [if_neg (by decide), if_pos (by decide)] at h
    exact ⟨(hi_pr h).1, by rw [(hi_pr h).2]; rfl⟩
  · rw [if_neg (by decide), if_neg (by decide), if_pos (by decide)] at h
    exact ⟨(hi_pr h).1, by rw [(hi_pr h).2]; rfl⟩
  · rw [if_neg (by decide), if_neg (by decide), if_neg (by decide), if_pos (by decide)] at h
    exact ⟨(hi_pr h).1, by rw [(hi_pr h).2]; rfl⟩
  · rw [if_neg (by decide), if_neg (by decide), if_neg (by decide), if_neg (by decide)] at h
    exact ⟨(hi_pr h).1, by rw [(hi_pr h).2]; rfl⟩
theorem hn_wm {σ : hy_S} {p : Nat} (p5 : p < 5) {o : hy_S × Int32} (h : fX10_word σ (hv_i p) = some o) : o.1 = σ ∧ o.2.toNatClampNeg = p := by
  unfold fX10_word at h
  rcases (show p = 0 ∨ p = 1 ∨ p = 2 ∨ p = 3 ∨ p = 4 by omega) with rfl | rfl | rfl | rfl | rfl
  · rw [if_pos (by decide)] at h
    exact ⟨(hi_pr h).1, by rw [(hi_pr h).2]; rfl⟩
  · rw [if_neg (by decide), if_pos (by decide)] at h
    exact ⟨(hi_pr h).1, by rw [(hi_pr h).2]; rfl⟩
  · rw [if_neg (by decide), if_neg (by decide), if_pos (by decide)] at h
    exact ⟨(hi_pr h).1, by rw [(hi_pr h).2]; rfl⟩
  · rw [if_neg (by decide), if_neg (by decide), if_neg (by decide), if_pos (by decide)] at h
    exact ⟨(hi_pr h).1, by rw [(hi_pr h).2]; rfl⟩
  · rw [if_neg (by decide), if_neg (by decide), if_neg (by decide), if_neg (by decide)] at h
    exact ⟨(hi_pr h).1, by rw [(hi_pr h).2]; rfl⟩
/-- what the two readings have to do with each other when they end -/
noncomputable def hn_Q (σ μ : hy_S) (o o2 : hy_S × Int32) : Prop := ((o2.2 = 1 ∧ o.2 = -1 ∧ ∀ k, k < 5 → o.1.1 1 k = o2.1.1 19 k) ∨ (o2.2 = 0 ∧ o.2 = o2.1.2 7 ∧ 0 ≤ o.2.toInt)) ∧ (∀ j, ¬ j = 1 → o.1.1 j = σ.1 j) ∧ o.1.2 = σ.2 ∧ (∀ j, ¬ j = 19 → o2.1.1 j = μ.1 j) ∧ (∀ j, ¬ j = 5 → ¬ j = 7 → o2.1.2 j = μ.2 j)
theorem hn_rd {L : Nat} (L400 : L ≤ 400) : ∀ (n : Nat) (σ μ : hy_S) (a p : Nat) (o o2 : hy_S × Int32), σ.1 0 = μ.1 17 → (σ.2 2).toInt = (L : Int) → (μ.2 6).toInt = (L : Int) → μ.2 5 = hv_i a → a ≤ L → p ≤ 5 → (∀ k, k < p → σ.1 1 k = μ.1 19 k) → fX3_readFrom_4 n σ (hv_i a) (hv_i p) = some o → fX10_readNote_7 n μ (hv_i p) = some o2 → hn_Q σ μ o o2 := by
  intro n
  induction n with
  | zero => intro σ μ a p o o2 ht h1 h2 h3 h4 h5 h6 h; cases h
  | succ n ih =>
    intro σ μ a p o o2 ht hL hE h5 aL p5 hk h h2
    unfold fX3_readFrom_4 at h
    unfold fX10_readNote_7 at h2
    have ep := hv_ii (r := p) (by omega)
    by_cases c : 5 ≤ hv_i p
    · rw [if_pos c] at h h2
      have c1 : (5 : Int) ≤ (hv_i p).toInt := hi_le.mp c
      have e5 : p = 5 := by omega
      obtain ⟨σ2, v3, e2, h⟩ := hy_bd_some h
      unfold fX7_past at e2
      obtain ⟨q1, v, q2, q3⟩ := hn_past hL L400 hy_fu a _ (by omega) e2
      have q1 : σ2 = σ := q1
      have q2 : v3 = hv_i v := q2
      obtain ⟨μ2, w3, f2, h2⟩ := hy_bd_some h2
      unfold fX10_blanks at f2
      obtain ⟨v', r1, r2, r3, r4⟩ := hn_bl L400 hy_fu μ a _ h5 hE aL f2
      have r2 : μ2.2 5 = hv_i v' := r2
      have r3 : μ2.2 7 = hv_i v' := r3
      have r4 : hn_S 5 7 μ μ2 := r4
      rw [← ht] at r1
      have ev : v' = v := hn_Pu r1 q3
      have vL := hn_Ple q3 aL
      have iv := hv_ii (r := v) (by omega)
      rw [ev] at r2 r3
      rw [q1, q2] at h
      obtain ⟨σ5, v6, e5', h⟩ := hy_bd_some h
      unfold fX7_endsAt at e5'
      have b6 : μ2.2 6 = μ.2 6 := r4.2 6 (by decide) (by decide)
      rw [r2, b6] at h2
      by_cases d : hv_i v < σ.2 2
      · rw [if_pos d] at e5'
        have d1 := Int32.lt_iff_toInt_lt.mp d
        rw [show v6 = 0 from (hi_pr e5').2, show σ5 = σ from (hi_pr e5').1] at h
        rw [if_pos rfl] at h
        rw [if_neg (fun z => by rw [← z, iv] at hE; omega)] at h2
        rw [← Option.some.inj h, ← Option.some.inj h2]
        refine ⟨Or.inr ⟨rfl, r3.symm, ?_⟩, fun _ _ => rfl, rfl, fun j _ => ?_, fun j j1 j2 => r4.2 j j1 j2⟩
        · show 0 ≤ (hv_i v).toInt
          omega
        · show μ2.1 j = μ.1 j
          rw [r4.1]
      · rw [if_neg d] at e5'
        have d1 := hi_nlt d
        rw [show v6 = 1 from (hi_pr e5').2, show σ5 = σ from (hi_pr e5').1] at h
        rw [if_neg (by decide)] at h
        have z : hv_i v = μ.2 6 := Int32.toInt_inj.mp (by omega)
        rw [if_pos z] at h2
        rw [← Option.some.inj h, ← Option.some.inj h2]
        refine ⟨Or.inl ⟨rfl, rfl, fun k k5 => ?_⟩, fun _ _ => rfl, rfl, fun j _ => ?_, fun j j1 j2 => r4.2 j j1 j2⟩
        · show σ.1 1 k = μ2.1 19 k
          rw [r4.1]
          exact hk k (by omega)
        · show μ2.1 j = μ.1 j
          rw [r4.1]
    · rw [if_neg c] at h h2
      have c1 : ¬ (5 : Int) ≤ (hv_i p).toInt := hi_nle c
      have p4 : p < 5 := by omega
      -- blanks ahead
      obtain ⟨σ9, v10, e9, h⟩ := hy_bd_some h
      unfold fX7_past at e9
      obtain ⟨q1, a1, q2, P1⟩ := hn_past hL L400 hy_fu a _ (by omega) e9
      rw [show σ9 = σ from q1, show v10 = hv_i a1 from q2] at h
      obtain ⟨μ6, w7, f6, h2⟩ := hy_bd_some h2
      unfold fX10_blanks at f6
      obtain ⟨a1', r1, r2, r3, r4⟩ := hn_bl L400 hy_fu μ a _ h5 hE aL f6
      have r2 : μ6.2 5 = hv_i a1' := r2
      have r3 : μ6.2 7 = hv_i a1' := r3
      have r4 : hn_S 5 7 μ μ6 := r4
      rw [← ht] at r1
      have ev : a1' = a1 := hn_Pu r1 P1
      rw [ev] at r2 r3
      have a1L := hn_Ple P1 aL
      have t6 : μ6.1 = μ.1 := r4.1
      have E6 : (μ6.2 6).toInt = (L : Int) := by rw [r4.2 6 (by decide) (by decide)]; exact hE
      -- the word
      obtain ⟨σ12, v13, e12, h⟩ := hy_bd_some h
      unfold fX7_past at e12
      obtain ⟨q1, a2, q2, P2⟩ := hn_past hL L400 hy_fu a1 _ (by omega) e12
      rw [show σ12 = σ from q1, show v13 = hv_i a2 from q2] at h
      obtain ⟨a2', τ, s1, s2, s3, s4⟩ := hn_n16 L400 hy_fu μ6 a1 r2 E6 a1L h2
      rw [t6, ← ht] at s1
      have ev2 : a2' = a2 := hn_Pu s1 P2
      rw [ev2] at s2
      have a2L := hn_Ple P2 a1L
      have τ1 : τ.1 = μ.1 := s3.1.trans t6
      have τ7 : τ.2 7 = hv_i a1 := by rw [s3.2 7 (by decide) (by decide)]; exact r3
      have τ6 : (τ.2 6).toInt = (L : Int) := by rw [s3.2 6 (by decide) (by decide)]; exact E6
      have τf : ∀ j, ¬ j = 5 → ¬ j = 7 → τ.2 j = μ.2 j := fun j j1 j2 => (s3.2 j j1 j1).trans (r4.2 j j1 j2)
      obtain ⟨σ15, v16, e15, h⟩ := hy_bd_some h
      obtain ⟨m1, m2⟩ := hn_wd p4 e15
      rw [show σ15 = σ from m1] at h
      have m2 : v16.toNatClampNeg = p := m2
      obtain ⟨σ18, v19, e18, h⟩ := hy_bd_some h
      obtain ⟨m3, m4⟩ := hn_rds P2.1 (by omega) m2 p4 e18
      rw [show σ18 = σ from m3] at h
      have m4 : (v19 = 1 ∧ hn_W (σ.1 0) p a1 a2) ∨ (v19 = 0 ∧ ¬ hn_W (σ.1 0) p a1 a2) := m4
      obtain ⟨τ5, w6, g5, s4⟩ := hy_bd_some s4
      obtain ⟨n1, n2⟩ := hn_wm p4 g5
      rw [show τ5 = τ from n1] at s4
      have n2 : w6.toNatClampNeg = p := n2
      obtain ⟨τ8, w9, g8, s4⟩ := hy_bd_some s4
      obtain ⟨n3, n4⟩ := hn_iw P2.1 (by omega) τ7 s2 n2 p4 g8
      rw [show τ8 = τ from n3] at s4
      rw [τ1, ← ht] at n4
      have n4 : (w9 = 1 ∧ hn_W (σ.1 0) p a1 a2) ∨ (w9 = 0 ∧ ¬ hn_W (σ.1 0) p a1 a2) := n4
      rcases m4 with ⟨m4, mW⟩ | ⟨m4, mW⟩
      · rcases n4 with ⟨n4, _⟩ | ⟨_, nW⟩
        · rw [m4] at h
          rw [n4] at s4
          rw [if_neg (by decide)] at h s4
          -- blanks between
          obtain ⟨σ22, v23, e22, h⟩ := hy_bd_some h
          unfold fX7_past at e22
          obtain ⟨q1, a3, q2, P3⟩ := hn_past hL L400 hy_fu a2 _ (by omega) e22
          rw [show σ22 = σ from q1, show v23 = hv_i a3 from q2] at h
          obtain ⟨τ12, w13, g12, s4⟩ := hy_bd_some s4
          unfold fX10_blanks at g12
          obtain ⟨a3', x1, x2, x3, x4⟩ := hn_bl L400 hy_fu τ a2 _ s2 τ6 a2L g12
          have x2 : τ12.2 5 = hv_i a3' := x2
          have x3 : τ12.2 7 = hv_i a3' := x3
          have x4 : hn_S 5 7 τ τ12 := x4
          rw [τ1, ← ht] at x1
          have ev3 : a3' = a3 := hn_Pu x1 P3
          rw [ev3] at x2 x3
          have a3L := hn_Ple P3 a2L
          have u1 : τ12.1 = μ.1 := x4.1.trans τ1
          have u6 : (τ12.2 6).toInt = (L : Int) := by rw [x4.2 6 (by decide) (by decide)]; exact τ6
          have uf : ∀ j, ¬ j = 5 → ¬ j = 7 → τ12.2 j = μ.2 j := fun j j1 j2 => (x4.2 j j1 j2).trans (τf j j1 j2)
          -- the digits
          obtain ⟨σ25, v26, e25, h⟩ := hy_bd_some h
          unfold fX7_past at e25
          obtain ⟨q1, a4, q2, P4⟩ := hn_past hL L400 hy_fu a3 _ (by omega) e25
          rw [show σ25 = σ from q1, show v26 = hv_i a4 from q2] at h
          obtain ⟨a4', ω, y, y1, y2, y3, y4, y5⟩ := hn_n59 L400 (b := a3) hy_fu τ12 0 0 x2 x3 u6 a3L (fun _ => rfl) s4
          rw [u1, ← ht] at y1 y4
          have ev4 : a4' = a4 := hn_Pu y1 P4
          rw [ev4] at y2 y4
          have a4L := hn_Ple P4 a3L
          have le34 := P4.1
          have ω1 : ω.1 = μ.1 := y3.1.trans u1
          have ω7 : ω.2 7 = hv_i a3 := by rw [y3.2 7 (by decide) (by decide)]; exact x3
          have ω6 : (ω.2 6).toInt = (L : Int) := by rw [y3.2 6 (by decide) (by decide)]; exact u6
          have ωf : ∀ j, ¬ j = 5 → ¬ j = 7 → ω.2 j = μ.2 j := fun j j1 j2 => (y3.2 j j1 j1).trans (uf j j1 j2)
          have g34 : (hv_i a4 - hv_i a3).toInt = (a4 : Int) - (a3 : Int) := hn_ii (by omega) (by omega)
          have bad : some (σ, hv_i a3) = some o → some (ω, (0 : Int32)) = some o2 → hn_Q σ μ o o2 := by
            intro z1 z2
            rw [← Option.some.inj z1, ← Option.some.inj z2]
            refine ⟨Or.inr ⟨rfl, ω7.symm, ?_⟩, fun _ _ => rfl, rfl, fun j _ => ?_, ωf⟩
            · show 0 ≤ (hv_i a3).toInt
              rw [hv_ii (by omega)]
              omega
            · show ω.1 j = μ.1 j
              rw [ω1]
          unfold hn_t59 at y5
          rw [y2, ω7] at y5
          by_cases d1 : a4 = a3
          · rw [d1] at h y5
            rw [if_pos rfl] at h y5
            unfold fX3_readFrom_82 at h
            exact bad h y5
          · have d2 : ¬ hv_i a4 = hv_i a3 := fun z => d1 (hv_inj (by omega) (by omega) z)
            rw [if_neg d2] at h y5
            by_cases d3 : hv_i a4 - hv_i a3 ≤ 5
            · rw [if_pos d3] at h y5
              have d4 : (hv_i a4 - hv_i a3).toInt ≤ (5 : Int) := hi_le.mp d3
              obtain ⟨σ30, v31, e30, h⟩ := hy_bd_some h
              unfold fX7_digitsFrom at e30
              have D := hn_dg (σ := σ) (a := a3) (b := a4) (by omega) hy_fu 0 0 _ (by omega) rfl e30
              rw [show σ30 = σ from congrArg Prod.fst D, show v31 = _ from congrArg Prod.snd D] at h
              obtain ⟨_, σ33, e33, h⟩ := hy_pa_some h
              obtain ⟨_, ω2, g2, y5⟩ := hy_pa_some y5
              rw [y4 (by omega)] at g2
              rw [hv_iN (by omega)] at e33 g2
              rw [hn_i1 (by omega)] at h y5
              have Q := ih σ33 ω2 a4 (p + 1) o o2 (by rw [e33, g2]; show σ.1 0 = ω.1 17; rw [ω1]; exact ht) (by rw [e33]; exact hL) (by rw [g2]; exact ω6) (by rw [g2]; exact y2) a4L (by omega) (by
                intro k hk2
                rw [e33, g2]
                show upd (σ.1 1) p _ k = upd (ω.1 19) p _ k
                by_cases e : k = p
                · rw [e, hs_upds, hs_upds]
                · rw [hs_upd e, hs_upd e, ω1]
                  exact hk k (by omega)) h y5
              obtain ⟨Q1, Q2, Q3, Q4, Q5⟩ := Q
              refine ⟨Q1, fun j j1 => ?_, ?_, fun j j1 => ?_, fun j j1 j2 => ?_⟩
              · rw [Q2 j j1, e33]
                show (if j = 1 then _ else σ.1 j) = σ.1 j
                rw [if_neg j1]
              · rw [Q3, e33]
                rfl
              · rw [Q4 j j1, g2, ← ω1]
                show (if j = 19 then _ else ω.1 j) = ω.1 j
                rw [if_neg j1]
              · rw [Q5 j j1 j2, g2]
                exact ωf j j1 j2
            · rw [if_neg d3] at h y5
              unfold fX3_readFrom_82 at h
              exact bad h y5
        · exact absurd mW nW
      · rcases n4 with ⟨_, nW⟩ | ⟨n4, _⟩
        · exact absurd nW mW
        · rw [m4] at h
          rw [n4] at s4
          rw [if_pos rfl] at h s4
          rw [← Option.some.inj h, ← Option.some.inj s4]
          refine ⟨Or.inr ⟨rfl, τ7.symm, ?_⟩, fun _ _ => rfl, rfl, fun j _ => ?_, τf⟩
          · show 0 ≤ (hv_i a1).toInt
            rw [hv_ii (by omega)]
            omega
          · show τ.1 j = μ.1 j
            rw [τ1]
