/-! The tape on both sides: twenty bytes come behind it. -/
theorem hn_sx {y z : BitVec 32} (h : ∀ i, i < 8 → y.getLsbD i = z.getLsbD i) : y.signExtend 8 = z.signExtend 8 := by
  apply BitVec.eq_of_getLsbD_eq
  intro i hi
  rw [BitVec.getLsbD_signExtend, BitVec.getLsbD_signExtend, if_pos (show i < 32 by omega), if_pos (show i < 32 by omega), h i hi]
theorem hn_sh (x : BitVec 32) (s i : Nat) (h : s + i < 32) : (x >>> s).getLsbD i = (x.sshiftRight s).getLsbD i := by
  rw [BitVec.getLsbD_ushiftRight, BitVec.getLsbD_sshiftRight, if_pos h, decide_eq_false (by omega)]
  rfl
noncomputable abbrev hn_b (x s : Int32) : Int32 := vp_nar .byte ((Int32.toInt8 ((Int32.toUInt32 x >>> (Int32.toUInt32 s &&& Int32.toUInt32 31)).toInt32)).toInt32)
noncomputable abbrev hn_d (x s : Int32) : Int32 := vp_nar .byte ((Int32.toInt8 (x >>> (s &&& 31))).toInt32)
theorem hn_by24 (x : Int32) : Int32.toInt8 ((Int32.toUInt32 x >>> (Int32.toUInt32 24 &&& Int32.toUInt32 31)).toInt32) = Int32.toInt8 (x >>> (24 &&& 31)) := by
  apply Int8.toBitVec_inj.mp
  show (x.toBitVec >>> 24).signExtend 8 = (x.toBitVec.sshiftRight 24).signExtend 8
  exact hn_sx (fun i hi => hn_sh _ _ _ (by omega))
theorem hn_by16 (x : Int32) : Int32.toInt8 ((Int32.toUInt32 x >>> (Int32.toUInt32 16 &&& Int32.toUInt32 31)).toInt32) = Int32.toInt8 (x >>> (16 &&& 31)) := by
  apply Int8.toBitVec_inj.mp
  show (x.toBitVec >>> 16).signExtend 8 = (x.toBitVec.sshiftRight 16).signExtend 8
  exact hn_sx (fun i hi => hn_sh _ _ _ (by omega))
theorem hn_by8 (x : Int32) : Int32.toInt8 ((Int32.toUInt32 x >>> (Int32.toUInt32 8 &&& Int32.toUInt32 31)).toInt32) = Int32.toInt8 (x >>> (8 &&& 31)) := by
  apply Int8.toBitVec_inj.mp
  show (x.toBitVec >>> 8).signExtend 8 = (x.toBitVec.sshiftRight 8).signExtend 8
  exact hn_sx (fun i hi => hn_sh _ _ _ (by omega))
theorem hn_by0 (x : Int32) : Int32.toInt8 ((Int32.toUInt32 x >>> (Int32.toUInt32 0 &&& Int32.toUInt32 31)).toInt32) = Int32.toInt8 (x >>> (0 &&& 31)) := by
  apply Int8.toBitVec_inj.mp
  show (x.toBitVec >>> 0).signExtend 8 = (x.toBitVec.sshiftRight 0).signExtend 8
  exact hn_sx (fun i hi => hn_sh _ _ _ (by omega))
/-- the shift of the i-th byte of a number -/
noncomputable abbrev hn_s (i : Nat) : Int32 := Int32.ofInt (24 - 8 * (i : Int))
theorem hn_bd (x : Int32) {i : Nat} (h : i < 4) : hn_b x (hn_s i) = hn_d x (hn_s i) := by
  have e : Int32.toInt8 ((Int32.toUInt32 x >>> (Int32.toUInt32 (hn_s i) &&& Int32.toUInt32 31)).toInt32) = Int32.toInt8 (x >>> (hn_s i &&& 31)) := by
    rcases (show i = 0 ∨ i = 1 ∨ i = 2 ∨ i = 3 by omega) with rfl | rfl | rfl | rfl
    · exact hn_by24 x
    · exact hn_by16 x
    · exact hn_by8 x
    · exact hn_by0 x
  show vp_nar .byte (Int8.toInt32 _) = vp_nar .byte (Int8.toInt32 _)
  rw [e]
/-- a row of cells that begins at s with n new ones from the i-th on -/
noncomputable def hn_w (t : Nat → Int32) (s i n : Nat) (b : Nat → Int32) (q : Nat) : Int32 := if s + i ≤ q ∧ q < s + n then b (q - s) else t q
theorem hn_w0 {t : Nat → Int32} {s n : Nat} {b : Nat → Int32} : hn_w t s n n b = t := by
  funext q
  unfold hn_w
  rw [if_neg (fun z => absurd z.2 (by omega))]
theorem hn_w1 {t : Nat → Int32} {s i n : Nat} {b : Nat → Int32} (h : i < n) {v : Int32} (hv : v = b i) : hn_w (upd t (s + i) v) s (i + 1) n b = hn_w t s i n b := by
  funext q
  unfold hn_w
  by_cases e : q = s + i
  · subst e
    rw [if_neg (fun z => absurd z.1 (by omega)), hs_upds, if_pos ⟨Nat.le_refl _, by omega⟩, hv, Nat.add_sub_cancel_left]
  · rw [hs_upd e]
    by_cases c : s + i ≤ q ∧ q < s + n
    · rw [if_pos c, if_pos ⟨by omega, c.2⟩]
    · rw [if_neg c, if_neg (fun z => c ⟨by omega, z.2⟩)]
theorem hn_put {x : Int32} {s : Nat} (s396 : s ≤ 396) : ∀ (n : Nat) (σ : hy_S) (i : Nat) (x2 : Int32) (o : hy_S × Int32), i ≤ 4 → x2.toInt = 24 - 8 * (i : Int) → (σ.2 2).toInt = (s : Int) + (i : Int) → fX7_put_3 n σ x x2 = some o → o.1.1 0 = hn_w (σ.1 0) s i 4 (fun j => hn_b x (hn_s j)) ∧ (o.1.2 2).toInt = (s : Int) + 4 ∧ (∀ j, ¬ j = 0 → o.1.1 j = σ.1 j) ∧ (∀ j, ¬ j = 2 → o.1.2 j = σ.2 j) := by
  intro n
  induction n with
  | zero => intro σ i x2 o h0 h1 h2 h; cases h
  | succ n ih =>
    intro σ i x2 o h0 h1 h2 h
    unfold fX7_put_3 at h
    by_cases c : x2 < 0
    · rw [if_pos c] at h
      have c1 : x2.toInt < 0 := Int32.lt_iff_toInt_lt.mp c
      have e : i = 4 := by omega
      rw [(hi_pr h).1, e, hn_w0]
      exact ⟨rfl, by omega, fun _ _ => rfl, fun _ _ => rfl⟩
    · rw [if_neg c] at h
      have c1 : ¬ x2.toInt < 0 := hi_nlt c
      obtain ⟨_, τ, e1, h⟩ := hy_pa_some h
      obtain ⟨τ2, e2, h⟩ := hy_pf_some h
      have nx := hs_tn (x := σ.2 2) (by omega)
      have ex : x2 = hn_s i := Int32.toInt_inj.mp (by
        rw [h1]
        rcases (show i = 0 ∨ i = 1 ∨ i = 2 ∨ i = 3 by omega) with rfl | rfl | rfl | rfl <;> rfl)
      have gx : (x2 + (-8)).toInt = x2.toInt + (-8) := hs_addk (-8) rfl (by omega) (by omega)
      have gs : (σ.2 2 + 1).toInt = (σ.2 2).toInt + 1 := hs_addk 1 rfl (by omega) (by omega)
      have en : (σ.2 2).toNatClampNeg = s + i := by omega
      have b2 : τ.2 2 = σ.2 2 := by rw [e1]; rfl
      rw [b2] at e2
      rw [en, ex] at e1
      obtain ⟨q1, q2, q3, q4⟩ := ih τ2 (i + 1) (x2 + (-8)) o (by omega) (by rw [gx, h1]; omega) (by
        rw [e2]
        show (σ.2 2 + 1).toInt = _
        rw [gs, h2]
        omega) h
      refine ⟨?_, q2, fun j hj => ?_, fun j hj => ?_⟩
      · rw [q1, e2, e1]
        exact hn_w1 (by omega) rfl
      · rw [q3 j hj, e2, e1]
        show (if j = 0 then _ else σ.1 j) = σ.1 j
        rw [if_neg hj]
      · rw [q4 j hj, e2]
        show (if j = 2 then _ else τ.2 j) = σ.2 j
        rw [if_neg hj, e1]
        rfl
/-- the twenty bytes of five numbers -/
noncomputable def hn_five (x1 x2 x3 x4 x5 : Int32) (k : Nat) : Int32 := match k with
  | 0 => x1
  | 1 => x2
  | 2 => x3
  | 3 => x4
  | _ => x5
noncomputable def hn_B (x1 x2 x3 x4 x5 : Int32) (j : Nat) : Int32 := hn_d (hn_five x1 x2 x3 x4 x5 (j / 4)) (hn_s (j % 4))
theorem hn_w4 {t : Nat → Int32} {s : Nat} {x : Int32} {m : Nat} {b : Nat → Int32} (hb : ∀ i, i < 4 → b (m + i) = hn_b x (hn_s i)) : hn_w t (s + m) 0 4 (fun j => hn_b x (hn_s j)) = fun q => if s + m ≤ q ∧ q < s + (m + 4) then b (q - s) else t q := by
  funext q
  unfold hn_w
  by_cases c : s + m ≤ q ∧ q < s + (m + 4)
  · rw [if_pos c, if_pos ⟨by omega, by omega⟩, show q - s = m + (q - (s + m)) by omega, hb _ (by omega)]
  · rw [if_neg c, if_neg (fun z => c ⟨by omega, by omega⟩)]
theorem hn_append {σ : hy_S} {x1 x2 x3 x4 x5 : Int32} {s : Nat} (hs : (σ.2 2).toInt = (s : Int)) (s400 : s ≤ 400) {o : hy_S × Int32} (h : fX7_append σ x1 x2 x3 x4 x5 = some o) : (s + 20 ≤ 400 ∧ o.1.1 0 = hn_w (σ.1 0) s 0 20 (hn_B x1 x2 x3 x4 x5) ∧ (o.1.2 2).toInt = (s : Int) + 20 ∧ (∀ j, ¬ j = 0 → o.1.1 j = σ.1 j) ∧ (∀ j, ¬ j = 2 → o.1.2 j = σ.2 j)) ∨ (400 < s + 20 ∧ o.1 = σ) := by
  unfold fX7_append at h
  by_cases c : σ.2 2 + 20 ≤ 400
  · rw [if_pos c] at h
    have c1 : (σ.2 2 + 20).toInt ≤ 400 := hi_le.mp c
    have g : (σ.2 2 + 20).toInt = (s : Int) + 20 := by rw [hs_addk 20 rfl (by omega) (by omega), hs]
    rw [g] at c1
    refine Or.inl ⟨by omega, ?_⟩
    obtain ⟨a1, u1, e1, h⟩ := hy_bd_some h
    obtain ⟨a2, u2, e2, h⟩ := hy_bd_some h
    obtain ⟨a3, u3, e3, h⟩ := hy_bd_some h
    obtain ⟨a4, u4, e4, h⟩ := hy_bd_some h
    obtain ⟨a5, u5, e5, h⟩ := hy_bd_some h
    unfold fX7_put at e1 e2 e3 e4 e5
    obtain ⟨p1, p2, p3, p4⟩ := hn_put (s := s) (by omega) hy_fu σ 0 24 (a1, u1) (by omega) rfl (by omega) e1
    have p2 : (a1.2 2).toInt = (s : Int) + 4 := p2
    obtain ⟨q1, q2, q3, q4⟩ := hn_put (s := s + 4) (by omega) hy_fu a1 0 24 (a2, u2) (by omega) rfl (by omega) e2
    have q2 : (a2.2 2).toInt = ((s + 4 : Nat) : Int) + 4 := q2
    obtain ⟨r1, r2, r3, r4⟩ := hn_put (s := s + 8) (by omega) hy_fu a2 0 24 (a3, u3) (by omega) rfl (by omega) e3
    have r2 : (a3.2 2).toInt = ((s + 8 : Nat) : Int) + 4 := r2
    obtain ⟨t1, t2, t3, t4⟩ := hn_put (s := s + 12) (by omega) hy_fu a3 0 24 (a4, u4) (by omega) rfl (by omega) e4
    have t2 : (a4.2 2).toInt = ((s + 12 : Nat) : Int) + 4 := t2
    obtain ⟨w1, w2, w3, w4⟩ := hn_put (s := s + 16) (by omega) hy_fu a4 0 24 (a5, u5) (by omega) rfl (by omega) e5
    have w2 : (a5.2 2).toInt = ((s + 16 : Nat) : Int) + 4 := w2
    have p1 : a1.1 0 = _ := p1
    have q1 : a2.1 0 = _ := q1
    have r1 : a3.1 0 = _ := r1
    have t1 : a4.1 0 = _ := t1
    have w1 : a5.1 0 = _ := w1
    obtain ⟨s1, s2⟩ := hi_pr h
    rw [s1]
    refine ⟨?_, by rw [w2]; omega, fun j hj => ?_, fun j hj => ?_⟩
    · have b0 : ∀ i, i < 4 → hn_B x1 x2 x3 x4 x5 (0 + i) = hn_b x1 (hn_s i) := by
        intro i hi
        rw [hn_bd _ hi]
        unfold hn_B
        rw [show (0 + i) / 4 = 0 by omega, show (0 + i) % 4 = i by omega]
        rfl
      have b1 : ∀ i, i < 4 → hn_B x1 x2 x3 x4 x5 (4 + i) = hn_b x2 (hn_s i) := by
        intro i hi
        rw [hn_bd _ hi]
        unfold hn_B
        rw [show (4 + i) / 4 = 1 by omega, show (4 + i) % 4 = i by omega]
        rfl
      have b2 : ∀ i, i < 4 → hn_B x1 x2 x3 x4 x5 (8 + i) = hn_b x3 (hn_s i) := by
        intro i hi
        rw [hn_bd _ hi]
        unfold hn_B
        rw [show (8 + i) / 4 = 2 by omega, show (8 + i) % 4 = i by omega]
        rfl
      have b3 : ∀ i, i < 4 → hn_B x1 x2 x3 x4 x5 (12 + i) = hn_b x4 (hn_s i) := by
        intro i hi
        rw [hn_bd _ hi]
        unfold hn_B
        rw [show (12 + i) / 4 = 3 by omega, show (12 + i) % 4 = i by omega]
        rfl
      have b4 : ∀ i, i < 4 → hn_B x1 x2 x3 x4 x5 (16 + i) = hn_b x5 (hn_s i) := by
        intro i hi
        rw [hn_bd _ hi]
        unfold hn_B
        rw [show (16 + i) / 4 = 4 by omega, show (16 + i) % 4 = i by omega]
        rfl
      rw [show s = s + 0 from rfl, hn_w4 b0] at p1
      rw [hn_w4 b1] at q1
      rw [hn_w4 b2] at r1
      rw [hn_w4 b3] at t1
      rw [hn_w4 b4] at w1
      rw [w1, t1, r1, q1, p1]
      funext q
      unfold hn_w
      dsimp only
      by_cases z4 : s + 16 ≤ q ∧ q < s + (16 + 4)
      · rw [if_pos z4, if_pos ⟨by omega, by omega⟩]
      · rw [if_neg z4]
        by_cases z3 : s + 12 ≤ q ∧ q < s + (12 + 4)
        · rw [if_pos z3, if_pos ⟨by omega, by omega⟩]
        · rw [if_neg z3]
          by_cases z2 : s + 8 ≤ q ∧ q < s + (8 + 4)
          · rw [if_pos z2, if_pos ⟨by omega, by omega⟩]
          · rw [if_neg z2]
            by_cases z1 : s + 4 ≤ q ∧ q < s + (4 + 4)
            · rw [if_pos z1, if_pos ⟨by omega, by omega⟩]
            · rw [if_neg z1]
              by_cases z0 : s + 0 ≤ q ∧ q < s + (0 + 4)
              · rw [if_pos z0, if_pos ⟨by omega, by omega⟩]
              · rw [if_neg z0, if_neg (fun z => by omega)]
    · rw [show a5.1 j = a4.1 j from w3 j hj, show a4.1 j = a3.1 j from t3 j hj, show a3.1 j = a2.1 j from r3 j hj, show a2.1 j = a1.1 j from q3 j hj, show a1.1 j = σ.1 j from p3 j hj]
    · rw [show a5.2 j = a4.2 j from w4 j hj, show a4.2 j = a3.2 j from t4 j hj, show a3.2 j = a2.2 j from r4 j hj, show a2.2 j = a1.2 j from q4 j hj, show a1.2 j = σ.2 j from p4 j hj]
  · rw [if_neg c] at h
    have c1 : ¬ (σ.2 2 + 20).toInt ≤ 400 := hi_nle c
    refine Or.inr ⟨?_, (hi_pr h).1⟩
    have g : (σ.2 2 + 20).toInt = (s : Int) + 20 := by rw [hs_addk 20 rfl (by omega) (by omega), hs]
    rw [g] at c1
    omega
