/-! Both sides keep their bounds: what the law's loop asks. -/
def hp_I (_ : Nat) (σ μ : hy_S) : Prop := hc_I σ ∧ hm_I μ
theorem hp_ca (j : Nat) : (hc_a j).1 ≤ 0 ∧ 0 ≤ (hc_a j).2 := by
  unfold hc_a
  split <;> decide
theorem hp_ci (j : Nat) : (hc_i j).1 ≤ 0 ∧ 0 ≤ (hc_i j).2 := by
  unfold hc_i
  split <;> decide
theorem hp_ma (j : Nat) : (hm_a j).1 ≤ 0 ∧ 0 ≤ (hm_a j).2 := by
  unfold hm_a
  split <;> decide
theorem hp_mi (j : Nat) : (hm_i j).1 ≤ 0 ∧ 0 ≤ (hm_i j).2 := by
  unfold hm_i
  split <;> decide
theorem hp_a0 {k9 j k : Nat} (h : ¬ j = k9) : hz_a k9 j k = 0 := by
  unfold hz_a
  rw [decide_eq_false h]
theorem hp_i0 {k9 j : Nat} (h : ¬ j = k9) : hz_i k9 j = 0 := by
  unfold hz_i
  rw [decide_eq_false h]
theorem hp_0 : hp_I 0 hz_σ hz_μ := by
  refine ⟨⟨fun j k => ?_, fun j => ?_, trivial⟩, fun j k => ?_, fun j => ?_, fun j hj => ?_⟩
  · by_cases e : j = 15
    · subst e
      exact hs_any _
    · rw [show hz_σ.1 j k = 0 from hp_a0 e]
      exact hp_ca j
  · by_cases e : j = 0
    · subst e
      exact hs_any _
    · rw [show hz_σ.2 j = 0 from hp_i0 e]
      exact hp_ci j
  · by_cases e : j = 14
    · subst e
      exact hs_any _
    · rw [show hz_μ.1 j k = 0 from hp_a0 e]
      exact hp_ma j
  · by_cases e : j = 8
    · subst e
      exact hs_any _
    · rw [show hz_μ.2 j = 0 from hp_i0 e]
      exact hp_mi j
  · rw [show hz_μ.2 2 = 0 from hp_i0 (k9 := 8) (j := 2) (by decide)] at hj
    exact absurd hj (by
      show ¬ (j : Int) < 0
      omega)
theorem hp_feed : hz_I_feed hp_I := by
  intro n σ μ x1 x2 x3 x4 x5 hn hI
  obtain ⟨o, e1, h1⟩ := s_fX9_feed σ x1 x2 x3 x4 x5 (P := fun τ _ => hc_I τ) hI.1 (fun _ _ h => h)
  obtain ⟨o2, e2, h2⟩ := s_fX10_feed μ x1 x2 x3 x4 x5 (P := fun τ _ => hm_I τ) hI.2 (fun _ _ h => h)
  exact ⟨o, o2, e1, e2, h1, h2⟩
theorem hp_end : hz_I_end hp_I := by
  intro n σ μ x1 hn hI
  obtain ⟨o, e1, h1⟩ := s_fX9_end σ x1 (P := fun τ _ => hc_I τ) hI.1 (fun _ _ h => h)
  obtain ⟨o2, e2, h2⟩ := s_fX10_end μ x1 (P := fun τ _ => hm_I τ) hI.2 (fun _ _ h => h)
  exact ⟨o, o2, e1, e2, h1, h2⟩
theorem hp_kind : hz_I_kind hp_I := by
  intro n σ μ x1 x2 x3 hn hI
  obtain ⟨o, e1, h1⟩ := s_fX9_kind σ x1 x2 x3 (Q := fun o => hc_I o.1 ∧ (o.2.2 = 0 ∨ o.2.2 = 2 ∨ o.2.2 = 3)) hI.1 (fun _ _ _ h c => ⟨h, c⟩)
  obtain ⟨o2, e2, h2⟩ := s_fX10_kind μ x1 x2 x3 (P := fun τ _ => hm_I τ) hI.2 (fun _ _ h => h)
  exact ⟨o, o2, e1, e2, h1.2, h1.1, h2⟩
theorem hp_fire : hz_I_fire hp_I := by
  intro n σ μ x1 x2 x3 hn hI
  obtain ⟨o, e1, h1⟩ := s_fX9_fire σ x1 x2 x3 (Q := fun o => hc_I o.1 ∧ (o.2.2 = 0 ∨ o.2.2 = 1 ∨ o.2.2 = 2 ∨ o.2.2 = 3)) hI.1 (fun _ _ _ h c => ⟨h, c⟩)
  obtain ⟨o2, e2, h2⟩ := s_fX10_fire μ x1 x2 x3 (P := fun τ _ => hm_I τ) hI.2 (fun _ _ h => h)
  exact ⟨o, o2, e1, e2, h1.2, h1.1, h2⟩
theorem hp_fill : hz_I_fill hp_I := by
  intro n σ μ x1 x2 hn hI
  obtain ⟨o, e1, h1⟩ := s_fX9_fill σ x1 x2 (Q := fun o => hc_I o.1 ∧ (o.2.2 = 0 ∨ o.2.2 = 1 ∨ o.2.2 = 2)) hI.1 (fun _ _ _ h c => ⟨h, c⟩)
  obtain ⟨o2, e2, h2⟩ := s_fX10_fill μ x1 x2 (P := fun τ _ => hm_I τ) hI.2 (fun _ _ h => h)
  exact ⟨o, o2, e1, e2, h1.2, h1.1, h2⟩
theorem hp_ship : hz_I_ship hp_I := by
  intro n σ μ  hn hI
  obtain ⟨o, e1, h1⟩ := s_fX9_ship σ  (Q := fun o => hc_I o.1 ∧ (o.2.2 = 0 ∨ o.2.2 = 3)) hI.1 (fun _ _ _ h c => ⟨h, c⟩)
  obtain ⟨o2, e2, h2⟩ := s_fX10_ship μ  (P := fun τ _ => hm_I τ) hI.2 (fun _ _ h => h)
  exact ⟨o, o2, e1, e2, h1.2, h1.1, h2⟩
theorem hp_load : hz_I_load hp_I := by
  intro n σ μ x1 x2 x3 hn hI
  obtain ⟨o, e1, h1⟩ := s_fX9_load σ x1 x2 x3 (Q := fun o => hc_I o.1 ∧ (o.2.2 = 0 ∨ o.2.2 = 1)) hI.1 (fun _ _ _ h c => ⟨h, c⟩)
  obtain ⟨o2, e2, h2⟩ := s_fX10_load μ x1 x2 x3 (P := fun τ _ => hm_I τ) hI.2 (fun _ _ h => h)
  exact ⟨o, o2, e1, e2, h1.2, h1.1, h2⟩
theorem hp_land : hz_I_land hp_I := by
  intro n σ μ x1 x2 hn hI
  obtain ⟨o, e1, h1⟩ := s_fX9_land σ x1 x2 (Q := fun o => hc_I o.1 ∧ (o.2.2 = 0 ∨ o.2.2 = 1)) hI.1 (fun _ _ _ h c => ⟨h, c⟩)
  obtain ⟨o2, e2, h2⟩ := s_fX10_land μ x1 x2 (P := fun τ _ => hm_I τ) hI.2 (fun _ _ h => h)
  exact ⟨o, o2, e1, e2, h1.2, h1.1, h2⟩
theorem hp_storm : hz_I_storm hp_I := by
  intro n σ μ x1 x2 hn hI
  obtain ⟨o, e1, h1⟩ := s_fX9_storm σ x1 x2 (Q := fun o => hc_I o.1 ∧ (o.2.2 = 0 ∨ o.2.2 = 1 ∨ o.2.2 = 2)) hI.1 (fun _ _ _ h c => ⟨h, c⟩)
  obtain ⟨o2, e2, h2⟩ := s_fX10_storm μ x1 x2 (P := fun τ _ => hm_I τ) hI.2 (fun _ _ h => h)
  exact ⟨o, o2, e1, e2, h1.2, h1.1, h2⟩
theorem hp_look : hz_I_look hp_I := by
  intro n σ μ x1 x2 hn hI
  obtain ⟨o, e1, h1⟩ := s_fX9_look σ x1 x2 (Q := fun o => hc_I o.1 ∧ (o.2.2 = 0 ∨ o.2.2 = 1 ∨ o.2.2 = 4)) hI.1 (fun _ _ _ h c => ⟨h, c⟩)
  obtain ⟨o2, e2, h2⟩ := s_fX10_look μ x1 x2 (P := fun τ _ => hm_I τ) hI.2 (fun _ _ h => h)
  exact ⟨o, o2, e1, e2, h1.2, h1.1, h2⟩
theorem hp_stack : hz_I_stack hp_I := by
  intro n σ μ x1 x2 x3 hn hI
  obtain ⟨o, e1, h1⟩ := s_fX9_stack σ x1 x2 x3 (Q := fun o => hc_I o.1 ∧ (o.2.2 = 0 ∨ o.2.2 = 1)) hI.1 (fun _ _ _ h c => ⟨h, c⟩)
  obtain ⟨o2, e2, h2⟩ := s_fX10_stack μ x1 x2 x3 (P := fun τ _ => hm_I τ) hI.2 (fun _ _ h => h)
  exact ⟨o, o2, e1, e2, h1.2, h1.1, h2⟩
theorem hp_tallest : hz_I_tallest hp_I := by
  intro n σ μ x1 hn hI
  obtain ⟨o, e1, h1⟩ := s_fX9_tallest σ x1 (Q := fun o => hc_I o.1 ∧ (o.2.2 = 0 ∨ o.2.2 = 2)) hI.1 (fun _ _ _ h c => ⟨h, c⟩)
  obtain ⟨o2, e2, h2⟩ := s_fX10_tallest μ x1 (P := fun τ _ => hm_I τ) hI.2 (fun _ _ h => h)
  exact ⟨o, o2, e1, e2, h1.2, h1.1, h2⟩
theorem hp_rate : hz_I_rate hp_I := by
  intro n σ μ x1 x2 hn hI
  obtain ⟨o, e1, h1⟩ := s_fX9_rate σ x1 x2 (Q := fun o => hc_I o.1 ∧ (o.2.2 = 0 ∨ o.2.2 = 1 ∨ o.2.2 = 2)) hI.1 (fun _ _ _ h c => ⟨h, c⟩)
  obtain ⟨o2, e2, h2⟩ := s_fX10_rate μ x1 x2 (P := fun τ _ => hm_I τ) hI.2 (fun _ _ h => h)
  have pr := pu_rate e1 e2
  refine ⟨o, o2, (o2.1, o2.1.2 0), e1, e2, rfl, ?_, h1.1, h2⟩
  rcases pr.2 with h | h | h
  · exact Or.inl ⟨h, by show o2.1.2 0 = _; rw [pr.1, h]; rfl⟩
  · exact Or.inr (Or.inl ⟨h, by show o2.1.2 0 = _; rw [pr.1, h]; rfl⟩)
  · exact Or.inr (Or.inr (⟨h, by show o2.1.2 0 = _; rw [pr.1, h]; rfl⟩))
theorem hp_check : hz_I_check hp_I := by
  intro n σ μ x1 hn hI
  obtain ⟨o, e1, h1⟩ := s_fX9_check σ x1 (Q := fun o => hc_I o.1 ∧ (o.2.2 = 0 ∨ o.2.2 = 1 ∨ o.2.2 = 2)) hI.1 (fun _ _ _ h c => ⟨h, c⟩)
  obtain ⟨o2, e2, h2⟩ := s_fX10_check μ x1 (P := fun τ _ => hm_I τ) hI.2 (fun _ _ h => h)
  exact ⟨o, o2, e1, e2, h1.2, h1.1, h2⟩
theorem hp_fault : hz_I_fault hp_I := by
  intro n σ μ  hn hI
  obtain ⟨o, e1, h1⟩ := s_fX9_fault σ  (P := fun τ _ => hc_I τ) hI.1 (fun _ _ h => h)
  obtain ⟨o2, e2, h2⟩ := s_fX10_fault μ  (P := fun τ _ => hm_I τ) hI.2 (fun _ _ h => h)
  exact ⟨o, o2, e1, e2, h1, h2⟩
theorem hp_notes : hz_I_notes hp_I := by
  intro n σ μ x1 x2 hn hI
  obtain ⟨o, e1, h1⟩ := s_fX9_notes σ x1 (if x2 = 0 then 0 else 1) (Q := fun o => hc_I o.1 ∧ (o.2.2 = 0 ∨ o.2.2 = 1)) hI.1 (fun _ _ _ h c => ⟨h, c⟩)
  obtain ⟨o2, e2, h2⟩ := s_fX10_notes μ x1 (if x2 = 0 then 0 else 1) (P := fun τ _ => hm_I τ) hI.2 (fun _ _ h => h)
  exact ⟨o, o2, e1, e2, h1.2, h1.1, h2⟩
theorem hp_sherd : hz_I_sherd hp_I := by
  intro n σ μ x1 x2 hn hI
  obtain ⟨o, e1, h1⟩ := s_fX9_sherd σ x1 x2 (Q := fun o => hc_I o.1 ∧ (o.2.2 = 0 ∨ o.2.2 = 1 ∨ o.2.2 = 2 ∨ o.2.2 = 3)) hI.1 (fun _ _ _ h c => ⟨h, c⟩)
  obtain ⟨o2, e2, h2⟩ := s_fX10_sherd μ x1 x2 (P := fun τ _ => hm_I τ) hI.2 (fun _ _ h => h)
  exact ⟨o, o2, e1, e2, h1.2, h1.1, h2⟩
theorem hp_join : hz_I_join hp_I := by
  intro n σ μ x1 x2 hn hI
  obtain ⟨o, e1, h1⟩ := s_fX9_join σ x1 x2 (Q := fun o => hc_I o.1 ∧ (o.2.2 = 0 ∨ o.2.2 = 1)) hI.1 (fun _ _ _ h c => ⟨h, c⟩)
  obtain ⟨o2, e2, h2⟩ := s_fX10_join μ x1 x2 (P := fun τ _ => hm_I τ) hI.2 (fun _ _ h => h)
  exact ⟨o, o2, e1, e2, h1.2, h1.1, h2⟩
theorem hp_vessels : hz_I_vessels hp_I := by
  intro n σ μ x1 hn hI
  obtain ⟨o, e1, h1⟩ := s_fX9_vessels σ x1 (Q := fun o => hc_I o.1 ∧ (o.2.2 = 0 ∨ o.2.2 = 1)) hI.1 (fun _ _ _ h c => ⟨h, c⟩)
  obtain ⟨o2, e2, h2⟩ := s_fX10_vessels μ x1 (P := fun τ _ => hm_I τ) hI.2 (fun _ _ h => h)
  exact ⟨o, o2, e1, e2, h1.2, h1.1, h2⟩
theorem hp_vessel : hz_I_vessel hp_I := by
  intro n σ μ x1 x2 hn hI
  obtain ⟨o, e1, h1⟩ := s_fX9_vessel σ x1 x2 (Q := fun o => hc_I o.1 ∧ (o.2.2 = 0 ∨ o.2.2 = 1 ∨ o.2.2 = 4)) hI.1 (fun _ _ _ h c => ⟨h, c⟩)
  obtain ⟨o2, e2, h2⟩ := s_fX10_vessel μ x1 x2 (P := fun τ _ => hm_I τ) hI.2 (fun _ _ h => h)
  exact ⟨o, o2, e1, e2, h1.2, h1.1, h2⟩
theorem hp_tell : hz_I_tell hp_I := by
  intro n σ μ x1 x2 x3 hn hI
  obtain ⟨o, e1, h1⟩ := s_fX9_tell σ x1 x2 x3 (Q := fun o => hc_I o.1 ∧ (o.2.2 = 0 ∨ o.2.2 = 1 ∨ o.2.2 = 2 ∨ o.2.2 = 3)) hI.1 (fun _ _ _ h c => ⟨h, c⟩)
  obtain ⟨o2, e2, h2⟩ := s_fX10_tell μ x1 x2 x3 (P := fun τ _ => hm_I τ) hI.2 (fun _ _ h => h)
  exact ⟨o, o2, e1, e2, h1.2, h1.1, h2⟩
theorem hp_bound : hz_I_bound hp_I := by
  intro n σ μ x1 x2 x3 hn hI
  obtain ⟨o, e1, h1⟩ := s_fX9_bound σ x1 x2 (if x3 = 0 then 0 else 1) (Q := fun o => hc_I o.1 ∧ (o.2.2 = 0 ∨ o.2.2 = 1 ∨ o.2.2 = 2 ∨ o.2.2 = 3)) hI.1 (fun _ _ _ h c => ⟨h, c⟩)
  obtain ⟨o2, e2, h2⟩ := s_fX10_bound μ x1 x2 (if x3 = 0 then 0 else 1) (P := fun τ _ => hm_I τ) hI.2 (fun _ _ h => h)
  exact ⟨o, o2, e1, e2, h1.2, h1.1, h2⟩
theorem hp_undo : hz_I_undo hp_I := by
  intro n σ μ x1 hn hI
  obtain ⟨o, e1, h1⟩ := s_fX9_undo σ x1 (Q := fun o => hc_I o.1 ∧ (o.2.2 = 0 ∨ o.2.2 = 1)) hI.1 (fun _ _ _ h c => ⟨h, c⟩)
  obtain ⟨o2, e2, h2⟩ := s_fX10_undo μ x1 (P := fun τ _ => hm_I τ) hI.2 (fun _ _ h => h)
  exact ⟨o, o2, e1, e2, h1.2, h1.1, h2⟩
theorem hp_days : hz_I_days hp_I := by
  intro n σ μ x1 hn hI
  obtain ⟨o, e1, h1⟩ := s_fX9_days σ x1 (Q := fun o => hc_I o.1 ∧ (o.2.2 = 0 ∨ o.2.2 = 2)) hI.1 (fun _ _ _ h c => ⟨h, c⟩)
  obtain ⟨o2, e2, h2⟩ := s_fX10_days μ x1 (P := fun τ _ => hm_I τ) hI.2 (fun _ _ h => h)
  exact ⟨o, o2, e1, e2, h1.2, h1.1, h2⟩
theorem hp_agree : hz_I_agree hp_I := by
  intro n σ μ x1 hn hI
  obtain ⟨o, e1, h1⟩ := s_fX9_agree σ x1 (P := fun τ _ => hc_I τ) hI.1 (fun _ _ h => h)
  obtain ⟨o2, e2, h2⟩ := s_fX10_agree μ x1 (P := fun τ _ => hm_I τ) hI.2 (fun _ _ h => h)
  exact ⟨o, o2, e1, e2, h1, h2⟩
theorem hp_span : hz_I_span hp_I := by
  intro n σ μ x1 x2 x3 hn hI
  obtain ⟨o, e1, h1⟩ := s_fX9_span σ x1 (if x2 = 0 then 0 else 1) x3 (Q := fun o => hc_I o.1 ∧ (o.2.2 = 0 ∨ o.2.2 = 1 ∨ o.2.2 = 4)) hI.1 (fun _ _ _ h c => ⟨h, c⟩)
  obtain ⟨o2, e2, h2⟩ := s_fX10_span μ x1 (if x2 = 0 then 0 else 1) x3 (P := fun τ _ => hm_I τ) hI.2 (fun _ _ h => h)
  exact ⟨o, o2, e1, e2, h1.2, h1.1, h2⟩
theorem hp_quarrel : hz_I_quarrel hp_I := by
  intro n σ μ x1 hn hI
  obtain ⟨o, e1, h1⟩ := s_fX9_quarrel σ x1 (P := fun τ _ => hc_I τ) hI.1 (fun _ _ h => h)
  obtain ⟨o2, e2, h2⟩ := s_fX10_quarrel μ x1 (P := fun τ _ => hm_I τ) hI.2 (fun _ _ h => h)
  exact ⟨o, o2, e1, e2, h1, h2⟩
theorem hp_count : hz_I_count hp_I := by
  intro n σ μ x1 hn hI
  obtain ⟨o, e1, h1⟩ := s_fX9_count σ x1 (P := fun τ _ => hc_I τ) hI.1 (fun _ _ h => h)
  obtain ⟨o2, e2, h2⟩ := s_fX10_count μ x1 (P := fun τ _ => hm_I τ) hI.2 (fun _ _ h => h)
  exact ⟨o, o2, e1, e2, h1, h2⟩
theorem hp_all : hz_all hp_I := ⟨hp_0, fun _ _ _ _ h => h, hp_feed, hp_end, hp_kind, hp_fire, hp_fill, hp_ship, hp_load, hp_land, hp_storm, hp_look, hp_stack, hp_tallest, hp_rate, hp_check, hp_fault, hp_notes, hp_sherd, hp_join, hp_vessels, hp_vessel, hp_tell, hp_bound, hp_undo, hp_days, hp_agree, hp_span, hp_quarrel, hp_count⟩
