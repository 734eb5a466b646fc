theorem hz_mid {a b d : va_W} {G : hy_G} {A : Nat → Prop} {s : State} {H : Heap} {locs : List Loc} (h : hy_wx (a ++ b ++ d) G A s H locs) : hy_wx (a ++ d ++ b) G A s H locs := by
  have hPa := hy_Pl (hy_Pl h.1)
  have hPb := hy_Pr (hy_Pl h.1)
  have hPd := hy_Pr h.1
  have hDab := hy_Dl h.2.1
  have x1 := hy_Dx hDab
  have x2 := hy_Dx h.2.1
  have up : ∀ (k : Nat) (q : Nat × va_E), a[k]? = some q → (a ++ b)[k]? = some q := fun k q hk => by rw [List.getElem?_append_left (List.getElem?_eq_some_iff.mp hk).1]; exact hk
  have ub : ∀ (k : Nat) (q : Nat × va_E), b[k]? = some q → (a ++ b)[a.length + k]? = some q := fun k q hk => by rw [List.getElem?_append_right (Nat.le_add_right _ _), Nat.add_sub_cancel_left]; exact hk
  refine ⟨va_P.app (va_P.app hPa hPd) hPb, va_D.app (va_D.app (hy_Dl hDab) (hy_Dr h.2.1) (fun i j p q hi hj => x2 i j p q (up i p hi) hj)) (hy_Dr hDab) (fun i j p q hi hj e => ?_), h.2.2⟩
  by_cases hl : i < a.length
  · rw [List.getElem?_append_left hl] at hi
    exact x1 i j p q hi hj e
  · rw [List.getElem?_append_right (by omega)] at hi
    exact x2 _ _ q p (ub j q hj) hi e.symm
noncomputable def hz_r : Nat → Int32 := upd (upd (upd (upd (upd (upd (upd (upd (fun _ => 0) (Int32.toNatClampNeg 0) 10) (Int32.toNatClampNeg 1) 10) (Int32.toNatClampNeg 2) 10) (Int32.toNatClampNeg 3) 10) (Int32.toNatClampNeg 4) 10) (Int32.toNatClampNeg 5) 10) (Int32.toNatClampNeg 6) 10) (Int32.toNatClampNeg 7) 10
noncomputable def hz_a (k9 : Nat) : Nat → Nat → Int32 := fun k => match decide (k = k9) with
  | true => hz_r
  | false => fun _ => 0
noncomputable def hz_i (k9 : Nat) : Nat → Int32 := fun k => match decide (k = k9) with
  | true => -1
  | false => 0
/-- the fresh yard, the fresh reference -/
noncomputable def hz_σ : hy_S := (hz_a 15, hz_i 0)
noncomputable def hz_μ : hy_S := (hz_a 14, hz_i 8)
noncomputable def hz_all (I : Nat → hy_S → hy_S → Prop) : Prop := I 0 hz_σ hz_μ ∧ (∀ (n : Nat) (σ μ : hy_S), n < 512 → I n σ μ → I (n + 1) σ μ) ∧ hz_I_feed I ∧ hz_I_end I ∧ hz_I_kind I ∧ hz_I_fire I ∧ hz_I_fill I ∧ hz_I_ship I ∧ hz_I_load I ∧ hz_I_land I ∧ hz_I_storm I ∧ hz_I_look I ∧ hz_I_stack I ∧ hz_I_tallest I ∧ hz_I_rate I ∧ hz_I_check I ∧ hz_I_fault I ∧ hz_I_notes I ∧ hz_I_sherd I ∧ hz_I_join I ∧ hz_I_vessels I ∧ hz_I_vessel I ∧ hz_I_tell I ∧ hz_I_bound I ∧ hz_I_undo I ∧ hz_I_days I ∧ hz_I_agree I ∧ hz_I_span I ∧ hz_I_quarrel I ∧ hz_I_count I
set_option maxHeartbeats 4000000 in
set_option maxRecDepth 100000 in
theorem hz_start {p : Program} {e : Env} {s : State} {m : MethodId} {below : List Frame} {meth : Method} {c : Code} (l : Launch) (hlt : l.stackTraces = false) {b L : Nat} {xs : Nat → Int32} (hL : L ≤ 3072) (C0 : lw_At p s m meth c b L xs) {I : Nat → hy_S → hy_S → Prop} (hI : hz_all I) : W p l e room_1 s m #[Value.ref b] below meth c s.heap [] 0 0 (lw_Z below #[Value.ref b] s) (entryFrame m ([Value.ref b] : List Value).toArray 7) := by
  obtain ⟨hx, hb, hr, hml, hown, hts, hX, hbl, hlocks, hgv⟩ := C0
  have hA : ∀ q : Nat, s.heap.size ≤ q → (fun q : Nat => s.heap.size ≤ q) q := fun _ h => h
  obtain ⟨D, cA, hK⟩ := hz_K hts
  obtain ⟨K, V, hE⟩ := hz_env hts hgv
  have hS : va_S (fun q : Nat => s.heap.size ≤ q) s.heap s.heap [] := va_S.rf
  have hP : va_P D vwCl [] s.heap := fun k q h => by simp at h
  have hD : va_D (fun q : Nat => s.heap.size ≤ q) [] := ⟨fun i j p q h => by simp at h, fun k q h => by simp at h⟩
  have hl := lv_entry ([.ref b]) (n := 7) (Nat.le_of_ble_eq_true rfl)
  rw [lg_entry_eq]
  generalize (lg_sl ([.ref b]) ++ List.replicate (7 - (lg_sl ([.ref b])).length) Slot.unset).toArray = ls at hl ⊢
  have hl : lv_has ls 7 [(0, .ref b)] := hl
  refine va_new (ci := 9) (fs := [.null, .null, .null, .null, .null, .null, .null, .null, .null, .int 0, .int 0]) (C := RX9) (T := TX9) (N := 11) hx hb hts inX9 tyX9 tyX9_ok hown (hts (.classLink RL 8 RX9) (lx_t1 _ (xt16 (xt4 (xt4 (xt1 (xt1 (xh)))))))) (hts (.instantiable RX9 11) (lx_t1 _ (xt16 (xt4 (xt4 (xt1 (xt1 (xt1 (xh))))))))) (hts (.initialized RX9) (lx_t1 _ (xt1 (xh)))) hK hP hD hS hA rfl (fun j hj => by rcases (show j = 0 ∨ j = 1 ∨ j = 2 ∨ j = 3 ∨ j = 4 ∨ j = 5 ∨ j = 6 ∨ j = 7 ∨ j = 8 ∨ j = 9 ∨ j = 10 by omega) with rfl | rfl | rfl | rfl | rfl | rfl | rfl | rfl | rfl | rfl | rfl <;> rfl) (Nat.le_of_ble_eq_true rfl) (Nat.le_of_ble_eq_true rfl) dL_law_0 (fun h0 H hP hD hS => ?_)
  have hP : va_P D vwCl [(h0, .inr (9, [.null, .null, .null, .null, .null, .null, .null, .null, .null, .int 0, .int 0]))] H := hP
  have hD : va_D (fun q : Nat => s.heap.size ≤ q) [(h0, .inr (9, [.null, .null, .null, .null, .null, .null, .null, .null, .null, .int 0, .int 0]))] := hD
  refine W.widen (k := 1) (n := 11) (Nat.le_of_ble_eq_true rfl) (Nat.le_of_ble_eq_true rfl) ?_
  refine lv_dup hx hb dL_law_3 rfl ?_
  have hPc := hP.sub (ws' := [(h0, .inr (9, [.null, .null, .null, .null, .null, .null, .null, .null, .null, .int 0, .int 0]))]) [0] rfl
  have hDc := hD.sub (ws' := [(h0, .inr (9, [.null, .null, .null, .null, .null, .null, .null, .null, .null, .int 0, .int 0]))]) [0] (by decide) rfl
  have hFc := va_free (wc := [(h0, .inr (9, [.null, .null, .null, .null, .null, .null, .null, .null, .null, .int 0, .int 0]))]) hD hS hA [0] rfl
  refine va_callv (va_runI (As := []) (rest := [.ref h0]) ⟨hx, hb, hml, hown, fun w h => hts w (wsL_law_in w h)⟩ (iX9 l D cA h0 H.size) (cwI 0 (fun w h => hts w (wsL_law_in w h)) gL_law_X9_init rfl rfl rfl (hts (.initialized RX9) (lx_t1 _ (xt1 (xh)))) (hts (.methodLink RL 94 yX9_init) (by decide +kernel)) (hts (.instanceMethod yX9_init) (by decide +kernel)) rfl (by decide +kernel) ⟨Nat.le_of_ble_eq_true rfl, Nat.le_of_ble_eq_true rfl⟩) ⟨fun a U g mk q => by obtain ⟨q0, q1, qP, qK, qD⟩ := q; exact ⟨q0, q1, qP, va_K.moved (u := U) (U := U.calling g mk a) (Vm.Alike.refl U.vm) qK, qD⟩, fun U hU hW => ⟨rfl, by rw [hU], by rw [hU]; exact hPc, va_K.moved hW.alike hK, hDc.weaken (fun _ _ _ _ => trivial)⟩⟩ rfl rfl hl.1 rfl (lv_room (Nat.le_of_ble_eq_true rfl)) dL_law_4 ⟨Nat.le_of_ble_eq_true rfl, Nat.le_of_ble_eq_true rfl⟩) hS (fun q _ h => hFc q h) hFc (fun u t H1 locs ht hvm hw hB hz1 hk1 hS => ?_)
  obtain ⟨q0, q1, q2, q3, q4, q5, q6, q7, q8, q9, q10, q11, q12, q13, q14, q15, q16, q17, q18, q19, q20, q21, q22, q23, q24, q25, q26, q27, q28, q29, q30, q31, q32, q33, q34, q35, q36, q37, q38, hP1, hD1⟩ := hB
  rw [ht] at hP1
  obtain ⟨hP, hD⟩ := va_join (wr := []) (w1 := [(h0, .inr (9, [.ref q0, .ref q2, .ref q4, .ref q8, .ref q15, .ref q18, .ref q21, .ref q25, .ref q30, .int (-1), .int 0])), (q0, .inr (7, [.ref q1, .int 0])), (q1, .inl (cA 1, 400, .inl (fun _ => 0))), (q2, .inr (3, [.ref q3])), (q3, .inl (cA 0, 5, .inl (fun _ => 0))), (q4, .inr (2, [.ref q5, .ref q6, .ref q7, .int 0])), (q5, .inl (cA 0, 8, .inl (fun _ => 0))), (q6, .inl (cA 0, 8, .inl (fun _ => 0))), (q7, .inl (cA 0, 8, .inl (fun _ => 0))), (q8, .inr (1, [.ref q4, .ref q9, .ref q10, .ref q11, .ref q12, .ref q13, .ref q14, .int 0])), (q9, .inl (cA 0, 60, .inl (fun _ => 0))), (q10, .inl (cA 0, 60, .inl (fun _ => 0))), (q11, .inl (cA 0, 60, .inl (fun _ => 0))), (q12, .inl (cA 0, 60, .inl (fun _ => 0))), (q13, .inl (cA 0, 60, .inl (fun _ => 0))), (q14, .inl (cA 0, 60, .inl (fun _ => 0))), (q15, .inr (0, [.ref q8, .ref q16, .ref q17, .int 0])), (q16, .inl (cA 0, 240, .inl (fun _ => 0))), (q17, .inl (cA 0, 24, .inl (fun _ => 0))), (q18, .inr (6, [.ref q8, .ref q19, .ref q20, .int 0])), (q19, .inl (cA 0, 20, .inl (fun _ => 0))), (q20, .inl (cA 0, 21, .inl (fun _ => 0))), (q21, .inr (4, [.ref q22, .ref q23, .ref q24])), (q22, .inl (cA 0, 8, .inl (upd (upd (upd (upd (upd (upd (upd (upd (fun _ => 0) (Int32.toNatClampNeg 0) 10) (Int32.toNatClampNeg 1) 10) (Int32.toNatClampNeg 2) 10) (Int32.toNatClampNeg 3) 10) (Int32.toNatClampNeg 4) 10) (Int32.toNatClampNeg 5) 10) (Int32.toNatClampNeg 6) 10) (Int32.toNatClampNeg 7) 10))), (q23, .inl (cA 0, 8, .inl (fun _ => 0))), (q24, .inl (cA 0, 8, .inl (fun _ => 0))), (q25, .inr (5, [.ref q26, .ref q27, .ref q28, .ref q29, .int 0])), (q26, .inl (cA 0, 60, .inl (fun _ => 0))), (q27, .inl (cA 0, 60, .inl (fun _ => 0))), (q28, .inl (cA 0, 60, .inl (fun _ => 0))), (q29, .inl (cA 0, 60, .inl (fun _ => 0))), (q30, .inr (8, [.ref q31, .ref q32, .ref q33, .ref q34, .ref q35, .ref q36, .ref q37, .ref q38, .int 0, .int 0])), (q31, .inl (cA 0, 60, .inl (fun _ => 0))), (q32, .inl (cA 0, 60, .inl (fun _ => 0))), (q33, .inl (cA 0, 60, .inl (fun _ => 0))), (q34, .inl (cA 0, 60, .inl (fun _ => 0))), (q35, .inl (cA 0, 60, .inl (fun _ => 0))), (q36, .inl (cA 0, 60, .inl (fun _ => 0))), (q37, .inl (cA 0, 13, .inl (fun _ => 0))), (q38, .inl (cA 0, 13, .inl (fun _ => 0)))]) hP hD [0] [] rfl rfl (by decide) (by decide) hk1 hFc hP1 hD1
  generalize H1 = H at hP hS ⊢
  obtain ⟨X, hX9⟩ : ∃ X : Nat → Nat, X = fun k => [h0, q0, q2, q4, q8, q15, q18, q21, q25, q30, q1, q3, q5, q6, q7, q9, q10, q11, q12, q13, q14, q16, q17, q19, q20, q22, q23, q24, q26, q27, q28, q29, q31, q32, q33, q34, q35, q36, q37, q38].getD k 0 := ⟨_, rfl⟩
  have h00 : X 0 = h0 := by rw [hX9]; rfl
  have hP : va_P D vwCl (cw (D, cA, s.heap.size, X, X, K, V) hz_σ) H := by
    rw [hX9]
    exact hP.sub [0, 1, 3, 5, 9, 16, 19, 22, 26, 31, 2, 4, 6, 7, 8, 10, 11, 12, 13, 14, 15, 17, 18, 20, 21, 23, 24, 25, 27, 28, 29, 30, 32, 33, 34, 35, 36, 37, 38, 39] rfl
  have hD : va_D (fun q : Nat => s.heap.size ≤ q) (cw (D, cA, s.heap.size, X, X, K, V) hz_σ) := by
    rw [hX9]
    exact hD.sub [0, 1, 3, 5, 9, 16, 19, 22, 26, 31, 2, 4, 6, 7, 8, 10, 11, 12, 13, 14, 15, 17, 18, 20, 21, 23, 24, 25, 27, 28, 29, 30, 32, 33, 34, 35, 36, 37, 38, 39] (by decide) rfl
  clear hX9 hP1 hD1 hPc hDc hFc hk1
  rw [← h00]
  refine W.widen (k := 40) (n := 1796) (Nat.le_of_ble_eq_true rfl) (Nat.le_of_ble_eq_true rfl) ?_
  refine lv_astore_n (lv' := [(1, .ref (X 0)), (0, .ref b)]) hx hb dL_law_7 rfl hl (by decide) rfl (fun ls hl => ?_)
  refine va_new (ci := 10) (fs := [.int 0, .null, .null, .null, .int 0, .null, .null, .null, .null, .null, .null, .int 0, .null, .null, .int 0, .null, .null, .null, .null, .null, .null, .null, .int 0, .int 0, .int 0, .int 0, .int 0, .null, .null, .null, .null, .null, .int 0, .null, .null, .null, .null, .null, .int 0, .int 0, .null, .null, .null]) (C := RX10) (T := TX10) (N := 43) hx hb hts inX10 tyX10 tyX10_ok hown (hts (.classLink RL 95 RX10) (lx_t4 _ (xt16 (xt16 (xt16 (xt16 (xt16 (xt16 (xt16 (xt16 (xt16 (xt16 (xt4 (xt1 (xt1 (xh)))))))))))))))) (hts (.instantiable RX10 43) (lx_t4 _ (xt16 (xt16 (xt16 (xt16 (xt16 (xt16 (xt16 (xt16 (xt16 (xt16 (xt4 (xt1 (xt1 (xt1 (xh))))))))))))))))) (hts (.initialized RX10) (lx_t1 _ (xt4 (xt4 (xt1 (xt1 (xt1 (xh)))))))) hK hP hD hS hA rfl (fun j hj => by rcases (show j = 0 ∨ j = 1 ∨ j = 2 ∨ j = 3 ∨ j = 4 ∨ j = 5 ∨ j = 6 ∨ j = 7 ∨ j = 8 ∨ j = 9 ∨ j = 10 ∨ j = 11 ∨ j = 12 ∨ j = 13 ∨ j = 14 ∨ j = 15 ∨ j = 16 ∨ j = 17 ∨ j = 18 ∨ j = 19 ∨ j = 20 ∨ j = 21 ∨ j = 22 ∨ j = 23 ∨ j = 24 ∨ j = 25 ∨ j = 26 ∨ j = 27 ∨ j = 28 ∨ j = 29 ∨ j = 30 ∨ j = 31 ∨ j = 32 ∨ j = 33 ∨ j = 34 ∨ j = 35 ∨ j = 36 ∨ j = 37 ∨ j = 38 ∨ j = 39 ∨ j = 40 ∨ j = 41 ∨ j = 42 by omega) with rfl | rfl | rfl | rfl | rfl | rfl | rfl | rfl | rfl | rfl | rfl | rfl | rfl | rfl | rfl | rfl | rfl | rfl | rfl | rfl | rfl | rfl | rfl | rfl | rfl | rfl | rfl | rfl | rfl | rfl | rfl | rfl | rfl | rfl | rfl | rfl | rfl | rfl | rfl | rfl | rfl | rfl | rfl <;> rfl) (Nat.le_of_ble_eq_true rfl) (Nat.le_of_ble_eq_true rfl) dL_law_8 (fun g0 H hP hD hS => ?_)
  refine W.widen (k := 41) (n := 1839) (Nat.le_of_ble_eq_true rfl) (Nat.le_of_ble_eq_true rfl) ?_
  refine lv_dup hx hb dL_law_11 rfl ?_
  have hPc := hy_Pr hP
  have hDc := hy_Dr hD
  have hFc : ∀ q, va_A [(g0, .inr (10, [.int 0, .null, .null, .null, .int 0, .null, .null, .null, .null, .null, .null, .int 0, .null, .null, .int 0, .null, .null, .null, .null, .null, .null, .null, .int 0, .int 0, .int 0, .int 0, .int 0, .null, .null, .null, .null, .null, .int 0, .null, .null, .null, .null, .null, .int 0, .int 0, .null, .null, .null]))] H.size q → s.heap.size ≤ q := fun q h => by
    rcases h with ⟨k, e, h⟩ | h
    · exact hDc.2 k (q, e) h
    · exact Nat.le_trans hS.1 h
  refine va_callv (va_runI (As := []) (rest := [.ref g0]) ⟨hx, hb, hml, hown, fun w h => hts w (wsL_law_in w h)⟩ (iX10 l D cA g0 H.size) (cwI 0 (fun w h => hts w (wsL_law_in w h)) gL_law_X10_init rfl rfl rfl (hts (.initialized RX10) (lx_t1 _ (xt4 (xt4 (xt1 (xt1 (xt1 (xh)))))))) (hts (.methodLink RL 97 yX10_init) (by decide +kernel)) (hts (.instanceMethod yX10_init) (by decide +kernel)) rfl (by decide +kernel) ⟨Nat.le_of_ble_eq_true rfl, Nat.le_of_ble_eq_true rfl⟩) ⟨fun a U g mk q => by obtain ⟨q0, q1, qP, qK, qD⟩ := q; exact ⟨q0, q1, qP, va_K.moved (u := U) (U := U.calling g mk a) (Vm.Alike.refl U.vm) qK, qD⟩, fun U hU hW => ⟨rfl, by rw [hU], by rw [hU]; exact hPc, va_K.moved hW.alike hK, hDc.weaken (fun _ _ _ _ => trivial)⟩⟩ rfl rfl hl.1 rfl (lv_room (Nat.le_of_ble_eq_true rfl)) dL_law_12 ⟨Nat.le_of_ble_eq_true rfl, Nat.le_of_ble_eq_true rfl⟩) hS (fun q _ h => hFc q h) hFc (fun u t H1 locs ht hvm hw hB hz1 hk1 hS => ?_)
  obtain ⟨r0, r1, r2, r3, r4, r5, r6, r7, r8, r9, r10, r11, r12, r13, r14, r15, r16, r17, r18, r19, r20, r21, r22, r23, r24, r25, r26, r27, r28, r29, r30, hP1, hD1⟩ := hB
  rw [ht] at hP1
  have hP2 : va_P D vwCl (cw (D, cA, s.heap.size, X, X, K, V) hz_σ) H1 := fun k q hq => by
    have hat := hy_Pl hP k q hq
    refine hat.kept (hk1 q.1 hat.lt (fun z => ?_))
    rcases z with ⟨j, e9, hj⟩ | hz
    · exact hy_Dx hD k j q (q.1, e9) hq hj rfl
    · exact absurd hat.lt (Nat.not_lt.mpr hz)
  have hlt2 : ∀ (k : Nat) (q : Nat × va_E), (cw (D, cA, s.heap.size, X, X, K, V) hz_σ)[k]? = some q → q.1 < H.size := fun k q hq => (hy_Pl hP k q hq).lt
  have hDw : ∀ (i j : Nat) (p q : Nat × va_E), (cw (D, cA, s.heap.size, X, X, K, V) hz_σ)[i]? = some p → ([(g0, .inr (10, [.int 0, .ref r0, .ref r1, .ref r2, .int 0, .ref r3, .ref r4, .ref r5, .ref r6, .ref r7, .ref r8, .int 0, .ref r9, .ref r10, .int 0, .ref r11, .ref r12, .ref r13, .ref r14, .ref r15, .ref r16, .ref r17, .int 0, .int 0, .int 0, .int 0, .int (-1), .ref r18, .ref r19, .ref r20, .ref r21, .ref r22, .int 0, .ref r23, .ref r24, .ref r25, .ref r26, .ref r27, .int 0, .int 0, .ref r28, .ref r29, .ref r30])), (r0, .inl (cA 0, 8, .inl (fun _ => 0))), (r1, .inl (cA 0, 8, .inl (fun _ => 0))), (r2, .inl (cA 0, 8, .inl (fun _ => 0))), (r3, .inl (cA 0, 60, .inl (fun _ => 0))), (r4, .inl (cA 0, 60, .inl (fun _ => 0))), (r5, .inl (cA 0, 60, .inl (fun _ => 0))), (r6, .inl (cA 0, 60, .inl (fun _ => 0))), (r7, .inl (cA 0, 60, .inl (fun _ => 0))), (r8, .inl (cA 0, 60, .inl (fun _ => 0))), (r9, .inl (cA 0, 240, .inl (fun _ => 0))), (r10, .inl (cA 0, 24, .inl (fun _ => 0))), (r11, .inl (cA 2, 10, .inl (fun _ => 0))), (r12, .inl (cA 2, 4096, .inl (fun _ => 0))), (r13, .inl (cA 0, 12, .inl (fun _ => 0))), (r14, .inl (cA 0, 8, .inl (upd (upd (upd (upd (upd (upd (upd (upd (fun _ => 0) (Int32.toNatClampNeg 0) 10) (Int32.toNatClampNeg 1) 10) (Int32.toNatClampNeg 2) 10) (Int32.toNatClampNeg 3) 10) (Int32.toNatClampNeg 4) 10) (Int32.toNatClampNeg 5) 10) (Int32.toNatClampNeg 6) 10) (Int32.toNatClampNeg 7) 10))), (r15, .inl (cA 0, 8, .inl (fun _ => 0))), (r16, .inl (cA 0, 8, .inl (fun _ => 0))), (r17, .inl (cA 1, 400, .inl (fun _ => 0))), (r18, .inl (cA 0, 5, .inl (fun _ => 0))), (r19, .inl (cA 0, 5, .inl (fun _ => 0))), (r20, .inl (cA 0, 60, .inl (fun _ => 0))), (r21, .inl (cA 0, 60, .inl (fun _ => 0))), (r22, .inl (cA 0, 60, .inl (fun _ => 0))), (r23, .inl (cA 0, 60, .inl (fun _ => 0))), (r24, .inl (cA 0, 60, .inl (fun _ => 0))), (r25, .inl (cA 0, 60, .inl (fun _ => 0))), (r26, .inl (cA 0, 60, .inl (fun _ => 0))), (r27, .inl (cA 0, 60, .inl (fun _ => 0))), (r28, .inl (cA 0, 169, .inl (fun _ => 0))), (r29, .inl (cA 0, 169, .inl (fun _ => 0))), (r30, .inl (cA 0, 169, .inl (fun _ => 0)))] : va_W)[j]? = some q → p.1 ≠ q.1 := fun i j p q hi hj e9 => by
    rcases hD1.2 j q hj with ⟨j2, e2, h2⟩ | h2
    · exact hy_Dx hD i j2 p (q.1, e2) hi h2 e9
    · exact absurd (hlt2 i p hi) (Nat.not_lt.mpr (by rw [e9]; exact h2))
  have hD2 := hD1.weaken (fun k q hk hq => hFc q.1 hq)
  obtain ⟨M, hM9⟩ : ∃ M : Nat → Nat, M = fun k => [g0, r0, r1, r2, r3, r4, r5, r6, r7, r8, r9, r10, r11, r12, r13, r14, r15, r16, r17, r18, r19, r20, r21, r22, r23, r24, r25, r26, r27, r28, r29, r30].getD k 0 := ⟨_, rfl⟩
  have h10 : M 0 = g0 := by rw [hM9]; rfl
  have ew : ([(g0, .inr (10, [.int 0, .ref r0, .ref r1, .ref r2, .int 0, .ref r3, .ref r4, .ref r5, .ref r6, .ref r7, .ref r8, .int 0, .ref r9, .ref r10, .int 0, .ref r11, .ref r12, .ref r13, .ref r14, .ref r15, .ref r16, .ref r17, .int 0, .int 0, .int 0, .int 0, .int (-1), .ref r18, .ref r19, .ref r20, .ref r21, .ref r22, .int 0, .ref r23, .ref r24, .ref r25, .ref r26, .ref r27, .int 0, .int 0, .ref r28, .ref r29, .ref r30])), (r0, .inl (cA 0, 8, .inl (fun _ => 0))), (r1, .inl (cA 0, 8, .inl (fun _ => 0))), (r2, .inl (cA 0, 8, .inl (fun _ => 0))), (r3, .inl (cA 0, 60, .inl (fun _ => 0))), (r4, .inl (cA 0, 60, .inl (fun _ => 0))), (r5, .inl (cA 0, 60, .inl (fun _ => 0))), (r6, .inl (cA 0, 60, .inl (fun _ => 0))), (r7, .inl (cA 0, 60, .inl (fun _ => 0))), (r8, .inl (cA 0, 60, .inl (fun _ => 0))), (r9, .inl (cA 0, 240, .inl (fun _ => 0))), (r10, .inl (cA 0, 24, .inl (fun _ => 0))), (r11, .inl (cA 2, 10, .inl (fun _ => 0))), (r12, .inl (cA 2, 4096, .inl (fun _ => 0))), (r13, .inl (cA 0, 12, .inl (fun _ => 0))), (r14, .inl (cA 0, 8, .inl (upd (upd (upd (upd (upd (upd (upd (upd (fun _ => 0) (Int32.toNatClampNeg 0) 10) (Int32.toNatClampNeg 1) 10) (Int32.toNatClampNeg 2) 10) (Int32.toNatClampNeg 3) 10) (Int32.toNatClampNeg 4) 10) (Int32.toNatClampNeg 5) 10) (Int32.toNatClampNeg 6) 10) (Int32.toNatClampNeg 7) 10))), (r15, .inl (cA 0, 8, .inl (fun _ => 0))), (r16, .inl (cA 0, 8, .inl (fun _ => 0))), (r17, .inl (cA 1, 400, .inl (fun _ => 0))), (r18, .inl (cA 0, 5, .inl (fun _ => 0))), (r19, .inl (cA 0, 5, .inl (fun _ => 0))), (r20, .inl (cA 0, 60, .inl (fun _ => 0))), (r21, .inl (cA 0, 60, .inl (fun _ => 0))), (r22, .inl (cA 0, 60, .inl (fun _ => 0))), (r23, .inl (cA 0, 60, .inl (fun _ => 0))), (r24, .inl (cA 0, 60, .inl (fun _ => 0))), (r25, .inl (cA 0, 60, .inl (fun _ => 0))), (r26, .inl (cA 0, 60, .inl (fun _ => 0))), (r27, .inl (cA 0, 60, .inl (fun _ => 0))), (r28, .inl (cA 0, 169, .inl (fun _ => 0))), (r29, .inl (cA 0, 169, .inl (fun _ => 0))), (r30, .inl (cA 0, 169, .inl (fun _ => 0)))] : va_W) = mw (D, cA, s.heap.size, X, M, K, V) hz_μ := by rw [hM9]; rfl
  rw [ew] at hP1 hD2 hDw
  rw [← h10]
  have hP3 : va_P D vwCl (cw (D, cA, s.heap.size, X, M, K, V) hz_σ ++ mw (D, cA, s.heap.size, X, M, K, V) hz_μ) H1 := va_P.app hP2 hP1
  have hD3 : va_D (fun q : Nat => s.heap.size ≤ q) (cw (D, cA, s.heap.size, X, M, K, V) hz_σ ++ mw (D, cA, s.heap.size, X, M, K, V) hz_μ) := va_D.app (hy_Dl hD) hD2 hDw
  clear hM9 hP1 hD1 hPc hDc hFc hk1 hP2 hlt2 hDw hD2 ew hP hD
  generalize H1 = H at hP3 hS ⊢
  refine W.widen (k := 72) (n := 8026) (Nat.le_of_ble_eq_true rfl) (Nat.le_of_ble_eq_true rfl) ?_
  refine lv_astore_n (lv' := [(2, .ref (M 0)), (1, .ref (X 0)), (0, .ref b)]) hx hb dL_law_15 rfl hl (by decide) rfl (fun ls hl => ?_)
  refine lv_iconst (v := 1) hx hb dL_law_16 (by decide) ?_
  refine hy_newa (atype := .long) (ty := .long) (a0 := (1, .inr (.inl (fun _ => 0)))) hx hb (hts (.arrayClass .long) (lx_t6 _ (xt16 (xt4 (xt4 (xt4 (xh))))))) rfl hK hP3 hD3 hS hA 3 rfl hy_oneL (fun cA => rfl) (by decide) rfl (by decide) (Nat.le_of_ble_eq_true rfl) (Nat.le_of_ble_eq_true rfl) dL_law_17 (fun oa H hP hD hS => ?_)
  refine W.widen (k := 73) (n := 8027) (Nat.le_of_ble_eq_true rfl) (Nat.le_of_ble_eq_true rfl) ?_
  refine lv_astore_n (lv' := [(3, .ref oa), (2, .ref (M 0)), (1, .ref (X 0)), (0, .ref b)]) hx hb dL_law_19 rfl hl (by decide) rfl (fun ls hl => ?_)
  refine lv_iconst (v := 0) hx hb dL_law_20 (by decide) ?_
  refine lv_istore (lv' := [(4, .int 0), (3, .ref oa), (2, .ref (M 0)), (1, .ref (X 0)), (0, .ref b)]) hx hb dL_law_21 hl (by decide) rfl (fun ls hl => ?_)
  have w0 : hy_wx (cw (D, cA, s.heap.size, X, M, K, V) hz_σ ++ mw (D, cA, s.heap.size, X, M, K, V) hz_μ ++ hy_ex (D, cA, s.heap.size, X, M, K, V) oa (fun _ => 0)) (D, cA, s.heap.size, X, M, K, V) (fun q : Nat => s.heap.size ≤ q) s H _ := ⟨hP, hD, hS⟩
  have w1 := hz_mid w0
  obtain ⟨hI0, hd, h0, h1, h2, h3, h4, h5, h6, h7, h8, h9, h10, h11, h12, h13, h14, h15, h16, h17, h18, h19, h20, h21, h22, h23, h24, h25, h26, h27⟩ := hI
  have hC : hz_C p s m c b L xs (D, cA, s.heap.size, X, M, K, V) := ⟨⟨⟨hx, hb, hml, hown, fun w h => hts w (wsL_law_in w h)⟩, hK, hE D cA X M, fun q h => h⟩, hX, hbl, hz_np hgv, hL⟩
  exact hz_loop (c0 := 73) (s0 := 8027) hC hlt hr hlocks (by decide) (by decide) h0 h1 h2 h3 h4 h5 h6 h7 h8 h9 h10 h11 h12 h13 h14 h15 h16 h17 h18 h19 h20 h21 h22 h23 h24 h25 h26 h27 hd (L + 1) 0 (by omega) (by omega) hz_σ hz_μ (fun _ => 0) H _ ls hI0 w1 (lv_sub hl [4, 3, 2, 1, 0] (by rfl))
