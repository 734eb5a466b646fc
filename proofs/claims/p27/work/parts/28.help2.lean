set_option maxHeartbeats 4000000 in
set_option maxRecDepth 100000 in
theorem rL_vessel (l : Launch) (G : hy_G) (oa sz : Nat) (σ : hy_S) (f : Nat → Int64) (x1 : Int32) (x2 : Int32) (o : hy_S × Int32 × Nat) (hf : fX9_vessel σ x1 x2 = some o) (ho : o.2.2 = 0) : Met l yL_vessel wsL_vessel ({ frames := 8, cells := 0, slots := 0, locals := 126 }) (va_Pc [.ref (G.2.2.2.1 0), .int x1, .int x2, .ref oa] (hy_preX (cw G σ ++ hy_ex G oa f) G sz)) (hy_QX (cw G σ ++ hy_ex G oa f) (cw G o.1 ++ hy_ex G oa (vp_updL f (Int32.toNatClampNeg 0) o.2.1.toInt64)) G sz 0) 0 0 (va_A (cw G σ ++ hy_ex G oa f) sz) := by
  refine va_MetW (cc := cL_vessel) (maxL := 5) (ret := some .int) (hh := [(0, 10, 13, 20), (0, 10, 17, 43)]) (by decide +kernel) rfl ?_
  intro p e s m args below meth c s₁ B hml hv
  obtain ⟨rfl, hsz, hP, hK, hD0, hN, hnp⟩ := hv
  have hx := B.exec
  have hb := B.bytes
  have hr := B.returns
  have hts := atoms_spec (ws := wsL_vessel) B.pre
  have hown : s.vm.findClass RL = some m.cls := findClass_of_methodNamed B.named
  have hlocks := B.notSynchronized
  subst hsz
  have hD := hD0.self (sz := s.heap.size)
  have hA : ∀ q : Nat, s.heap.size ≤ q → va_A (cw G σ ++ hy_ex G oa f) s.heap.size q := fun q h => Or.inr h
  have hS : va_S (va_A (cw G σ ++ hy_ex G oa f) s.heap.size) s.heap s.heap [] := va_S.rf
  have hl := lv_entry ([.ref (G.2.2.2.1 0), .int x1, .int x2, .ref oa]) (n := 5) (Nat.le_of_ble_eq_true rfl)
  rw [lg_entry_eq]
  generalize (lg_sl ([.ref (G.2.2.2.1 0), .int x1, .int x2, .ref oa]) ++ List.replicate (5 - (lg_sl ([.ref (G.2.2.2.1 0), .int x1, .int x2, .ref oa])).length) Slot.unset).toArray = ls at hl ⊢
  have hl : lv_has ls 5 [(0, .ref (G.2.2.2.1 0)), (1, .int x1), (2, .int x2), (3, .ref oa)] := hl
  have hB : hy_B RL cL_vessel 5 wsL_vessel G (va_A (cw G σ ++ hy_ex G oa f) s.heap.size) p s m _ c := ⟨⟨hx, hb, hml, hown, hts⟩, hK, hN⟩
  have w : hy_wx (cw G σ ++ hy_ex G oa f) G (va_A (cw G σ ++ hy_ex G oa f) s.heap.size) s s.heap [] := ⟨hP, hD, hS⟩
  refine lv_aload_n hx hb dL_vessel_0 rfl (lv_at hl 3 rfl) ?_
  refine lv_iconst (v := 0) hx hb dL_vessel_1 (by decide) ?_
  refine lv_aload_n hx hb dL_vessel_2 rfl (lv_at hl 0 rfl) ?_
  refine lv_iload_n hx hb dL_vessel_3 rfl (lv_at hl 1 rfl) ?_
  refine lv_iload_n hx hb dL_vessel_4 rfl (lv_at hl 2 rfl) ?_
  refine hy_fv (ex := hy_ex G oa f) (As := [.int x1, .int x2]) (rest := [.int 0, .ref oa]) (o := (o.1, o.2.1)) cw_fix hA hB w (fun sz => mX9_vessel l G sz σ x1 x2 o hf ho) (cwV 2 hts gL_vessel_X9_vessel rfl rfl rfl (by decide +kernel) ⟨Nat.le_of_ble_eq_true rfl, Nat.le_of_ble_eq_true rfl⟩) rfl (cwq_0 G σ) rfl hl.1 rfl (Nat.le_of_ble_eq_true rfl) dL_vessel_5 ⟨Nat.zero_le _, Nat.zero_le _⟩ (fun H locs w => ?_)
  refine lv_i2l (v := o.2.1.toInt64) hx hb dL_vessel_8 rfl ?_
  refine va_last (x := o.2.1.toInt64) hx hb hB.2.1 w.1 w.2.1 w.2.2 40 3 rfl rfl (by unfold vp_in; decide) dL_vessel_9 (fun H locs hP hD hS => ?_)
  refine lv_goto (tgt := 21) hx hb dL_vessel_10 (by decide) ?_
  refine lv_iconst (v := 0) hx hb dL_vessel_21 (by decide) ?_
  exact W.iret hx hb hr (fun t ht hW => ⟨⟨0, (), rfl, rfl, by show va_P _ _ _ t.heap; rw [ht]; exact hP⟩, hS.F ht⟩) hS.2.2 dL_vessel_22
set_option maxHeartbeats 4000000 in
set_option maxRecDepth 100000 in
theorem qL_vessel_1 (l : Launch) (hlt : l.stackTraces = false) (G : hy_G) (oa sz : Nat) (σ : hy_S) (f : Nat → Int64) (x1 : Int32) (x2 : Int32) (o : hy_S × Int32 × Nat) (hf : fX9_vessel σ x1 x2 = some o) (ho : o.2.2 = 1) : Met l yL_vessel wsL_vessel ({ frames := 8, cells := 1, slots := 6, locals := 126 }) (va_Pc [.ref (G.2.2.2.1 0), .int x1, .int x2, .ref oa] (hy_preX (cw G σ ++ hy_ex G oa f) G sz)) (hy_QX (cw G σ ++ hy_ex G oa f) (cw G o.1 ++ hy_ex G oa f) G sz 1) 1 6 (va_A (cw G σ ++ hy_ex G oa f) sz) := by
  refine va_MetW (cc := cL_vessel) (maxL := 5) (ret := some .int) (hh := [(0, 10, 13, 20), (0, 10, 17, 43)]) (by decide +kernel) rfl ?_
  intro p e s m args below meth c s₁ B hml hv
  obtain ⟨rfl, hsz, hP, hK, hD0, hN, hnp⟩ := hv
  have hx := B.exec
  have hb := B.bytes
  have hr := B.returns
  have hts := atoms_spec (ws := wsL_vessel) B.pre
  have hown : s.vm.findClass RL = some m.cls := findClass_of_methodNamed B.named
  have hlocks := B.notSynchronized
  subst hsz
  have hD := hD0.self (sz := s.heap.size)
  have hA : ∀ q : Nat, s.heap.size ≤ q → va_A (cw G σ ++ hy_ex G oa f) s.heap.size q := fun q h => Or.inr h
  have hS : va_S (va_A (cw G σ ++ hy_ex G oa f) s.heap.size) s.heap s.heap [] := va_S.rf
  have hl := lv_entry ([.ref (G.2.2.2.1 0), .int x1, .int x2, .ref oa]) (n := 5) (Nat.le_of_ble_eq_true rfl)
  rw [lg_entry_eq]
  generalize (lg_sl ([.ref (G.2.2.2.1 0), .int x1, .int x2, .ref oa]) ++ List.replicate (5 - (lg_sl ([.ref (G.2.2.2.1 0), .int x1, .int x2, .ref oa])).length) Slot.unset).toArray = ls at hl ⊢
  have hl : lv_has ls 5 [(0, .ref (G.2.2.2.1 0)), (1, .int x1), (2, .int x2), (3, .ref oa)] := hl
  have hB : hy_B RL cL_vessel 5 wsL_vessel G (va_A (cw G σ ++ hy_ex G oa f) s.heap.size) p s m _ c := ⟨⟨hx, hb, hml, hown, hts⟩, hK, hN⟩
  have w : hy_wx (cw G σ ++ hy_ex G oa f) G (va_A (cw G σ ++ hy_ex G oa f) s.heap.size) s s.heap [] := ⟨hP, hD, hS⟩
  refine lv_aload_n hx hb dL_vessel_0 rfl (lv_at hl 3 rfl) ?_
  refine lv_iconst (v := 0) hx hb dL_vessel_1 (by decide) ?_
  refine lv_aload_n hx hb dL_vessel_2 rfl (lv_at hl 0 rfl) ?_
  refine lv_iload_n hx hb dL_vessel_3 rfl (lv_at hl 1 rfl) ?_
  refine lv_iload_n hx hb dL_vessel_4 rfl (lv_at hl 2 rfl) ?_
  refine hy_ft (ex := hy_ex G oa f) (As := [.int x1, .int x2]) (rest := [.int 0, .ref oa]) (o := o) cw_fix hA hB w (fun sz => tX9_vessel l hlt G sz σ x1 x2 o hf (by rw [ho]; decide)) (cwV 2 hts gL_vessel_X9_vessel rfl rfl rfl (by decide +kernel) ⟨Nat.le_of_ble_eq_true rfl, Nat.le_of_ble_eq_true rfl⟩) rfl (cwq_0 G σ) rfl hl.1 rfl (Nat.le_of_ble_eq_true rfl) dL_vessel_5 ⟨Nat.le_of_ble_eq_true rfl, Nat.le_of_ble_eq_true rfl⟩ (fun ce q9 H locs w h1 h2 h3 => ?_)
  rw [ho] at h3
  have htab := vx_table (x := yL_vessel) B (hts (.codeWith yL_vessel cL_vessel 5 (some .int) [(0, 10, 13, 20), (0, 10, 17, 43)]) List.mem_cons_self)
  refine hx_catch (own := RL) (name := "java/lang/IndexOutOfBoundsException") (E := "java/lang/IndexOutOfBoundsException") hown [] ⟨0, 10, 13, 20⟩ [⟨0, 10, 17, 43⟩] htab (fun z hz => by cases hz) (by decide) (by decide) (hts (.classLink RL 20 "java/lang/IndexOutOfBoundsException") (by decide +kernel)) (va_Nw.use rfl (hB.2.2.1.2.1.2.2.2.1 "java/lang/IndexOutOfBoundsException" (by decide +kernel))) h1 h2 h3 ?_
  refine lv_astore (lv' := [(4, .ref q9), (0, .ref (G.2.2.2.1 0)), (1, .int x1), (2, .int x2), (3, .ref oa)]) hx hb dL_vessel_13 hl (by decide) rfl (fun ls hl => ?_)
  refine lv_iconst (v := 1) hx hb dL_vessel_15 (by decide) ?_
  exact W.iret hx hb hr (fun t ht hW => ⟨⟨1, (), rfl, rfl, by show va_P _ _ _ t.heap; rw [ht]; exact w.1⟩, w.2.2.F ht⟩) w.2.2.2.2 dL_vessel_16
set_option maxHeartbeats 4000000 in
set_option maxRecDepth 100000 in
theorem qL_vessel_2 (l : Launch) (hlt : l.stackTraces = false) (G : hy_G) (oa sz : Nat) (σ : hy_S) (f : Nat → Int64) (x1 : Int32) (x2 : Int32) (o : hy_S × Int32 × Nat) (hf : fX9_vessel σ x1 x2 = some o) (ho : o.2.2 = 4) : Met l yL_vessel wsL_vessel ({ frames := 8, cells := 1, slots := 6, locals := 126 }) (va_Pc [.ref (G.2.2.2.1 0), .int x1, .int x2, .ref oa] (hy_preX (cw G σ ++ hy_ex G oa f) G sz)) (hy_QX (cw G σ ++ hy_ex G oa f) (cw G o.1 ++ hy_ex G oa f) G sz 2) 1 6 (va_A (cw G σ ++ hy_ex G oa f) sz) := by
  refine va_MetW (cc := cL_vessel) (maxL := 5) (ret := some .int) (hh := [(0, 10, 13, 20), (0, 10, 17, 43)]) (by decide +kernel) rfl ?_
  intro p e s m args below meth c s₁ B hml hv
  obtain ⟨rfl, hsz, hP, hK, hD0, hN, hnp⟩ := hv
  have hx := B.exec
  have hb := B.bytes
  have hr := B.returns
  have hts := atoms_spec (ws := wsL_vessel) B.pre
  have hown : s.vm.findClass RL = some m.cls := findClass_of_methodNamed B.named
  have hlocks := B.notSynchronized
  subst hsz
  have hD := hD0.self (sz := s.heap.size)
  have hA : ∀ q : Nat, s.heap.size ≤ q → va_A (cw G σ ++ hy_ex G oa f) s.heap.size q := fun q h => Or.inr h
  have hS : va_S (va_A (cw G σ ++ hy_ex G oa f) s.heap.size) s.heap s.heap [] := va_S.rf
  have hl := lv_entry ([.ref (G.2.2.2.1 0), .int x1, .int x2, .ref oa]) (n := 5) (Nat.le_of_ble_eq_true rfl)
  rw [lg_entry_eq]
  generalize (lg_sl ([.ref (G.2.2.2.1 0), .int x1, .int x2, .ref oa]) ++ List.replicate (5 - (lg_sl ([.ref (G.2.2.2.1 0), .int x1, .int x2, .ref oa])).length) Slot.unset).toArray = ls at hl ⊢
  have hl : lv_has ls 5 [(0, .ref (G.2.2.2.1 0)), (1, .int x1), (2, .int x2), (3, .ref oa)] := hl
  have hB : hy_B RL cL_vessel 5 wsL_vessel G (va_A (cw G σ ++ hy_ex G oa f) s.heap.size) p s m _ c := ⟨⟨hx, hb, hml, hown, hts⟩, hK, hN⟩
  have w : hy_wx (cw G σ ++ hy_ex G oa f) G (va_A (cw G σ ++ hy_ex G oa f) s.heap.size) s s.heap [] := ⟨hP, hD, hS⟩
  refine lv_aload_n hx hb dL_vessel_0 rfl (lv_at hl 3 rfl) ?_
  refine lv_iconst (v := 0) hx hb dL_vessel_1 (by decide) ?_
  refine lv_aload_n hx hb dL_vessel_2 rfl (lv_at hl 0 rfl) ?_
  refine lv_iload_n hx hb dL_vessel_3 rfl (lv_at hl 1 rfl) ?_
  refine lv_iload_n hx hb dL_vessel_4 rfl (lv_at hl 2 rfl) ?_
  refine hy_ft (ex := hy_ex G oa f) (As := [.int x1, .int x2]) (rest := [.int 0, .ref oa]) (o := o) cw_fix hA hB w (fun sz => tX9_vessel l hlt G sz σ x1 x2 o hf (by rw [ho]; decide)) (cwV 2 hts gL_vessel_X9_vessel rfl rfl rfl (by decide +kernel) ⟨Nat.le_of_ble_eq_true rfl, Nat.le_of_ble_eq_true rfl⟩) rfl (cwq_0 G σ) rfl hl.1 rfl (Nat.le_of_ble_eq_true rfl) dL_vessel_5 ⟨Nat.le_of_ble_eq_true rfl, Nat.le_of_ble_eq_true rfl⟩ (fun ce q9 H locs w h1 h2 h3 => ?_)
  rw [ho] at h3
  have htab := vx_table (x := yL_vessel) B (hts (.codeWith yL_vessel cL_vessel 5 (some .int) [(0, 10, 13, 20), (0, 10, 17, 43)]) List.mem_cons_self)
  refine hx_catch (own := RL) (name := "java/util/NoSuchElementException") (E := "java/util/NoSuchElementException") hown [⟨0, 10, 13, 20⟩] ⟨0, 10, 17, 43⟩ [] htab (fun z hz => by
    simp only [List.mem_cons, List.not_mem_nil, or_false] at hz
    rcases hz with rfl
    · exact ⟨by decide, by decide, "java/lang/IndexOutOfBoundsException", hts (.classLink RL 20 "java/lang/IndexOutOfBoundsException") (by decide +kernel), hnp ("java/util/NoSuchElementException", "java/lang/IndexOutOfBoundsException") (by decide +kernel)⟩) (by decide) (by decide) (hts (.classLink RL 43 "java/util/NoSuchElementException") (by decide +kernel)) (va_Nw.use rfl (hB.2.2.1.2.1.2.2.2.1 "java/util/NoSuchElementException" (by decide +kernel))) h1 h2 h3 ?_
  refine lv_astore (lv' := [(4, .ref q9), (0, .ref (G.2.2.2.1 0)), (1, .int x1), (2, .int x2), (3, .ref oa)]) hx hb dL_vessel_17 hl (by decide) rfl (fun ls hl => ?_)
  refine lv_iconst (v := 2) hx hb dL_vessel_19 (by decide) ?_
  exact W.iret hx hb hr (fun t ht hW => ⟨⟨2, (), rfl, rfl, by show va_P _ _ _ t.heap; rw [ht]; exact w.1⟩, w.2.2.F ht⟩) w.2.2.2.2 dL_vessel_20
set_option maxHeartbeats 4000000 in
set_option maxRecDepth 100000 in
theorem rL_tell (l : Launch) (G : hy_G) (oa sz : Nat) (σ : hy_S) (f : Nat → Int64) (x1 : Int32) (x2 : Int32) (x3 : Int32) (o : hy_S × Int32 × Nat) (hf : fX9_tell σ x1 x2 x3 = some o) (ho : o.2.2 = 0) : Met l yL_tell wsL_tell ({ frames := 8, cells := 0, slots := 0, locals := 127 }) (va_Pc [.ref (G.2.2.2.1 0), .int x1, .int x2, .int x3, .ref oa] (hy_preX (cw G σ ++ hy_ex G oa f) G sz)) (hy_QX (cw G σ ++ hy_ex G oa f) (cw G o.1 ++ hy_ex G oa (vp_updL f (Int32.toNatClampNeg 0) o.2.1.toInt64)) G sz 0) 0 0 (va_A (cw G σ ++ hy_ex G oa f) sz) := by
  refine va_MetW (cc := cL_tell) (maxL := 6) (ret := some .int) (hh := [(0, 12, 15, 20), (0, 12, 19, 13), (0, 12, 23, 15)]) (by decide +kernel) rfl ?_
  intro p e s m args below meth c s₁ B hml hv
  obtain ⟨rfl, hsz, hP, hK, hD0, hN, hnp⟩ := hv
  have hx := B.exec
  have hb := B.bytes
  have hr := B.returns
  have hts := atoms_spec (ws := wsL_tell) B.pre
  have hown : s.vm.findClass RL = some m.cls := findClass_of_methodNamed B.named
  have hlocks := B.notSynchronized
  subst hsz
  have hD := hD0.self (sz := s.heap.size)
  have hA : ∀ q : Nat, s.heap.size ≤ q → va_A (cw G σ ++ hy_ex G oa f) s.heap.size q := fun q h => Or.inr h
  have hS : va_S (va_A (cw G σ ++ hy_ex G oa f) s.heap.size) s.heap s.heap [] := va_S.rf
  have hl := lv_entry ([.ref (G.2.2.2.1 0), .int x1, .int x2, .int x3, .ref oa]) (n := 6) (Nat.le_of_ble_eq_true rfl)
  rw [lg_entry_eq]
  generalize (lg_sl ([.ref (G.2.2.2.1 0), .int x1, .int x2, .int x3, .ref oa]) ++ List.replicate (6 - (lg_sl ([.ref (G.2.2.2.1 0), .int x1, .int x2, .int x3, .ref oa])).length) Slot.unset).toArray = ls at hl ⊢
  have hl : lv_has ls 6 [(0, .ref (G.2.2.2.1 0)), (1, .int x1), (2, .int x2), (3, .int x3), (4, .ref oa)] := hl
  have hB : hy_B RL cL_tell 6 wsL_tell G (va_A (cw G σ ++ hy_ex G oa f) s.heap.size) p s m _ c := ⟨⟨hx, hb, hml, hown, hts⟩, hK, hN⟩
  have w : hy_wx (cw G σ ++ hy_ex G oa f) G (va_A (cw G σ ++ hy_ex G oa f) s.heap.size) s s.heap [] := ⟨hP, hD, hS⟩
  refine lv_aload hx hb dL_tell_0 (lv_at hl 4 rfl) ?_
  refine lv_iconst (v := 0) hx hb dL_tell_2 (by decide) ?_
  refine lv_aload_n hx hb dL_tell_3 rfl (lv_at hl 0 rfl) ?_
  refine lv_iload_n hx hb dL_tell_4 rfl (lv_at hl 1 rfl) ?_
  refine lv_iload_n hx hb dL_tell_5 rfl (lv_at hl 2 rfl) ?_
  refine lv_iload_n hx hb dL_tell_6 rfl (lv_at hl 3 rfl) ?_
  refine hy_fv (ex := hy_ex G oa f) (As := [.int x1, .int x2, .int x3]) (rest := [.int 0, .ref oa]) (o := (o.1, o.2.1)) cw_fix hA hB w (fun sz => mX9_tell l G sz σ x1 x2 x3 o hf ho) (cwV 3 hts gL_tell_X9_tell rfl rfl rfl (by decide +kernel) ⟨Nat.le_of_ble_eq_true rfl, Nat.le_of_ble_eq_true rfl⟩) rfl (cwq_0 G σ) rfl hl.1 rfl (Nat.le_of_ble_eq_true rfl) dL_tell_7 ⟨Nat.zero_le _, Nat.zero_le _⟩ (fun H locs w => ?_)
  refine lv_i2l (v := o.2.1.toInt64) hx hb dL_tell_10 rfl ?_
  refine va_last (x := o.2.1.toInt64) hx hb hB.2.1 w.1 w.2.1 w.2.2 40 3 rfl rfl (by unfold vp_in; decide) dL_tell_11 (fun H locs hP hD hS => ?_)
  refine lv_goto (tgt := 27) hx hb dL_tell_12 (by decide) ?_
  refine lv_iconst (v := 0) hx hb dL_tell_27 (by decide) ?_
  exact W.iret hx hb hr (fun t ht hW => ⟨⟨0, (), rfl, rfl, by show va_P _ _ _ t.heap; rw [ht]; exact hP⟩, hS.F ht⟩) hS.2.2 dL_tell_28
set_option maxHeartbeats 4000000 in
set_option maxRecDepth 100000 in
theorem qL_tell_1 (l : Launch) (hlt : l.stackTraces = false) (G : hy_G) (oa sz : Nat) (σ : hy_S) (f : Nat → Int64) (x1 : Int32) (x2 : Int32) (x3 : Int32) (o : hy_S × Int32 × Nat) (hf : fX9_tell σ x1 x2 x3 = some o) (ho : o.2.2 = 1) : Met l yL_tell wsL_tell ({ frames := 8, cells := 1, slots := 6, locals := 127 }) (va_Pc [.ref (G.2.2.2.1 0), .int x1, .int x2, .int x3, .ref oa] (hy_preX (cw G σ ++ hy_ex G oa f) G sz)) (hy_QX (cw G σ ++ hy_ex G oa f) (cw G o.1 ++ hy_ex G oa f) G sz 1) 1 6 (va_A (cw G σ ++ hy_ex G oa f) sz) := by
  refine va_MetW (cc := cL_tell) (maxL := 6) (ret := some .int) (hh := [(0, 12, 15, 20), (0, 12, 19, 13), (0, 12, 23, 15)]) (by decide +kernel) rfl ?_
  intro p e s m args below meth c s₁ B hml hv
  obtain ⟨rfl, hsz, hP, hK, hD0, hN, hnp⟩ := hv
  have hx := B.exec
  have hb := B.bytes
  have hr := B.returns
  have hts := atoms_spec (ws := wsL_tell) B.pre
  have hown : s.vm.findClass RL = some m.cls := findClass_of_methodNamed B.named
  have hlocks := B.notSynchronized
  subst hsz
  have hD := hD0.self (sz := s.heap.size)
  have hA : ∀ q : Nat, s.heap.size ≤ q → va_A (cw G σ ++ hy_ex G oa f) s.heap.size q := fun q h => Or.inr h
  have hS : va_S (va_A (cw G σ ++ hy_ex G oa f) s.heap.size) s.heap s.heap [] := va_S.rf
  have hl := lv_entry ([.ref (G.2.2.2.1 0), .int x1, .int x2, .int x3, .ref oa]) (n := 6) (Nat.le_of_ble_eq_true rfl)
  rw [lg_entry_eq]
  generalize (lg_sl ([.ref (G.2.2.2.1 0), .int x1, .int x2, .int x3, .ref oa]) ++ List.replicate (6 - (lg_sl ([.ref (G.2.2.2.1 0), .int x1, .int x2, .int x3, .ref oa])).length) Slot.unset).toArray = ls at hl ⊢
  have hl : lv_has ls 6 [(0, .ref (G.2.2.2.1 0)), (1, .int x1), (2, .int x2), (3, .int x3), (4, .ref oa)] := hl
  have hB : hy_B RL cL_tell 6 wsL_tell G (va_A (cw G σ ++ hy_ex G oa f) s.heap.size) p s m _ c := ⟨⟨hx, hb, hml, hown, hts⟩, hK, hN⟩
  have w : hy_wx (cw G σ ++ hy_ex G oa f) G (va_A (cw G σ ++ hy_ex G oa f) s.heap.size) s s.heap [] := ⟨hP, hD, hS⟩
  refine lv_aload hx hb dL_tell_0 (lv_at hl 4 rfl) ?_
  refine lv_iconst (v := 0) hx hb dL_tell_2 (by decide) ?_
  refine lv_aload_n hx hb dL_tell_3 rfl (lv_at hl 0 rfl) ?_
  refine lv_iload_n hx hb dL_tell_4 rfl (lv_at hl 1 rfl) ?_
  refine lv_iload_n hx hb dL_tell_5 rfl (lv_at hl 2 rfl) ?_
  refine lv_iload_n hx hb dL_tell_6 rfl (lv_at hl 3 rfl) ?_
  refine hy_ft (ex := hy_ex G oa f) (As := [.int x1, .int x2, .int x3]) (rest := [.int 0, .ref oa]) (o := o) cw_fix hA hB w (fun sz => tX9_tell l hlt G sz σ x1 x2 x3 o hf (by rw [ho]; decide)) (cwV 3 hts gL_tell_X9_tell rfl rfl rfl (by decide +kernel) ⟨Nat.le_of_ble_eq_true rfl, Nat.le_of_ble_eq_true rfl⟩) rfl (cwq_0 G σ) rfl hl.1 rfl (Nat.le_of_ble_eq_true rfl) dL_tell_7 ⟨Nat.le_of_ble_eq_true rfl, Nat.le_of_ble_eq_true rfl⟩ (fun ce q9 H locs w h1 h2 h3 => ?_)
  rw [ho] at h3
  have htab := vx_table (x := yL_tell) B (hts (.codeWith yL_tell cL_tell 6 (some .int) [(0, 12, 15, 20), (0, 12, 19, 13), (0, 12, 23, 15)]) List.mem_cons_self)
  refine hx_catch (own := RL) (name := "java/lang/IndexOutOfBoundsException") (E := "java/lang/IndexOutOfBoundsException") hown [] ⟨0, 12, 15, 20⟩ [⟨0, 12, 19, 13⟩, ⟨0, 12, 23, 15⟩] htab (fun z hz => by cases hz) (by decide) (by decide) (hts (.classLink RL 20 "java/lang/IndexOutOfBoundsException") (by decide +kernel)) (va_Nw.use rfl (hB.2.2.1.2.1.2.2.2.1 "java/lang/IndexOutOfBoundsException" (by decide +kernel))) h1 h2 h3 ?_
  refine lv_astore (lv' := [(5, .ref q9), (0, .ref (G.2.2.2.1 0)), (1, .int x1), (2, .int x2), (3, .int x3), (4, .ref oa)]) hx hb dL_tell_15 hl (by decide) rfl (fun ls hl => ?_)
  refine lv_iconst (v := 1) hx hb dL_tell_17 (by decide) ?_
  exact W.iret hx hb hr (fun t ht hW => ⟨⟨1, (), rfl, rfl, by show va_P _ _ _ t.heap; rw [ht]; exact w.1⟩, w.2.2.F ht⟩) w.2.2.2.2 dL_tell_18
set_option maxHeartbeats 4000000 in
set_option maxRecDepth 100000 in
theorem qL_tell_2 (l : Launch) (hlt : l.stackTraces = false) (G : hy_G) (oa sz : Nat) (σ : hy_S) (f : Nat → Int64) (x1 : Int32) (x2 : Int32) (x3 : Int32) (o : hy_S × Int32 × Nat) (hf : fX9_tell σ x1 x2 x3 = some o) (ho : o.2.2 = 2) : Met l yL_tell wsL_tell ({ frames := 8, cells := 1, slots := 6, locals := 127 }) (va_Pc [.ref (G.2.2.2.1 0), .int x1, .int x2, .int x3, .ref oa] (hy_preX (cw G σ ++ hy_ex G oa f) G sz)) (hy_QX (cw G σ ++ hy_ex G oa f) (cw G o.1 ++ hy_ex G oa f) G sz 2) 1 6 (va_A (cw G σ ++ hy_ex G oa f) sz) := by
  refine va_MetW (cc := cL_tell) (maxL := 6) (ret := some .int) (hh := [(0, 12, 15, 20), (0, 12, 19, 13), (0, 12, 23, 15)]) (by decide +kernel) rfl ?_
  intro p e s m args below meth c s₁ B hml hv
  obtain ⟨rfl, hsz, hP, hK, hD0, hN, hnp⟩ := hv
  have hx := B.exec
  have hb := B.bytes
  have hr := B.returns
  have hts := atoms_spec (ws := wsL_tell) B.pre
  have hown : s.vm.findClass RL = some m.cls := findClass_of_methodNamed B.named
  have hlocks := B.notSynchronized
  subst hsz
  have hD := hD0.self (sz := s.heap.size)
  have hA : ∀ q : Nat, s.heap.size ≤ q → va_A (cw G σ ++ hy_ex G oa f) s.heap.size q := fun q h => Or.inr h
  have hS : va_S (va_A (cw G σ ++ hy_ex G oa f) s.heap.size) s.heap s.heap [] := va_S.rf
  have hl := lv_entry ([.ref (G.2.2.2.1 0), .int x1, .int x2, .int x3, .ref oa]) (n := 6) (Nat.le_of_ble_eq_true rfl)
  rw [lg_entry_eq]
  generalize (lg_sl ([.ref (G.2.2.2.1 0), .int x1, .int x2, .int x3, .ref oa]) ++ List.replicate (6 - (lg_sl ([.ref (G.2.2.2.1 0), .int x1, .int x2, .int x3, .ref oa])).length) Slot.unset).toArray = ls at hl ⊢
  have hl : lv_has ls 6 [(0, .ref (G.2.2.2.1 0)), (1, .int x1), (2, .int x2), (3, .int x3), (4, .ref oa)] := hl
  have hB : hy_B RL cL_tell 6 wsL_tell G (va_A (cw G σ ++ hy_ex G oa f) s.heap.size) p s m _ c := ⟨⟨hx, hb, hml, hown, hts⟩, hK, hN⟩
  have w : hy_wx (cw G σ ++ hy_ex G oa f) G (va_A (cw G σ ++ hy_ex G oa f) s.heap.size) s s.heap [] := ⟨hP, hD, hS⟩
  refine lv_aload hx hb dL_tell_0 (lv_at hl 4 rfl) ?_
  refine lv_iconst (v := 0) hx hb dL_tell_2 (by decide) ?_
  refine lv_aload_n hx hb dL_tell_3 rfl (lv_at hl 0 rfl) ?_
  refine lv_iload_n hx hb dL_tell_4 rfl (lv_at hl 1 rfl) ?_
  refine lv_iload_n hx hb dL_tell_5 rfl (lv_at hl 2 rfl) ?_
  refine lv_iload_n hx hb dL_tell_6 rfl (lv_at hl 3 rfl) ?_
  refine hy_ft (ex := hy_ex G oa f) (As := [.int x1, .int x2, .int x3]) (rest := [.int 0, .ref oa]) (o := o) cw_fix hA hB w (fun sz => tX9_tell l hlt G sz σ x1 x2 x3 o hf (by rw [ho]; decide)) (cwV 3 hts gL_tell_X9_tell rfl rfl rfl (by decide +kernel) ⟨Nat.le_of_ble_eq_true rfl, Nat.le_of_ble_eq_true rfl⟩) rfl (cwq_0 G σ) rfl hl.1 rfl (Nat.le_of_ble_eq_true rfl) dL_tell_7 ⟨Nat.le_of_ble_eq_true rfl, Nat.le_of_ble_eq_true rfl⟩ (fun ce q9 H locs w h1 h2 h3 => ?_)
  rw [ho] at h3
  have htab := vx_table (x := yL_tell) B (hts (.codeWith yL_tell cL_tell 6 (some .int) [(0, 12, 15, 20), (0, 12, 19, 13), (0, 12, 23, 15)]) List.mem_cons_self)
  refine hx_catch (own := RL) (name := "java/lang/IllegalArgumentException") (E := "java/lang/IllegalArgumentException") hown [⟨0, 12, 15, 20⟩] ⟨0, 12, 19, 13⟩ [⟨0, 12, 23, 15⟩] htab (fun z hz => by
    simp only [List.mem_cons, List.not_mem_nil, or_false] at hz
    rcases hz with rfl
    · exact ⟨by decide, by decide, "java/lang/IndexOutOfBoundsException", hts (.classLink RL 20 "java/lang/IndexOutOfBoundsException") (by decide +kernel), hnp ("java/lang/IllegalArgumentException", "java/lang/IndexOutOfBoundsException") (by decide +kernel)⟩) (by decide) (by decide) (hts (.classLink RL 13 "java/lang/IllegalArgumentException") (by decide +kernel)) (va_Nw.use rfl (hB.2.2.1.2.1.2.2.2.1 "java/lang/IllegalArgumentException" (by decide +kernel))) h1 h2 h3 ?_
  refine lv_astore (lv' := [(5, .ref q9), (0, .ref (G.2.2.2.1 0)), (1, .int x1), (2, .int x2), (3, .int x3), (4, .ref oa)]) hx hb dL_tell_19 hl (by decide) rfl (fun ls hl => ?_)
  refine lv_iconst (v := 2) hx hb dL_tell_21 (by decide) ?_
  exact W.iret hx hb hr (fun t ht hW => ⟨⟨2, (), rfl, rfl, by show va_P _ _ _ t.heap; rw [ht]; exact w.1⟩, w.2.2.F ht⟩) w.2.2.2.2 dL_tell_22
set_option maxHeartbeats 4000000 in
set_option maxRecDepth 100000 in
theorem qL_tell_3 (l : Launch) (hlt : l.stackTraces = false) (G : hy_G) (oa sz : Nat) (σ : hy_S) (f : Nat → Int64) (x1 : Int32) (x2 : Int32) (x3 : Int32) (o : hy_S × Int32 × Nat) (hf : fX9_tell σ x1 x2 x3 = some o) (ho : o.2.2 = 3) : Met l yL_tell wsL_tell ({ frames := 8, cells := 1, slots := 6, locals := 127 }) (va_Pc [.ref (G.2.2.2.1 0), .int x1, .int x2, .int x3, .ref oa] (hy_preX (cw G σ ++ hy_ex G oa f) G sz)) (hy_QX (cw G σ ++ hy_ex G oa f) (cw G o.1 ++ hy_ex G oa f) G sz 3) 1 6 (va_A (cw G σ ++ hy_ex G oa f) sz) := by
  refine va_MetW (cc := cL_tell) (maxL := 6) (ret := some .int) (hh := [(0, 12, 15, 20), (0, 12, 19, 13), (0, 12, 23, 15)]) (by decide +kernel) rfl ?_
  intro p e s m args below meth c s₁ B hml hv
  obtain ⟨rfl, hsz, hP, hK, hD0, hN, hnp⟩ := hv
  have hx := B.exec
  have hb := B.bytes
  have hr := B.returns
  have hts := atoms_spec (ws := wsL_tell) B.pre
  have hown : s.vm.findClass RL = some m.cls := findClass_of_methodNamed B.named
  have hlocks := B.notSynchronized
  subst hsz
  have hD := hD0.self (sz := s.heap.size)
  have hA : ∀ q : Nat, s.heap.size ≤ q → va_A (cw G σ ++ hy_ex G oa f) s.heap.size q := fun q h => Or.inr h
  have hS : va_S (va_A (cw G σ ++ hy_ex G oa f) s.heap.size) s.heap s.heap [] := va_S.rf
  have hl := lv_entry ([.ref (G.2.2.2.1 0), .int x1, .int x2, .int x3, .ref oa]) (n := 6) (Nat.le_of_ble_eq_true rfl)
  rw [lg_entry_eq]
  generalize (lg_sl ([.ref (G.2.2.2.1 0), .int x1, .int x2, .int x3, .ref oa]) ++ List.replicate (6 - (lg_sl ([.ref (G.2.2.2.1 0), .int x1, .int x2, .int x3, .ref oa])).length) Slot.unset).toArray = ls at hl ⊢
  have hl : lv_has ls 6 [(0, .ref (G.2.2.2.1 0)), (1, .int x1), (2, .int x2), (3, .int x3), (4, .ref oa)] := hl
  have hB : hy_B RL cL_tell 6 wsL_tell G (va_A (cw G σ ++ hy_ex G oa f) s.heap.size) p s m _ c := ⟨⟨hx, hb, hml, hown, hts⟩, hK, hN⟩
  have w : hy_wx (cw G σ ++ hy_ex G oa f) G (va_A (cw G σ ++ hy_ex G oa f) s.heap.size) s s.heap [] := ⟨hP, hD, hS⟩
  refine lv_aload hx hb dL_tell_0 (lv_at hl 4 rfl) ?_
  refine lv_iconst (v := 0) hx hb dL_tell_2 (by decide) ?_
  refine lv_aload_n hx hb dL_tell_3 rfl (lv_at hl 0 rfl) ?_
  refine lv_iload_n hx hb dL_tell_4 rfl (lv_at hl 1 rfl) ?_
  refine lv_iload_n hx hb dL_tell_5 rfl (lv_at hl 2 rfl) ?_
  refine lv_iload_n hx hb dL_tell_6 rfl (lv_at hl 3 rfl) ?_
  refine hy_ft (ex := hy_ex G oa f) (As := [.int x1, .int x2, .int x3]) (rest := [.int 0, .ref oa]) (o := o) cw_fix hA hB w (fun sz => tX9_tell l hlt G sz σ x1 x2 x3 o hf (by rw [ho]; decide)) (cwV 3 hts gL_tell_X9_tell rfl rfl rfl (by decide +kernel) ⟨Nat.le_of_ble_eq_true rfl, Nat.le_of_ble_eq_true rfl⟩) rfl (cwq_0 G σ) rfl hl.1 rfl (Nat.le_of_ble_eq_true rfl) dL_tell_7 ⟨Nat.le_of_ble_eq_true rfl, Nat.le_of_ble_eq_true rfl⟩ (fun ce q9 H locs w h1 h2 h3 => ?_)
  rw [ho] at h3
  have htab := vx_table (x := yL_tell) B (hts (.codeWith yL_tell cL_tell 6 (some .int) [(0, 12, 15, 20), (0, 12, 19, 13), (0, 12, 23, 15)]) List.mem_cons_self)
  refine hx_catch (own := RL) (name := "java/lang/UnsupportedOperationException") (E := "java/lang/UnsupportedOperationException") hown [⟨0, 12, 15, 20⟩, ⟨0, 12, 19, 13⟩] ⟨0, 12, 23, 15⟩ [] htab (fun z hz => by
    simp only [List.mem_cons, List.not_mem_nil, or_false] at hz
    rcases hz with rfl | rfl
    · exact ⟨by decide, by decide, "java/lang/IndexOutOfBoundsException", hts (.classLink RL 20 "java/lang/IndexOutOfBoundsException") (by decide +kernel), hnp ("java/lang/UnsupportedOperationException", "java/lang/IndexOutOfBoundsException") (by decide +kernel)⟩
    · exact ⟨by decide, by decide, "java/lang/IllegalArgumentException", hts (.classLink RL 13 "java/lang/IllegalArgumentException") (by decide +kernel), hnp ("java/lang/UnsupportedOperationException", "java/lang/IllegalArgumentException") (by decide +kernel)⟩) (by decide) (by decide) (hts (.classLink RL 15 "java/lang/UnsupportedOperationException") (by decide +kernel)) (va_Nw.use rfl (hB.2.2.1.2.1.2.2.2.1 "java/lang/UnsupportedOperationException" (by decide +kernel))) h1 h2 h3 ?_
  refine lv_astore (lv' := [(5, .ref q9), (0, .ref (G.2.2.2.1 0)), (1, .int x1), (2, .int x2), (3, .int x3), (4, .ref oa)]) hx hb dL_tell_23 hl (by decide) rfl (fun ls hl => ?_)
  refine lv_iconst (v := 3) hx hb dL_tell_25 (by decide) ?_
  exact W.iret hx hb hr (fun t ht hW => ⟨⟨3, (), rfl, rfl, by show va_P _ _ _ t.heap; rw [ht]; exact w.1⟩, w.2.2.F ht⟩) w.2.2.2.2 dL_tell_26
set_option maxHeartbeats 4000000 in
set_option maxRecDepth 100000 in
theorem rL_bound (l : Launch) (G : hy_G) (oa sz : Nat) (σ : hy_S) (f : Nat → Int64) (x1 : Int32) (x2 : Int32) (x3 : Int32) (o : hy_S × Int32 × Nat) (hf : fX9_bound σ x1 x2 x3 = some o) (ho : o.2.2 = 0) : Met l yL_bound wsL_bound ({ frames := 8, cells := 0, slots := 0, locals := 127 }) (va_Pc [.ref (G.2.2.2.1 0), .int x1, .int x2, .int x3, .ref oa] (hy_preX (cw G σ ++ hy_ex G oa f) G sz)) (hy_QX (cw G σ ++ hy_ex G oa f) (cw G o.1 ++ hy_ex G oa (vp_updL f (Int32.toNatClampNeg 0) o.2.1.toInt64)) G sz 0) 0 0 (va_A (cw G σ ++ hy_ex G oa f) sz) := by
  refine va_MetW (cc := cL_bound) (maxL := 6) (ret := some .int) (hh := [(0, 12, 15, 20), (0, 12, 19, 13), (0, 12, 23, 15)]) (by decide +kernel) rfl ?_
  intro p e s m args below meth c s₁ B hml hv
  obtain ⟨rfl, hsz, hP, hK, hD0, hN, hnp⟩ := hv
  have hx := B.exec
  have hb := B.bytes
  have hr := B.returns
  have hts := atoms_spec (ws := wsL_bound) B.pre
  have hown : s.vm.findClass RL = some m.cls := findClass_of_methodNamed B.named
  have hlocks := B.notSynchronized
  subst hsz
  have hD := hD0.self (sz := s.heap.size)
  have hA : ∀ q : Nat, s.heap.size ≤ q → va_A (cw G σ ++ hy_ex G oa f) s.heap.size q := fun q h => Or.inr h
  have hS : va_S (va_A (cw G σ ++ hy_ex G oa f) s.heap.size) s.heap s.heap [] := va_S.rf
  have hl := lv_entry ([.ref (G.2.2.2.1 0), .int x1, .int x2, .int x3, .ref oa]) (n := 6) (Nat.le_of_ble_eq_true rfl)
  rw [lg_entry_eq]
  generalize (lg_sl ([.ref (G.2.2.2.1 0), .int x1, .int x2, .int x3, .ref oa]) ++ List.replicate (6 - (lg_sl ([.ref (G.2.2.2.1 0), .int x1, .int x2, .int x3, .ref oa])).length) Slot.unset).toArray = ls at hl ⊢
  have hl : lv_has ls 6 [(0, .ref (G.2.2.2.1 0)), (1, .int x1), (2, .int x2), (3, .int x3), (4, .ref oa)] := hl
  have hB : hy_B RL cL_bound 6 wsL_bound G (va_A (cw G σ ++ hy_ex G oa f) s.heap.size) p s m _ c := ⟨⟨hx, hb, hml, hown, hts⟩, hK, hN⟩
  have w : hy_wx (cw G σ ++ hy_ex G oa f) G (va_A (cw G σ ++ hy_ex G oa f) s.heap.size) s s.heap [] := ⟨hP, hD, hS⟩
  refine lv_aload hx hb dL_bound_0 (lv_at hl 4 rfl) ?_
  refine lv_iconst (v := 0) hx hb dL_bound_2 (by decide) ?_
  refine lv_aload_n hx hb dL_bound_3 rfl (lv_at hl 0 rfl) ?_
  refine lv_iload_n hx hb dL_bound_4 rfl (lv_at hl 1 rfl) ?_
  refine lv_iload_n hx hb dL_bound_5 rfl (lv_at hl 2 rfl) ?_
  refine lv_iload_n hx hb dL_bound_6 rfl (lv_at hl 3 rfl) ?_
  refine hy_fv (ex := hy_ex G oa f) (As := [.int x1, .int x2, .int x3]) (rest := [.int 0, .ref oa]) (o := (o.1, o.2.1)) cw_fix hA hB w (fun sz => mX9_bound l G sz σ x1 x2 x3 o hf ho) (cwV 3 hts gL_bound_X9_bound rfl rfl rfl (by decide +kernel) ⟨Nat.le_of_ble_eq_true rfl, Nat.le_of_ble_eq_true rfl⟩) rfl (cwq_0 G σ) rfl hl.1 rfl (Nat.le_of_ble_eq_true rfl) dL_bound_7 ⟨Nat.zero_le _, Nat.zero_le _⟩ (fun H locs w => ?_)
  refine lv_i2l (v := o.2.1.toInt64) hx hb dL_bound_10 rfl ?_
  refine va_last (x := o.2.1.toInt64) hx hb hB.2.1 w.1 w.2.1 w.2.2 40 3 rfl rfl (by unfold vp_in; decide) dL_bound_11 (fun H locs hP hD hS => ?_)
  refine lv_goto (tgt := 27) hx hb dL_bound_12 (by decide) ?_
  refine lv_iconst (v := 0) hx hb dL_bound_27 (by decide) ?_
  exact W.iret hx hb hr (fun t ht hW => ⟨⟨0, (), rfl, rfl, by show va_P _ _ _ t.heap; rw [ht]; exact hP⟩, hS.F ht⟩) hS.2.2 dL_bound_28
set_option maxHeartbeats 4000000 in
set_option maxRecDepth 100000 in
theorem qL_bound_1 (l : Launch) (hlt : l.stackTraces = false) (G : hy_G) (oa sz : Nat) (σ : hy_S) (f : Nat → Int64) (x1 : Int32) (x2 : Int32) (x3 : Int32) (o : hy_S × Int32 × Nat) (hf : fX9_bound σ x1 x2 x3 = some o) (ho : o.2.2 = 1) : Met l yL_bound wsL_bound ({ frames := 8, cells := 1, slots := 6, locals := 127 }) (va_Pc [.ref (G.2.2.2.1 0), .int x1, .int x2, .int x3, .ref oa] (hy_preX (cw G σ ++ hy_ex G oa f) G sz)) (hy_QX (cw G σ ++ hy_ex G oa f) (cw G o.1 ++ hy_ex G oa f) G sz 1) 1 6 (va_A (cw G σ ++ hy_ex G oa f) sz) := by
  refine va_MetW (cc := cL_bound) (maxL := 6) (ret := some .int) (hh := [(0, 12, 15, 20), (0, 12, 19, 13), (0, 12, 23, 15)]) (by decide +kernel) rfl ?_
  intro p e s m args below meth c s₁ B hml hv
  obtain ⟨rfl, hsz, hP, hK, hD0, hN, hnp⟩ := hv
  have hx := B.exec
  have hb := B.bytes
  have hr := B.returns
  have hts := atoms_spec (ws := wsL_bound) B.pre
  have hown : s.vm.findClass RL = some m.cls := findClass_of_methodNamed B.named
  have hlocks := B.notSynchronized
  subst hsz
  have hD := hD0.self (sz := s.heap.size)
  have hA : ∀ q : Nat, s.heap.size ≤ q → va_A (cw G σ ++ hy_ex G oa f) s.heap.size q := fun q h => Or.inr h
  have hS : va_S (va_A (cw G σ ++ hy_ex G oa f) s.heap.size) s.heap s.heap [] := va_S.rf
  have hl := lv_entry ([.ref (G.2.2.2.1 0), .int x1, .int x2, .int x3, .ref oa]) (n := 6) (Nat.le_of_ble_eq_true rfl)
  rw [lg_entry_eq]
  generalize (lg_sl ([.ref (G.2.2.2.1 0), .int x1, .int x2, .int x3, .ref oa]) ++ List.replicate (6 - (lg_sl ([.ref (G.2.2.2.1 0), .int x1, .int x2, .int x3, .ref oa])).length) Slot.unset).toArray = ls at hl ⊢
  have hl : lv_has ls 6 [(0, .ref (G.2.2.2.1 0)), (1, .int x1), (2, .int x2), (3, .int x3), (4, .ref oa)] := hl
  have hB : hy_B RL cL_bound 6 wsL_bound G (va_A (cw G σ ++ hy_ex G oa f) s.heap.size) p s m _ c := ⟨⟨hx, hb, hml, hown, hts⟩, hK, hN⟩
  have w : hy_wx (cw G σ ++ hy_ex G oa f) G (va_A (cw G σ ++ hy_ex G oa f) s.heap.size) s s.heap [] := ⟨hP, hD, hS⟩
  refine lv_aload hx hb dL_bound_0 (lv_at hl 4 rfl) ?_
  refine lv_iconst (v := 0) hx hb dL_bound_2 (by decide) ?_
  refine lv_aload_n hx hb dL_bound_3 rfl (lv_at hl 0 rfl) ?_
  refine lv_iload_n hx hb dL_bound_4 rfl (lv_at hl 1 rfl) ?_
  refine lv_iload_n hx hb dL_bound_5 rfl (lv_at hl 2 rfl) ?_
  refine lv_iload_n hx hb dL_bound_6 rfl (lv_at hl 3 rfl) ?_
  refine hy_ft (ex := hy_ex G oa f) (As := [.int x1, .int x2, .int x3]) (rest := [.int 0, .ref oa]) (o := o) cw_fix hA hB w (fun sz => tX9_bound l hlt G sz σ x1 x2 x3 o hf (by rw [ho]; decide)) (cwV 3 hts gL_bound_X9_bound rfl rfl rfl (by decide +kernel) ⟨Nat.le_of_ble_eq_true rfl, Nat.le_of_ble_eq_true rfl⟩) rfl (cwq_0 G σ) rfl hl.1 rfl (Nat.le_of_ble_eq_true rfl) dL_bound_7 ⟨Nat.le_of_ble_eq_true rfl, Nat.le_of_ble_eq_true rfl⟩ (fun ce q9 H locs w h1 h2 h3 => ?_)
  rw [ho] at h3
  have htab := vx_table (x := yL_bound) B (hts (.codeWith yL_bound cL_bound 6 (some .int) [(0, 12, 15, 20), (0, 12, 19, 13), (0, 12, 23, 15)]) List.mem_cons_self)
  refine hx_catch (own := RL) (name := "java/lang/IndexOutOfBoundsException") (E := "java/lang/IndexOutOfBoundsException") hown [] ⟨0, 12, 15, 20⟩ [⟨0, 12, 19, 13⟩, ⟨0, 12, 23, 15⟩] htab (fun z hz => by cases hz) (by decide) (by decide) (hts (.classLink RL 20 "java/lang/IndexOutOfBoundsException") (by decide +kernel)) (va_Nw.use rfl (hB.2.2.1.2.1.2.2.2.1 "java/lang/IndexOutOfBoundsException" (by decide +kernel))) h1 h2 h3 ?_
  refine lv_astore (lv' := [(5, .ref q9), (0, .ref (G.2.2.2.1 0)), (1, .int x1), (2, .int x2), (3, .int x3), (4, .ref oa)]) hx hb dL_bound_15 hl (by decide) rfl (fun ls hl => ?_)
  refine lv_iconst (v := 1) hx hb dL_bound_17 (by decide) ?_
  exact W.iret hx hb hr (fun t ht hW => ⟨⟨1, (), rfl, rfl, by show va_P _ _ _ t.heap; rw [ht]; exact w.1⟩, w.2.2.F ht⟩) w.2.2.2.2 dL_bound_18
set_option maxHeartbeats 4000000 in
set_option maxRecDepth 100000 in
theorem qL_bound_2 (l : Launch) (hlt : l.stackTraces = false) (G : hy_G) (oa sz : Nat) (σ : hy_S) (f : Nat → Int64) (x1 : Int32) (x2 : Int32) (x3 : Int32) (o : hy_S × Int32 × Nat) (hf : fX9_bound σ x1 x2 x3 = some o) (ho : o.2.2 = 2) : Met l yL_bound wsL_bound ({ frames := 8, cells := 1, slots := 6, locals := 127 }) (va_Pc [.ref (G.2.2.2.1 0), .int x1, .int x2, .int x3, .ref oa] (hy_preX (cw G σ ++ hy_ex G oa f) G sz)) (hy_QX (cw G σ ++ hy_ex G oa f) (cw G o.1 ++ hy_ex G oa f) G sz 2) 1 6 (va_A (cw G σ ++ hy_ex G oa f) sz) := by
  refine va_MetW (cc := cL_bound) (maxL := 6) (ret := some .int) (hh := [(0, 12, 15, 20), (0, 12, 19, 13), (0, 12, 23, 15)]) (by decide +kernel) rfl ?_
  intro p e s m args below meth c s₁ B hml hv
  obtain ⟨rfl, hsz, hP, hK, hD0, hN, hnp⟩ := hv
  have hx := B.exec
  have hb := B.bytes
  have hr := B.returns
  have hts := atoms_spec (ws := wsL_bound) B.pre
  have hown : s.vm.findClass RL = some m.cls := findClass_of_methodNamed B.named
  have hlocks := B.notSynchronized
  subst hsz
  have hD := hD0.self (sz := s.heap.size)
  have hA : ∀ q : Nat, s.heap.size ≤ q → va_A (cw G σ ++ hy_ex G oa f) s.heap.size q := fun q h => Or.inr h
  have hS : va_S (va_A (cw G σ ++ hy_ex G oa f) s.heap.size) s.heap s.heap [] := va_S.rf
  have hl := lv_entry ([.ref (G.2.2.2.1 0), .int x1, .int x2, .int x3, .ref oa]) (n := 6) (Nat.le_of_ble_eq_true rfl)
  rw [lg_entry_eq]
  generalize (lg_sl ([.ref (G.2.2.2.1 0), .int x1, .int x2, .int x3, .ref oa]) ++ List.replicate (6 - (lg_sl ([.ref (G.2.2.2.1 0), .int x1, .int x2, .int x3, .ref oa])).length) Slot.unset).toArray = ls at hl ⊢
  have hl : lv_has ls 6 [(0, .ref (G.2.2.2.1 0)), (1, .int x1), (2, .int x2), (3, .int x3), (4, .ref oa)] := hl
  have hB : hy_B RL cL_bound 6 wsL_bound G (va_A (cw G σ ++ hy_ex G oa f) s.heap.size) p s m _ c := ⟨⟨hx, hb, hml, hown, hts⟩, hK, hN⟩
  have w : hy_wx (cw G σ ++ hy_ex G oa f) G (va_A (cw G σ ++ hy_ex G oa f) s.heap.size) s s.heap [] := ⟨hP, hD, hS⟩
  refine lv_aload hx hb dL_bound_0 (lv_at hl 4 rfl) ?_
  refine lv_iconst (v := 0) hx hb dL_bound_2 (by decide) ?_
  refine lv_aload_n hx hb dL_bound_3 rfl (lv_at hl 0 rfl) ?_
  refine lv_iload_n hx hb dL_bound_4 rfl (lv_at hl 1 rfl) ?_
  refine lv_iload_n hx hb dL_bound_5 rfl (lv_at hl 2 rfl) ?_
  refine lv_iload_n hx hb dL_bound_6 rfl (lv_at hl 3 rfl) ?_
  refine hy_ft (ex := hy_ex G oa f) (As := [.int x1, .int x2, .int x3]) (rest := [.int 0, .ref oa]) (o := o) cw_fix hA hB w (fun sz => tX9_bound l hlt G sz σ x1 x2 x3 o hf (by rw [ho]; decide)) (cwV 3 hts gL_bound_X9_bound rfl rfl rfl (by decide +kernel) ⟨Nat.le_of_ble_eq_true rfl, Nat.le_of_ble_eq_true rfl⟩) rfl (cwq_0 G σ) rfl hl.1 rfl (Nat.le_of_ble_eq_true rfl) dL_bound_7 ⟨Nat.le_of_ble_eq_true rfl, Nat.le_of_ble_eq_true rfl⟩ (fun ce q9 H locs w h1 h2 h3 => ?_)
  rw [ho] at h3
  have htab := vx_table (x := yL_bound) B (hts (.codeWith yL_bound cL_bound 6 (some .int) [(0, 12, 15, 20), (0, 12, 19, 13), (0, 12, 23, 15)]) List.mem_cons_self)
  refine hx_catch (own := RL) (name := "java/lang/IllegalArgumentException") (E := "java/lang/IllegalArgumentException") hown [⟨0, 12, 15, 20⟩] ⟨0, 12, 19, 13⟩ [⟨0, 12, 23, 15⟩] htab (fun z hz => by
    simp only [List.mem_cons, List.not_mem_nil, or_false] at hz
    rcases hz with rfl
    · exact ⟨by decide, by decide, "java/lang/IndexOutOfBoundsException", hts (.classLink RL 20 "java/lang/IndexOutOfBoundsException") (by decide +kernel), hnp ("java/lang/IllegalArgumentException", "java/lang/IndexOutOfBoundsException") (by decide +kernel)⟩) (by decide) (by decide) (hts (.classLink RL 13 "java/lang/IllegalArgumentException") (by decide +kernel)) (va_Nw.use rfl (hB.2.2.1.2.1.2.2.2.1 "java/lang/IllegalArgumentException" (by decide +kernel))) h1 h2 h3 ?_
  refine lv_astore (lv' := [(5, .ref q9), (0, .ref (G.2.2.2.1 0)), (1, .int x1), (2, .int x2), (3, .int x3), (4, .ref oa)]) hx hb dL_bound_19 hl (by decide) rfl (fun ls hl => ?_)
  refine lv_iconst (v := 2) hx hb dL_bound_21 (by decide) ?_
  exact W.iret hx hb hr (fun t ht hW => ⟨⟨2, (), rfl, rfl, by show va_P _ _ _ t.heap; rw [ht]; exact w.1⟩, w.2.2.F ht⟩) w.2.2.2.2 dL_bound_22
set_option maxHeartbeats 4000000 in
set_option maxRecDepth 100000 in
theorem qL_bound_3 (l : Launch) (hlt : l.stackTraces = false) (G : hy_G) (oa sz : Nat) (σ : hy_S) (f : Nat → Int64) (x1 : Int32) (x2 : Int32) (x3 : Int32) (o : hy_S × Int32 × Nat) (hf : fX9_bound σ x1 x2 x3 = some o) (ho : o.2.2 = 3) : Met l yL_bound wsL_bound ({ frames := 8, cells := 1, slots := 6, locals := 127 }) (va_Pc [.ref (G.2.2.2.1 0), .int x1, .int x2, .int x3, .ref oa] (hy_preX (cw G σ ++ hy_ex G oa f) G sz)) (hy_QX (cw G σ ++ hy_ex G oa f) (cw G o.1 ++ hy_ex G oa f) G sz 3) 1 6 (va_A (cw G σ ++ hy_ex G oa f) sz) := by
  refine va_MetW (cc := cL_bound) (maxL := 6) (ret := some .int) (hh := [(0, 12, 15, 20), (0, 12, 19, 13), (0, 12, 23, 15)]) (by decide +kernel) rfl ?_
  intro p e s m args below meth c s₁ B hml hv
  obtain ⟨rfl, hsz, hP, hK, hD0, hN, hnp⟩ := hv
  have hx := B.exec
  have hb := B.bytes
  have hr := B.returns
  have hts := atoms_spec (ws := wsL_bound) B.pre
  have hown : s.vm.findClass RL = some m.cls := findClass_of_methodNamed B.named
  have hlocks := B.notSynchronized
  subst hsz
  have hD := hD0.self (sz := s.heap.size)
  have hA : ∀ q : Nat, s.heap.size ≤ q → va_A (cw G σ ++ hy_ex G oa f) s.heap.size q := fun q h => Or.inr h
  have hS : va_S (va_A (cw G σ ++ hy_ex G oa f) s.heap.size) s.heap s.heap [] := va_S.rf
  have hl := lv_entry ([.ref (G.2.2.2.1 0), .int x1, .int x2, .int x3, .ref oa]) (n := 6) (Nat.le_of_ble_eq_true rfl)
  rw [lg_entry_eq]
  generalize (lg_sl ([.ref (G.2.2.2.1 0), .int x1, .int x2, .int x3, .ref oa]) ++ List.replicate (6 - (lg_sl ([.ref (G.2.2.2.1 0), .int x1, .int x2, .int x3, .ref oa])).length) Slot.unset).toArray = ls at hl ⊢
  have hl : lv_has ls 6 [(0, .ref (G.2.2.2.1 0)), (1, .int x1), (2, .int x2), (3, .int x3), (4, .ref oa)] := hl
  have hB : hy_B RL cL_bound 6 wsL_bound G (va_A (cw G σ ++ hy_ex G oa f) s.heap.size) p s m _ c := ⟨⟨hx, hb, hml, hown, hts⟩, hK, hN⟩
  have w : hy_wx (cw G σ ++ hy_ex G oa f) G (va_A (cw G σ ++ hy_ex G oa f) s.heap.size) s s.heap [] := ⟨hP, hD, hS⟩
  refine lv_aload hx hb dL_bound_0 (lv_at hl 4 rfl) ?_
  refine lv_iconst (v := 0) hx hb dL_bound_2 (by decide) ?_
  refine lv_aload_n hx hb dL_bound_3 rfl (lv_at hl 0 rfl) ?_
  refine lv_iload_n hx hb dL_bound_4 rfl (lv_at hl 1 rfl) ?_
  refine lv_iload_n hx hb dL_bound_5 rfl (lv_at hl 2 rfl) ?_
  refine lv_iload_n hx hb dL_bound_6 rfl (lv_at hl 3 rfl) ?_
  refine hy_ft (ex := hy_ex G oa f) (As := [.int x1, .int x2, .int x3]) (rest := [.int 0, .ref oa]) (o := o) cw_fix hA hB w (fun sz => tX9_bound l hlt G sz σ x1 x2 x3 o hf (by rw [ho]; decide)) (cwV 3 hts gL_bound_X9_bound rfl rfl rfl (by decide +kernel) ⟨Nat.le_of_ble_eq_true rfl, Nat.le_of_ble_eq_true rfl⟩) rfl (cwq_0 G σ) rfl hl.1 rfl (Nat.le_of_ble_eq_true rfl) dL_bound_7 ⟨Nat.le_of_ble_eq_true rfl, Nat.le_of_ble_eq_true rfl⟩ (fun ce q9 H locs w h1 h2 h3 => ?_)
  rw [ho] at h3
  have htab := vx_table (x := yL_bound) B (hts (.codeWith yL_bound cL_bound 6 (some .int) [(0, 12, 15, 20), (0, 12, 19, 13), (0, 12, 23, 15)]) List.mem_cons_self)
  refine hx_catch (own := RL) (name := "java/lang/UnsupportedOperationException") (E := "java/lang/UnsupportedOperationException") hown [⟨0, 12, 15, 20⟩, ⟨0, 12, 19, 13⟩] ⟨0, 12, 23, 15⟩ [] htab (fun z hz => by
    simp only [List.mem_cons, List.not_mem_nil, or_false] at hz
    rcases hz with rfl | rfl
    · exact ⟨by decide, by decide, "java/lang/IndexOutOfBoundsException", hts (.classLink RL 20 "java/lang/IndexOutOfBoundsException") (by decide +kernel), hnp ("java/lang/UnsupportedOperationException", "java/lang/IndexOutOfBoundsException") (by decide +kernel)⟩
    · exact ⟨by decide, by decide, "java/lang/IllegalArgumentException", hts (.classLink RL 13 "java/lang/IllegalArgumentException") (by decide +kernel), hnp ("java/lang/UnsupportedOperationException", "java/lang/IllegalArgumentException") (by decide +kernel)⟩) (by decide) (by decide) (hts (.classLink RL 15 "java/lang/UnsupportedOperationException") (by decide +kernel)) (va_Nw.use rfl (hB.2.2.1.2.1.2.2.2.1 "java/lang/UnsupportedOperationException" (by decide +kernel))) h1 h2 h3 ?_
  refine lv_astore (lv' := [(5, .ref q9), (0, .ref (G.2.2.2.1 0)), (1, .int x1), (2, .int x2), (3, .int x3), (4, .ref oa)]) hx hb dL_bound_23 hl (by decide) rfl (fun ls hl => ?_)
  refine lv_iconst (v := 3) hx hb dL_bound_25 (by decide) ?_
  exact W.iret hx hb hr (fun t ht hW => ⟨⟨3, (), rfl, rfl, by show va_P _ _ _ t.heap; rw [ht]; exact w.1⟩, w.2.2.F ht⟩) w.2.2.2.2 dL_bound_26
set_option maxHeartbeats 4000000 in
set_option maxRecDepth 100000 in
theorem rL_undo (l : Launch) (G : hy_G) (oa sz : Nat) (σ : hy_S) (f : Nat → Int64) (x1 : Int32) (o : hy_S × Int32 × Nat) (hf : fX9_undo σ x1 = some o) (ho : o.2.2 = 0) : Met l yL_undo wsL_undo ({ frames := 8, cells := 0, slots := 0, locals := 124 }) (va_Pc [.ref (G.2.2.2.1 0), .int x1, .ref oa] (hy_preX (cw G σ ++ hy_ex G oa f) G sz)) (hy_QX (cw G σ ++ hy_ex G oa f) (cw G o.1 ++ hy_ex G oa (vp_updL f (Int32.toNatClampNeg 0) (if o.2.1 = 0 then 0 else 1))) G sz 0) 0 0 (va_A (cw G σ ++ hy_ex G oa f) sz) := by
  refine va_MetW (cc := cL_undo) (maxL := 4) (ret := some .int) (hh := [(0, 16, 19, 20)]) (by decide +kernel) rfl ?_
  intro p e s m args below meth c s₁ B hml hv
  obtain ⟨rfl, hsz, hP, hK, hD0, hN, hnp⟩ := hv
  have hx := B.exec
  have hb := B.bytes
  have hr := B.returns
  have hts := atoms_spec (ws := wsL_undo) B.pre
  have hown : s.vm.findClass RL = some m.cls := findClass_of_methodNamed B.named
  have hlocks := B.notSynchronized
  subst hsz
  have hD := hD0.self (sz := s.heap.size)
  have hA : ∀ q : Nat, s.heap.size ≤ q → va_A (cw G σ ++ hy_ex G oa f) s.heap.size q := fun q h => Or.inr h
  have hS : va_S (va_A (cw G σ ++ hy_ex G oa f) s.heap.size) s.heap s.heap [] := va_S.rf
  have hl := lv_entry ([.ref (G.2.2.2.1 0), .int x1, .ref oa]) (n := 4) (Nat.le_of_ble_eq_true rfl)
  rw [lg_entry_eq]
  generalize (lg_sl ([.ref (G.2.2.2.1 0), .int x1, .ref oa]) ++ List.replicate (4 - (lg_sl ([.ref (G.2.2.2.1 0), .int x1, .ref oa])).length) Slot.unset).toArray = ls at hl ⊢
  have hl : lv_has ls 4 [(0, .ref (G.2.2.2.1 0)), (1, .int x1), (2, .ref oa)] := hl
  have hB : hy_B RL cL_undo 4 wsL_undo G (va_A (cw G σ ++ hy_ex G oa f) s.heap.size) p s m _ c := ⟨⟨hx, hb, hml, hown, hts⟩, hK, hN⟩
  have w : hy_wx (cw G σ ++ hy_ex G oa f) G (va_A (cw G σ ++ hy_ex G oa f) s.heap.size) s s.heap [] := ⟨hP, hD, hS⟩
  refine lv_aload_n hx hb dL_undo_0 rfl (lv_at hl 2 rfl) ?_
  refine lv_iconst (v := 0) hx hb dL_undo_1 (by decide) ?_
  refine lv_aload_n hx hb dL_undo_2 rfl (lv_at hl 0 rfl) ?_
  refine lv_iload_n hx hb dL_undo_3 rfl (lv_at hl 1 rfl) ?_
  refine hy_fv (ex := hy_ex G oa f) (As := [.int x1]) (rest := [.int 0, .ref oa]) (o := (o.1, o.2.1)) cw_fix hA hB w (fun sz => mX9_undo l G sz σ x1 o hf ho) (cwV 1 hts gL_undo_X9_undo rfl rfl rfl (by decide +kernel) ⟨Nat.le_of_ble_eq_true rfl, Nat.le_of_ble_eq_true rfl⟩) rfl (cwq_0 G σ) rfl hl.1 rfl (Nat.le_of_ble_eq_true rfl) dL_undo_4 ⟨Nat.zero_le _, Nat.zero_le _⟩ (fun H locs w => ?_)
  refine lv_if_eq (tgt := 14) hx hb dL_undo_7 (by decide) (fun c1 => ?_) (fun c1 => ?_)
  · rw [if_pos (show o.2.1 = 0 from c1)]
    refine lv_lconst (v := 0) hx hb dL_undo_14 (by decide) ?_
    refine va_last (x := 0) hx hb hB.2.1 w.1 w.2.1 w.2.2 40 3 rfl rfl (by unfold vp_in; decide) dL_undo_15 (fun H locs hP hD hS => ?_)
    refine lv_goto (tgt := 22) hx hb dL_undo_16 (by decide) ?_
    refine lv_iconst (v := 0) hx hb dL_undo_22 (by decide) ?_
    exact W.iret hx hb hr (fun t ht hW => ⟨⟨0, (), rfl, rfl, by show va_P _ _ _ t.heap; rw [ht]; exact hP⟩, hS.F ht⟩) hS.2.2 dL_undo_23
  · rw [if_neg (show ¬ o.2.1 = 0 from c1)]
    refine lv_lconst (v := 1) hx hb dL_undo_10 (by decide) ?_
    refine lv_goto (tgt := 15) hx hb dL_undo_11 (by decide) ?_
    refine va_last (x := 1) hx hb hB.2.1 w.1 w.2.1 w.2.2 40 3 rfl rfl (by unfold vp_in; decide) dL_undo_15 (fun H locs hP hD hS => ?_)
    refine lv_goto (tgt := 22) hx hb dL_undo_16 (by decide) ?_
    refine lv_iconst (v := 0) hx hb dL_undo_22 (by decide) ?_
    exact W.iret hx hb hr (fun t ht hW => ⟨⟨0, (), rfl, rfl, by show va_P _ _ _ t.heap; rw [ht]; exact hP⟩, hS.F ht⟩) hS.2.2 dL_undo_23
set_option maxHeartbeats 4000000 in
set_option maxRecDepth 100000 in
theorem qL_undo_1 (l : Launch) (hlt : l.stackTraces = false) (G : hy_G) (oa sz : Nat) (σ : hy_S) (f : Nat → Int64) (x1 : Int32) (o : hy_S × Int32 × Nat) (hf : fX9_undo σ x1 = some o) (ho : o.2.2 = 1) : Met l yL_undo wsL_undo ({ frames := 8, cells := 1, slots := 6, locals := 124 }) (va_Pc [.ref (G.2.2.2.1 0), .int x1, .ref oa] (hy_preX (cw G σ ++ hy_ex G oa f) G sz)) (hy_QX (cw G σ ++ hy_ex G oa f) (cw G o.1 ++ hy_ex G oa f) G sz 1) 1 6 (va_A (cw G σ ++ hy_ex G oa f) sz) := by
  refine va_MetW (cc := cL_undo) (maxL := 4) (ret := some .int) (hh := [(0, 16, 19, 20)]) (by decide +kernel) rfl ?_
  intro p e s m args below meth c s₁ B hml hv
  obtain ⟨rfl, hsz, hP, hK, hD0, hN, hnp⟩ := hv
  have hx := B.exec
  have hb := B.bytes
  have hr := B.returns
  have hts := atoms_spec (ws := wsL_undo) B.pre
  have hown : s.vm.findClass RL = some m.cls := findClass_of_methodNamed B.named
  have hlocks := B.notSynchronized
  subst hsz
  have hD := hD0.self (sz := s.heap.size)
  have hA : ∀ q : Nat, s.heap.size ≤ q → va_A (cw G σ ++ hy_ex G oa f) s.heap.size q := fun q h => Or.inr h
  have hS : va_S (va_A (cw G σ ++ hy_ex G oa f) s.heap.size) s.heap s.heap [] := va_S.rf
  have hl := lv_entry ([.ref (G.2.2.2.1 0), .int x1, .ref oa]) (n := 4) (Nat.le_of_ble_eq_true rfl)
  rw [lg_entry_eq]
  generalize (lg_sl ([.ref (G.2.2.2.1 0), .int x1, .ref oa]) ++ List.replicate (4 - (lg_sl ([.ref (G.2.2.2.1 0), .int x1, .ref oa])).length) Slot.unset).toArray = ls at hl ⊢
  have hl : lv_has ls 4 [(0, .ref (G.2.2.2.1 0)), (1, .int x1), (2, .ref oa)] := hl
  have hB : hy_B RL cL_undo 4 wsL_undo G (va_A (cw G σ ++ hy_ex G oa f) s.heap.size) p s m _ c := ⟨⟨hx, hb, hml, hown, hts⟩, hK, hN⟩
  have w : hy_wx (cw G σ ++ hy_ex G oa f) G (va_A (cw G σ ++ hy_ex G oa f) s.heap.size) s s.heap [] := ⟨hP, hD, hS⟩
  refine lv_aload_n hx hb dL_undo_0 rfl (lv_at hl 2 rfl) ?_
  refine lv_iconst (v := 0) hx hb dL_undo_1 (by decide) ?_
  refine lv_aload_n hx hb dL_undo_2 rfl (lv_at hl 0 rfl) ?_
  refine lv_iload_n hx hb dL_undo_3 rfl (lv_at hl 1 rfl) ?_
  refine hy_ft (ex := hy_ex G oa f) (As := [.int x1]) (rest := [.int 0, .ref oa]) (o := o) cw_fix hA hB w (fun sz => tX9_undo l hlt G sz σ x1 o hf (by rw [ho]; decide)) (cwV 1 hts gL_undo_X9_undo rfl rfl rfl (by decide +kernel) ⟨Nat.le_of_ble_eq_true rfl, Nat.le_of_ble_eq_true rfl⟩) rfl (cwq_0 G σ) rfl hl.1 rfl (Nat.le_of_ble_eq_true rfl) dL_undo_4 ⟨Nat.le_of_ble_eq_true rfl, Nat.le_of_ble_eq_true rfl⟩ (fun ce q9 H locs w h1 h2 h3 => ?_)
  rw [ho] at h3
  have htab := vx_table (x := yL_undo) B (hts (.codeWith yL_undo cL_undo 4 (some .int) [(0, 16, 19, 20)]) List.mem_cons_self)
  refine hx_catch (own := RL) (name := "java/lang/IndexOutOfBoundsException") (E := "java/lang/IndexOutOfBoundsException") hown [] ⟨0, 16, 19, 20⟩ [] htab (fun z hz => by cases hz) (by decide) (by decide) (hts (.classLink RL 20 "java/lang/IndexOutOfBoundsException") (by decide +kernel)) (va_Nw.use rfl (hB.2.2.1.2.1.2.2.2.1 "java/lang/IndexOutOfBoundsException" (by decide +kernel))) h1 h2 h3 ?_
  refine lv_astore_n (lv' := [(3, .ref q9), (0, .ref (G.2.2.2.1 0)), (1, .int x1), (2, .ref oa)]) hx hb dL_undo_19 rfl hl (by decide) rfl (fun ls hl => ?_)
  refine lv_iconst (v := 1) hx hb dL_undo_20 (by decide) ?_
  exact W.iret hx hb hr (fun t ht hW => ⟨⟨1, (), rfl, rfl, by show va_P _ _ _ t.heap; rw [ht]; exact w.1⟩, w.2.2.F ht⟩) w.2.2.2.2 dL_undo_21
set_option maxHeartbeats 4000000 in
set_option maxRecDepth 100000 in
theorem rL_days (l : Launch) (G : hy_G) (oa sz : Nat) (σ : hy_S) (f : Nat → Int64) (x1 : Int32) (o : hy_S × Int32 × Nat) (hf : fX9_days σ x1 = some o) (ho : o.2.2 = 0) : Met l yL_days wsL_days ({ frames := 8, cells := 0, slots := 0, locals := 125 }) (va_Pc [.ref (G.2.2.2.1 0), .int x1, .ref oa] (hy_preX (cw G σ ++ hy_ex G oa f) G sz)) (hy_QX (cw G σ ++ hy_ex G oa f) (cw G o.1 ++ hy_ex G oa (vp_updL f (Int32.toNatClampNeg 0) o.2.1.toInt64)) G sz 0) 0 0 (va_A (cw G σ ++ hy_ex G oa f) sz) := by
  refine va_MetW (cc := cL_days) (maxL := 4) (ret := some .int) (hh := [(0, 9, 12, 13)]) (by decide +kernel) rfl ?_
  intro p e s m args below meth c s₁ B hml hv
  obtain ⟨rfl, hsz, hP, hK, hD0, hN, hnp⟩ := hv
  have hx := B.exec
  have hb := B.bytes
  have hr := B.returns
  have hts := atoms_spec (ws := wsL_days) B.pre
  have hown : s.vm.findClass RL = some m.cls := findClass_of_methodNamed B.named
  have hlocks := B.notSynchronized
  subst hsz
  have hD := hD0.self (sz := s.heap.size)
  have hA : ∀ q : Nat, s.heap.size ≤ q → va_A (cw G σ ++ hy_ex G oa f) s.heap.size q := fun q h => Or.inr h
  have hS : va_S (va_A (cw G σ ++ hy_ex G oa f) s.heap.size) s.heap s.heap [] := va_S.rf
  have hl := lv_entry ([.ref (G.2.2.2.1 0), .int x1, .ref oa]) (n := 4) (Nat.le_of_ble_eq_true rfl)
  rw [lg_entry_eq]
  generalize (lg_sl ([.ref (G.2.2.2.1 0), .int x1, .ref oa]) ++ List.replicate (4 - (lg_sl ([.ref (G.2.2.2.1 0), .int x1, .ref oa])).length) Slot.unset).toArray = ls at hl ⊢
  have hl : lv_has ls 4 [(0, .ref (G.2.2.2.1 0)), (1, .int x1), (2, .ref oa)] := hl
  have hB : hy_B RL cL_days 4 wsL_days G (va_A (cw G σ ++ hy_ex G oa f) s.heap.size) p s m _ c := ⟨⟨hx, hb, hml, hown, hts⟩, hK, hN⟩
  have w : hy_wx (cw G σ ++ hy_ex G oa f) G (va_A (cw G σ ++ hy_ex G oa f) s.heap.size) s s.heap [] := ⟨hP, hD, hS⟩
  refine lv_aload_n hx hb dL_days_0 rfl (lv_at hl 2 rfl) ?_
  refine lv_iconst (v := 0) hx hb dL_days_1 (by decide) ?_
  refine lv_aload_n hx hb dL_days_2 rfl (lv_at hl 0 rfl) ?_
  refine lv_iload_n hx hb dL_days_3 rfl (lv_at hl 1 rfl) ?_
  refine hy_fv (ex := hy_ex G oa f) (As := [.int x1]) (rest := [.int 0, .ref oa]) (o := (o.1, o.2.1)) cw_fix hA hB w (fun sz => mX9_days l G sz σ x1 o hf ho) (cwV 1 hts gL_days_X9_days rfl rfl rfl (by decide +kernel) ⟨Nat.le_of_ble_eq_true rfl, Nat.le_of_ble_eq_true rfl⟩) rfl (cwq_0 G σ) rfl hl.1 rfl (Nat.le_of_ble_eq_true rfl) dL_days_4 ⟨Nat.zero_le _, Nat.zero_le _⟩ (fun H locs w => ?_)
  refine lv_i2l (v := o.2.1.toInt64) hx hb dL_days_7 rfl ?_
  refine va_last (x := o.2.1.toInt64) hx hb hB.2.1 w.1 w.2.1 w.2.2 40 3 rfl rfl (by unfold vp_in; decide) dL_days_8 (fun H locs hP hD hS => ?_)
  refine lv_goto (tgt := 15) hx hb dL_days_9 (by decide) ?_
  refine lv_iconst (v := 0) hx hb dL_days_15 (by decide) ?_
  exact W.iret hx hb hr (fun t ht hW => ⟨⟨0, (), rfl, rfl, by show va_P _ _ _ t.heap; rw [ht]; exact hP⟩, hS.F ht⟩) hS.2.2 dL_days_16
set_option maxHeartbeats 4000000 in
set_option maxRecDepth 100000 in
theorem qL_days_1 (l : Launch) (hlt : l.stackTraces = false) (G : hy_G) (oa sz : Nat) (σ : hy_S) (f : Nat → Int64) (x1 : Int32) (o : hy_S × Int32 × Nat) (hf : fX9_days σ x1 = some o) (ho : o.2.2 = 2) : Met l yL_days wsL_days ({ frames := 8, cells := 1, slots := 6, locals := 125 }) (va_Pc [.ref (G.2.2.2.1 0), .int x1, .ref oa] (hy_preX (cw G σ ++ hy_ex G oa f) G sz)) (hy_QX (cw G σ ++ hy_ex G oa f) (cw G o.1 ++ hy_ex G oa f) G sz 1) 1 6 (va_A (cw G σ ++ hy_ex G oa f) sz) := by
  refine va_MetW (cc := cL_days) (maxL := 4) (ret := some .int) (hh := [(0, 9, 12, 13)]) (by decide +kernel) rfl ?_
  intro p e s m args below meth c s₁ B hml hv
  obtain ⟨rfl, hsz, hP, hK, hD0, hN, hnp⟩ := hv
  have hx := B.exec
  have hb := B.bytes
  have hr := B.returns
  have hts := atoms_spec (ws := wsL_days) B.pre
  have hown : s.vm.findClass RL = some m.cls := findClass_of_methodNamed B.named
  have hlocks := B.notSynchronized
  subst hsz
  have hD := hD0.self (sz := s.heap.size)
  have hA : ∀ q : Nat, s.heap.size ≤ q → va_A (cw G σ ++ hy_ex G oa f) s.heap.size q := fun q h => Or.inr h
  have hS : va_S (va_A (cw G σ ++ hy_ex G oa f) s.heap.size) s.heap s.heap [] := va_S.rf
  have hl := lv_entry ([.ref (G.2.2.2.1 0), .int x1, .ref oa]) (n := 4) (Nat.le_of_ble_eq_true rfl)
  rw [lg_entry_eq]
  generalize (lg_sl ([.ref (G.2.2.2.1 0), .int x1, .ref oa]) ++ List.replicate (4 - (lg_sl ([.ref (G.2.2.2.1 0), .int x1, .ref oa])).length) Slot.unset).toArray = ls at hl ⊢
  have hl : lv_has ls 4 [(0, .ref (G.2.2.2.1 0)), (1, .int x1), (2, .ref oa)] := hl
  have hB : hy_B RL cL_days 4 wsL_days G (va_A (cw G σ ++ hy_ex G oa f) s.heap.size) p s m _ c := ⟨⟨hx, hb, hml, hown, hts⟩, hK, hN⟩
  have w : hy_wx (cw G σ ++ hy_ex G oa f) G (va_A (cw G σ ++ hy_ex G oa f) s.heap.size) s s.heap [] := ⟨hP, hD, hS⟩
  refine lv_aload_n hx hb dL_days_0 rfl (lv_at hl 2 rfl) ?_
  refine lv_iconst (v := 0) hx hb dL_days_1 (by decide) ?_
  refine lv_aload_n hx hb dL_days_2 rfl (lv_at hl 0 rfl) ?_
  refine lv_iload_n hx hb dL_days_3 rfl (lv_at hl 1 rfl) ?_
  refine hy_ft (ex := hy_ex G oa f) (As := [.int x1]) (rest := [.int 0, .ref oa]) (o := o) cw_fix hA hB w (fun sz => tX9_days l hlt G sz σ x1 o hf (by rw [ho]; decide)) (cwV 1 hts gL_days_X9_days rfl rfl rfl (by decide +kernel) ⟨Nat.le_of_ble_eq_true rfl, Nat.le_of_ble_eq_true rfl⟩) rfl (cwq_0 G σ) rfl hl.1 rfl (Nat.le_of_ble_eq_true rfl) dL_days_4 ⟨Nat.le_of_ble_eq_true rfl, Nat.le_of_ble_eq_true rfl⟩ (fun ce q9 H locs w h1 h2 h3 => ?_)
  rw [ho] at h3
  have htab := vx_table (x := yL_days) B (hts (.codeWith yL_days cL_days 4 (some .int) [(0, 9, 12, 13)]) List.mem_cons_self)
  refine hx_catch (own := RL) (name := "java/lang/IllegalArgumentException") (E := "java/lang/IllegalArgumentException") hown [] ⟨0, 9, 12, 13⟩ [] htab (fun z hz => by cases hz) (by decide) (by decide) (hts (.classLink RL 13 "java/lang/IllegalArgumentException") (by decide +kernel)) (va_Nw.use rfl (hB.2.2.1.2.1.2.2.2.1 "java/lang/IllegalArgumentException" (by decide +kernel))) h1 h2 h3 ?_
  refine lv_astore_n (lv' := [(3, .ref q9), (0, .ref (G.2.2.2.1 0)), (1, .int x1), (2, .ref oa)]) hx hb dL_days_12 rfl hl (by decide) rfl (fun ls hl => ?_)
  refine lv_iconst (v := 1) hx hb dL_days_13 (by decide) ?_
  exact W.iret hx hb hr (fun t ht hW => ⟨⟨1, (), rfl, rfl, by show va_P _ _ _ t.heap; rw [ht]; exact w.1⟩, w.2.2.F ht⟩) w.2.2.2.2 dL_days_14
set_option maxHeartbeats 4000000 in
set_option maxRecDepth 100000 in
theorem rL_span (l : Launch) (G : hy_G) (oa sz : Nat) (σ : hy_S) (f : Nat → Int64) (x1 : Int32) (x2 : Int32) (x3 : Int32) (o : hy_S × Int32 × Nat) (hf : fX9_span σ x1 x2 x3 = some o) (ho : o.2.2 = 0) : Met l yL_span wsL_span ({ frames := 8, cells := 0, slots := 0, locals := 127 }) (va_Pc [.ref (G.2.2.2.1 0), .int x1, .int x2, .int x3, .ref oa] (hy_preX (cw G σ ++ hy_ex G oa f) G sz)) (hy_QX (cw G σ ++ hy_ex G oa f) (cw G o.1 ++ hy_ex G oa (vp_updL f (Int32.toNatClampNeg 0) o.2.1.toInt64)) G sz 0) 0 0 (va_A (cw G σ ++ hy_ex G oa f) sz) := by
  refine va_MetW (cc := cL_span) (maxL := 6) (ret := some .int) (hh := [(0, 12, 15, 20), (0, 12, 19, 43)]) (by decide +kernel) rfl ?_
  intro p e s m args below meth c s₁ B hml hv
  obtain ⟨rfl, hsz, hP, hK, hD0, hN, hnp⟩ := hv
  have hx := B.exec
  have hb := B.bytes
  have hr := B.returns
  have hts := atoms_spec (ws := wsL_span) B.pre
  have hown : s.vm.findClass RL = some m.cls := findClass_of_methodNamed B.named
  have hlocks := B.notSynchronized
  subst hsz
  have hD := hD0.self (sz := s.heap.size)
  have hA : ∀ q : Nat, s.heap.size ≤ q → va_A (cw G σ ++ hy_ex G oa f) s.heap.size q := fun q h => Or.inr h
  have hS : va_S (va_A (cw G σ ++ hy_ex G oa f) s.heap.size) s.heap s.heap [] := va_S.rf
  have hl := lv_entry ([.ref (G.2.2.2.1 0), .int x1, .int x2, .int x3, .ref oa]) (n := 6) (Nat.le_of_ble_eq_true rfl)
  rw [lg_entry_eq]
  generalize (lg_sl ([.ref (G.2.2.2.1 0), .int x1, .int x2, .int x3, .ref oa]) ++ List.replicate (6 - (lg_sl ([.ref (G.2.2.2.1 0), .int x1, .int x2, .int x3, .ref oa])).length) Slot.unset).toArray = ls at hl ⊢
  have hl : lv_has ls 6 [(0, .ref (G.2.2.2.1 0)), (1, .int x1), (2, .int x2), (3, .int x3), (4, .ref oa)] := hl
  have hB : hy_B RL cL_span 6 wsL_span G (va_A (cw G σ ++ hy_ex G oa f) s.heap.size) p s m _ c := ⟨⟨hx, hb, hml, hown, hts⟩, hK, hN⟩
  have w : hy_wx (cw G σ ++ hy_ex G oa f) G (va_A (cw G σ ++ hy_ex G oa f) s.heap.size) s s.heap [] := ⟨hP, hD, hS⟩
  refine lv_aload hx hb dL_span_0 (lv_at hl 4 rfl) ?_
  refine lv_iconst (v := 0) hx hb dL_span_2 (by decide) ?_
  refine lv_aload_n hx hb dL_span_3 rfl (lv_at hl 0 rfl) ?_
  refine lv_iload_n hx hb dL_span_4 rfl (lv_at hl 1 rfl) ?_
  refine lv_iload_n hx hb dL_span_5 rfl (lv_at hl 2 rfl) ?_
  refine lv_iload_n hx hb dL_span_6 rfl (lv_at hl 3 rfl) ?_
  refine hy_fv (ex := hy_ex G oa f) (As := [.int x1, .int x2, .int x3]) (rest := [.int 0, .ref oa]) (o := (o.1, o.2.1)) cw_fix hA hB w (fun sz => mX9_span l G sz σ x1 x2 x3 o hf ho) (cwV 3 hts gL_span_X9_span rfl rfl rfl (by decide +kernel) ⟨Nat.le_of_ble_eq_true rfl, Nat.le_of_ble_eq_true rfl⟩) rfl (cwq_0 G σ) rfl hl.1 rfl (Nat.le_of_ble_eq_true rfl) dL_span_7 ⟨Nat.zero_le _, Nat.zero_le _⟩ (fun H locs w => ?_)
  refine lv_i2l (v := o.2.1.toInt64) hx hb dL_span_10 rfl ?_
  refine va_last (x := o.2.1.toInt64) hx hb hB.2.1 w.1 w.2.1 w.2.2 40 3 rfl rfl (by unfold vp_in; decide) dL_span_11 (fun H locs hP hD hS => ?_)
  refine lv_goto (tgt := 23) hx hb dL_span_12 (by decide) ?_
  refine lv_iconst (v := 0) hx hb dL_span_23 (by decide) ?_
  exact W.iret hx hb hr (fun t ht hW => ⟨⟨0, (), rfl, rfl, by show va_P _ _ _ t.heap; rw [ht]; exact hP⟩, hS.F ht⟩) hS.2.2 dL_span_24
set_option maxHeartbeats 4000000 in
set_option maxRecDepth 100000 in
theorem qL_span_1 (l : Launch) (hlt : l.stackTraces = false) (G : hy_G) (oa sz : Nat) (σ : hy_S) (f : Nat → Int64) (x1 : Int32) (x2 : Int32) (x3 : Int32) (o : hy_S × Int32 × Nat) (hf : fX9_span σ x1 x2 x3 = some o) (ho : o.2.2 = 1) : Met l yL_span wsL_span ({ frames := 8, cells := 1, slots := 6, locals := 127 }) (va_Pc [.ref (G.2.2.2.1 0), .int x1, .int x2, .int x3, .ref oa] (hy_preX (cw G σ ++ hy_ex G oa f) G sz)) (hy_QX (cw G σ ++ hy_ex G oa f) (cw G o.1 ++ hy_ex G oa f) G sz 1) 1 6 (va_A (cw G σ ++ hy_ex G oa f) sz) := by
  refine va_MetW (cc := cL_span) (maxL := 6) (ret := some .int) (hh := [(0, 12, 15, 20), (0, 12, 19, 43)]) (by decide +kernel) rfl ?_
  intro p e s m args below meth c s₁ B hml hv
  obtain ⟨rfl, hsz, hP, hK, hD0, hN, hnp⟩ := hv
  have hx := B.exec
  have hb := B.bytes
  have hr := B.returns
  have hts := atoms_spec (ws := wsL_span) B.pre
  have hown : s.vm.findClass RL = some m.cls := findClass_of_methodNamed B.named
  have hlocks := B.notSynchronized
  subst hsz
  have hD := hD0.self (sz := s.heap.size)
  have hA : ∀ q : Nat, s.heap.size ≤ q → va_A (cw G σ ++ hy_ex G oa f) s.heap.size q := fun q h => Or.inr h
  have hS : va_S (va_A (cw G σ ++ hy_ex G oa f) s.heap.size) s.heap s.heap [] := va_S.rf
  have hl := lv_entry ([.ref (G.2.2.2.1 0), .int x1, .int x2, .int x3, .ref oa]) (n := 6) (Nat.le_of_ble_eq_true rfl)
  rw [lg_entry_eq]
  generalize (lg_sl ([.ref (G.2.2.2.1 0), .int x1, .int x2, .int x3, .ref oa]) ++ List.replicate (6 - (lg_sl ([.ref (G.2.2.2.1 0), .int x1, .int x2, .int x3, .ref oa])).length) Slot.unset).toArray = ls at hl ⊢
  have hl : lv_has ls 6 [(0, .ref (G.2.2.2.1 0)), (1, .int x1), (2, .int x2), (3, .int x3), (4, .ref oa)] := hl
  have hB : hy_B RL cL_span 6 wsL_span G (va_A (cw G σ ++ hy_ex G oa f) s.heap.size) p s m _ c := ⟨⟨hx, hb, hml, hown, hts⟩, hK, hN⟩
  have w : hy_wx (cw G σ ++ hy_ex G oa f) G (va_A (cw G σ ++ hy_ex G oa f) s.heap.size) s s.heap [] := ⟨hP, hD, hS⟩
  refine lv_aload hx hb dL_span_0 (lv_at hl 4 rfl) ?_
  refine lv_iconst (v := 0) hx hb dL_span_2 (by decide) ?_
  refine lv_aload_n hx hb dL_span_3 rfl (lv_at hl 0 rfl) ?_
  refine lv_iload_n hx hb dL_span_4 rfl (lv_at hl 1 rfl) ?_
  refine lv_iload_n hx hb dL_span_5 rfl (lv_at hl 2 rfl) ?_
  refine lv_iload_n hx hb dL_span_6 rfl (lv_at hl 3 rfl) ?_
  refine hy_ft (ex := hy_ex G oa f) (As := [.int x1, .int x2, .int x3]) (rest := [.int 0, .ref oa]) (o := o) cw_fix hA hB w (fun sz => tX9_span l hlt G sz σ x1 x2 x3 o hf (by rw [ho]; decide)) (cwV 3 hts gL_span_X9_span rfl rfl rfl (by decide +kernel) ⟨Nat.le_of_ble_eq_true rfl, Nat.le_of_ble_eq_true rfl⟩) rfl (cwq_0 G σ) rfl hl.1 rfl (Nat.le_of_ble_eq_true rfl) dL_span_7 ⟨Nat.le_of_ble_eq_true rfl, Nat.le_of_ble_eq_true rfl⟩ (fun ce q9 H locs w h1 h2 h3 => ?_)
  rw [ho] at h3
  have htab := vx_table (x := yL_span) B (hts (.codeWith yL_span cL_span 6 (some .int) [(0, 12, 15, 20), (0, 12, 19, 43)]) List.mem_cons_self)
  refine hx_catch (own := RL) (name := "java/lang/IndexOutOfBoundsException") (E := "java/lang/IndexOutOfBoundsException") hown [] ⟨0, 12, 15, 20⟩ [⟨0, 12, 19, 43⟩] htab (fun z hz => by cases hz) (by decide) (by decide) (hts (.classLink RL 20 "java/lang/IndexOutOfBoundsException") (by decide +kernel)) (va_Nw.use rfl (hB.2.2.1.2.1.2.2.2.1 "java/lang/IndexOutOfBoundsException" (by decide +kernel))) h1 h2 h3 ?_
  refine lv_astore (lv' := [(5, .ref q9), (0, .ref (G.2.2.2.1 0)), (1, .int x1), (2, .int x2), (3, .int x3), (4, .ref oa)]) hx hb dL_span_15 hl (by decide) rfl (fun ls hl => ?_)
  refine lv_iconst (v := 1) hx hb dL_span_17 (by decide) ?_
  exact W.iret hx hb hr (fun t ht hW => ⟨⟨1, (), rfl, rfl, by show va_P _ _ _ t.heap; rw [ht]; exact w.1⟩, w.2.2.F ht⟩) w.2.2.2.2 dL_span_18
set_option maxHeartbeats 4000000 in
set_option maxRecDepth 100000 in
theorem qL_span_2 (l : Launch) (hlt : l.stackTraces = false) (G : hy_G) (oa sz : Nat) (σ : hy_S) (f : Nat → Int64) (x1 : Int32) (x2 : Int32) (x3 : Int32) (o : hy_S × Int32 × Nat) (hf : fX9_span σ x1 x2 x3 = some o) (ho : o.2.2 = 4) : Met l yL_span wsL_span ({ frames := 8, cells := 1, slots := 6, locals := 127 }) (va_Pc [.ref (G.2.2.2.1 0), .int x1, .int x2, .int x3, .ref oa] (hy_preX (cw G σ ++ hy_ex G oa f) G sz)) (hy_QX (cw G σ ++ hy_ex G oa f) (cw G o.1 ++ hy_ex G oa f) G sz 2) 1 6 (va_A (cw G σ ++ hy_ex G oa f) sz) := by
  refine va_MetW (cc := cL_span) (maxL := 6) (ret := some .int) (hh := [(0, 12, 15, 20), (0, 12, 19, 43)]) (by decide +kernel) rfl ?_
  intro p e s m args below meth c s₁ B hml hv
  obtain ⟨rfl, hsz, hP, hK, hD0, hN, hnp⟩ := hv
  have hx := B.exec
  have hb := B.bytes
  have hr := B.returns
  have hts := atoms_spec (ws := wsL_span) B.pre
  have hown : s.vm.findClass RL = some m.cls := findClass_of_methodNamed B.named
  have hlocks := B.notSynchronized
  subst hsz
  have hD := hD0.self (sz := s.heap.size)
  have hA : ∀ q : Nat, s.heap.size ≤ q → va_A (cw G σ ++ hy_ex G oa f) s.heap.size q := fun q h => Or.inr h
  have hS : va_S (va_A (cw G σ ++ hy_ex G oa f) s.heap.size) s.heap s.heap [] := va_S.rf
  have hl := lv_entry ([.ref (G.2.2.2.1 0), .int x1, .int x2, .int x3, .ref oa]) (n := 6) (Nat.le_of_ble_eq_true rfl)
  rw [lg_entry_eq]
  generalize (lg_sl ([.ref (G.2.2.2.1 0), .int x1, .int x2, .int x3, .ref oa]) ++ List.replicate (6 - (lg_sl ([.ref (G.2.2.2.1 0), .int x1, .int x2, .int x3, .ref oa])).length) Slot.unset).toArray = ls at hl ⊢
  have hl : lv_has ls 6 [(0, .ref (G.2.2.2.1 0)), (1, .int x1), (2, .int x2), (3, .int x3), (4, .ref oa)] := hl
  have hB : hy_B RL cL_span 6 wsL_span G (va_A (cw G σ ++ hy_ex G oa f) s.heap.size) p s m _ c := ⟨⟨hx, hb, hml, hown, hts⟩, hK, hN⟩
  have w : hy_wx (cw G σ ++ hy_ex G oa f) G (va_A (cw G σ ++ hy_ex G oa f) s.heap.size) s s.heap [] := ⟨hP, hD, hS⟩
  refine lv_aload hx hb dL_span_0 (lv_at hl 4 rfl) ?_
  refine lv_iconst (v := 0) hx hb dL_span_2 (by decide) ?_
  refine lv_aload_n hx hb dL_span_3 rfl (lv_at hl 0 rfl) ?_
  refine lv_iload_n hx hb dL_span_4 rfl (lv_at hl 1 rfl) ?_
  refine lv_iload_n hx hb dL_span_5 rfl (lv_at hl 2 rfl) ?_
  refine lv_iload_n hx hb dL_span_6 rfl (lv_at hl 3 rfl) ?_
  refine hy_ft (ex := hy_ex G oa f) (As := [.int x1, .int x2, .int x3]) (rest := [.int 0, .ref oa]) (o := o) cw_fix hA hB w (fun sz => tX9_span l hlt G sz σ x1 x2 x3 o hf (by rw [ho]; decide)) (cwV 3 hts gL_span_X9_span rfl rfl rfl (by decide +kernel) ⟨Nat.le_of_ble_eq_true rfl, Nat.le_of_ble_eq_true rfl⟩) rfl (cwq_0 G σ) rfl hl.1 rfl (Nat.le_of_ble_eq_true rfl) dL_span_7 ⟨Nat.le_of_ble_eq_true rfl, Nat.le_of_ble_eq_true rfl⟩ (fun ce q9 H locs w h1 h2 h3 => ?_)
  rw [ho] at h3
  have htab := vx_table (x := yL_span) B (hts (.codeWith yL_span cL_span 6 (some .int) [(0, 12, 15, 20), (0, 12, 19, 43)]) List.mem_cons_self)
  refine hx_catch (own := RL) (name := "java/util/NoSuchElementException") (E := "java/util/NoSuchElementException") hown [⟨0, 12, 15, 20⟩] ⟨0, 12, 19, 43⟩ [] htab (fun z hz => by
    simp only [List.mem_cons, List.not_mem_nil, or_false] at hz
    rcases hz with rfl
    · exact ⟨by decide, by decide, "java/lang/IndexOutOfBoundsException", hts (.classLink RL 20 "java/lang/IndexOutOfBoundsException") (by decide +kernel), hnp ("java/util/NoSuchElementException", "java/lang/IndexOutOfBoundsException") (by decide +kernel)⟩) (by decide) (by decide) (hts (.classLink RL 43 "java/util/NoSuchElementException") (by decide +kernel)) (va_Nw.use rfl (hB.2.2.1.2.1.2.2.2.1 "java/util/NoSuchElementException" (by decide +kernel))) h1 h2 h3 ?_
  refine lv_astore (lv' := [(5, .ref q9), (0, .ref (G.2.2.2.1 0)), (1, .int x1), (2, .int x2), (3, .int x3), (4, .ref oa)]) hx hb dL_span_19 hl (by decide) rfl (fun ls hl => ?_)
  refine lv_iconst (v := 2) hx hb dL_span_21 (by decide) ?_
  exact W.iret hx hb hr (fun t ht hW => ⟨⟨2, (), rfl, rfl, by show va_P _ _ _ t.heap; rw [ht]; exact w.1⟩, w.2.2.F ht⟩) w.2.2.2.2 dL_span_22
