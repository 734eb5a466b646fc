set_option maxHeartbeats 4000000 in
set_option maxRecDepth 100000 in
theorem rL_look (l : Launch) (G : hy_G) (oa sz : Nat) (σ : hy_S) (f : Nat → Int64) (x1 : Int32) (x2 : Int32) (o : hy_S × Int32 × Nat) (hf : fX9_look σ x1 x2 = some o) (ho : o.2.2 = 0) : Met l yL_look wsL_look ({ frames := 8, cells := 0, slots := 0, locals := 125 }) (va_Pc [.ref (G.2.2.2.1 0), .int x1, .int x2, .ref oa] (hy_preX (cw G σ ++ hy_ex G oa f) G sz)) (hy_QX (cw G σ ++ hy_ex G oa f) (cw G o.1 ++ hy_ex G oa (vp_updL f (Int32.toNatClampNeg 0) o.2.1.toInt64)) G sz 0) 0 0 (va_A (cw G σ ++ hy_ex G oa f) sz) := by
  refine va_MetW (cc := cL_look) (maxL := 5) (ret := some .int) (hh := [(0, 10, 13, 20), (0, 10, 17, 43)]) (by decide +kernel) rfl ?_
  intro p e s m args below meth c s₁ B hml hv
  obtain ⟨rfl, hsz, hP, hK, hD0, hN, hnp⟩ := hv
  have hx := B.exec
  have hb := B.bytes
  have hr := B.returns
  have hts := atoms_spec (ws := wsL_look) B.pre
  have hown : s.vm.findClass RL = some m.cls := findClass_of_methodNamed B.named
  have hlocks := B.notSynchronized
  subst hsz
  have hD := hD0.self (sz := s.heap.size)
  have hA : ∀ q : Nat, s.heap.size ≤ q → va_A (cw G σ ++ hy_ex G oa f) s.heap.size q := fun q h => Or.inr h
  have hS : va_S (va_A (cw G σ ++ hy_ex G oa f) s.heap.size) s.heap s.heap [] := va_S.rf
  have hl := lv_entry ([.ref (G.2.2.2.1 0), .int x1, .int x2, .ref oa]) (n := 5) (Nat.le_of_ble_eq_true rfl)
  rw [lg_entry_eq]
  generalize (lg_sl ([.ref (G.2.2.2.1 0), .int x1, .int x2, .ref oa]) ++ List.replicate (5 - (lg_sl ([.ref (G.2.2.2.1 0), .int x1, .int x2, .ref oa])).length) Slot.unset).toArray = ls at hl ⊢
  have hl : lv_has ls 5 [(0, .ref (G.2.2.2.1 0)), (1, .int x1), (2, .int x2), (3, .ref oa)] := hl
  have hB : hy_B RL cL_look 5 wsL_look G (va_A (cw G σ ++ hy_ex G oa f) s.heap.size) p s m _ c := ⟨⟨hx, hb, hml, hown, hts⟩, hK, hN⟩
  have w : hy_wx (cw G σ ++ hy_ex G oa f) G (va_A (cw G σ ++ hy_ex G oa f) s.heap.size) s s.heap [] := ⟨hP, hD, hS⟩
  refine lv_aload_n hx hb dL_look_0 rfl (lv_at hl 3 rfl) ?_
  refine lv_iconst (v := 0) hx hb dL_look_1 (by decide) ?_
  refine lv_aload_n hx hb dL_look_2 rfl (lv_at hl 0 rfl) ?_
  refine lv_iload_n hx hb dL_look_3 rfl (lv_at hl 1 rfl) ?_
  refine lv_iload_n hx hb dL_look_4 rfl (lv_at hl 2 rfl) ?_
  refine hy_fv (ex := hy_ex G oa f) (As := [.int x1, .int x2]) (rest := [.int 0, .ref oa]) (o := (o.1, o.2.1)) cw_fix hA hB w (fun sz => mX9_look l G sz σ x1 x2 o hf ho) (cwV 2 hts gL_look_X9_look rfl rfl rfl (by decide +kernel) ⟨Nat.le_of_ble_eq_true rfl, Nat.le_of_ble_eq_true rfl⟩) rfl (cwq_0 G σ) rfl hl.1 rfl (Nat.le_of_ble_eq_true rfl) dL_look_5 ⟨Nat.zero_le _, Nat.zero_le _⟩ (fun H locs w => ?_)
  refine lv_i2l (v := o.2.1.toInt64) hx hb dL_look_8 rfl ?_
  refine va_last (x := o.2.1.toInt64) hx hb hB.2.1 w.1 w.2.1 w.2.2 40 3 rfl rfl (by unfold vp_in; decide) dL_look_9 (fun H locs hP hD hS => ?_)
  refine lv_goto (tgt := 21) hx hb dL_look_10 (by decide) ?_
  refine lv_iconst (v := 0) hx hb dL_look_21 (by decide) ?_
  exact W.iret hx hb hr (fun t ht hW => ⟨⟨0, (), rfl, rfl, by show va_P _ _ _ t.heap; rw [ht]; exact hP⟩, hS.F ht⟩) hS.2.2 dL_look_22
set_option maxHeartbeats 4000000 in
set_option maxRecDepth 100000 in
theorem qL_look_1 (l : Launch) (hlt : l.stackTraces = false) (G : hy_G) (oa sz : Nat) (σ : hy_S) (f : Nat → Int64) (x1 : Int32) (x2 : Int32) (o : hy_S × Int32 × Nat) (hf : fX9_look σ x1 x2 = some o) (ho : o.2.2 = 1) : Met l yL_look wsL_look ({ frames := 8, cells := 1, slots := 6, locals := 125 }) (va_Pc [.ref (G.2.2.2.1 0), .int x1, .int x2, .ref oa] (hy_preX (cw G σ ++ hy_ex G oa f) G sz)) (hy_QX (cw G σ ++ hy_ex G oa f) (cw G o.1 ++ hy_ex G oa f) G sz 1) 1 6 (va_A (cw G σ ++ hy_ex G oa f) sz) := by
  refine va_MetW (cc := cL_look) (maxL := 5) (ret := some .int) (hh := [(0, 10, 13, 20), (0, 10, 17, 43)]) (by decide +kernel) rfl ?_
  intro p e s m args below meth c s₁ B hml hv
  obtain ⟨rfl, hsz, hP, hK, hD0, hN, hnp⟩ := hv
  have hx := B.exec
  have hb := B.bytes
  have hr := B.returns
  have hts := atoms_spec (ws := wsL_look) B.pre
  have hown : s.vm.findClass RL = some m.cls := findClass_of_methodNamed B.named
  have hlocks := B.notSynchronized
  subst hsz
  have hD := hD0.self (sz := s.heap.size)
  have hA : ∀ q : Nat, s.heap.size ≤ q → va_A (cw G σ ++ hy_ex G oa f) s.heap.size q := fun q h => Or.inr h
  have hS : va_S (va_A (cw G σ ++ hy_ex G oa f) s.heap.size) s.heap s.heap [] := va_S.rf
  have hl := lv_entry ([.ref (G.2.2.2.1 0), .int x1, .int x2, .ref oa]) (n := 5) (Nat.le_of_ble_eq_true rfl)
  rw [lg_entry_eq]
  generalize (lg_sl ([.ref (G.2.2.2.1 0), .int x1, .int x2, .ref oa]) ++ List.replicate (5 - (lg_sl ([.ref (G.2.2.2.1 0), .int x1, .int x2, .ref oa])).length) Slot.unset).toArray = ls at hl ⊢
  have hl : lv_has ls 5 [(0, .ref (G.2.2.2.1 0)), (1, .int x1), (2, .int x2), (3, .ref oa)] := hl
  have hB : hy_B RL cL_look 5 wsL_look G (va_A (cw G σ ++ hy_ex G oa f) s.heap.size) p s m _ c := ⟨⟨hx, hb, hml, hown, hts⟩, hK, hN⟩
  have w : hy_wx (cw G σ ++ hy_ex G oa f) G (va_A (cw G σ ++ hy_ex G oa f) s.heap.size) s s.heap [] := ⟨hP, hD, hS⟩
  refine lv_aload_n hx hb dL_look_0 rfl (lv_at hl 3 rfl) ?_
  refine lv_iconst (v := 0) hx hb dL_look_1 (by decide) ?_
  refine lv_aload_n hx hb dL_look_2 rfl (lv_at hl 0 rfl) ?_
  refine lv_iload_n hx hb dL_look_3 rfl (lv_at hl 1 rfl) ?_
  refine lv_iload_n hx hb dL_look_4 rfl (lv_at hl 2 rfl) ?_
  refine hy_ft (ex := hy_ex G oa f) (As := [.int x1, .int x2]) (rest := [.int 0, .ref oa]) (o := o) cw_fix hA hB w (fun sz => tX9_look l hlt G sz σ x1 x2 o hf (by rw [ho]; decide)) (cwV 2 hts gL_look_X9_look rfl rfl rfl (by decide +kernel) ⟨Nat.le_of_ble_eq_true rfl, Nat.le_of_ble_eq_true rfl⟩) rfl (cwq_0 G σ) rfl hl.1 rfl (Nat.le_of_ble_eq_true rfl) dL_look_5 ⟨Nat.le_of_ble_eq_true rfl, Nat.le_of_ble_eq_true rfl⟩ (fun ce q9 H locs w h1 h2 h3 => ?_)
  rw [ho] at h3
  have htab := vx_table (x := yL_look) B (hts (.codeWith yL_look cL_look 5 (some .int) [(0, 10, 13, 20), (0, 10, 17, 43)]) List.mem_cons_self)
  refine hx_catch (own := RL) (name := "java/lang/IndexOutOfBoundsException") (E := "java/lang/IndexOutOfBoundsException") hown [] ⟨0, 10, 13, 20⟩ [⟨0, 10, 17, 43⟩] htab (fun z hz => by cases hz) (by decide) (by decide) (hts (.classLink RL 20 "java/lang/IndexOutOfBoundsException") (by decide +kernel)) (va_Nw.use rfl (hB.2.2.1.2.1.2.2.2.1 "java/lang/IndexOutOfBoundsException" (by decide +kernel))) h1 h2 h3 ?_
  refine lv_astore (lv' := [(4, .ref q9), (0, .ref (G.2.2.2.1 0)), (1, .int x1), (2, .int x2), (3, .ref oa)]) hx hb dL_look_13 hl (by decide) rfl (fun ls hl => ?_)
  refine lv_iconst (v := 1) hx hb dL_look_15 (by decide) ?_
  exact W.iret hx hb hr (fun t ht hW => ⟨⟨1, (), rfl, rfl, by show va_P _ _ _ t.heap; rw [ht]; exact w.1⟩, w.2.2.F ht⟩) w.2.2.2.2 dL_look_16
set_option maxHeartbeats 4000000 in
set_option maxRecDepth 100000 in
theorem qL_look_2 (l : Launch) (hlt : l.stackTraces = false) (G : hy_G) (oa sz : Nat) (σ : hy_S) (f : Nat → Int64) (x1 : Int32) (x2 : Int32) (o : hy_S × Int32 × Nat) (hf : fX9_look σ x1 x2 = some o) (ho : o.2.2 = 4) : Met l yL_look wsL_look ({ frames := 8, cells := 1, slots := 6, locals := 125 }) (va_Pc [.ref (G.2.2.2.1 0), .int x1, .int x2, .ref oa] (hy_preX (cw G σ ++ hy_ex G oa f) G sz)) (hy_QX (cw G σ ++ hy_ex G oa f) (cw G o.1 ++ hy_ex G oa f) G sz 2) 1 6 (va_A (cw G σ ++ hy_ex G oa f) sz) := by
  refine va_MetW (cc := cL_look) (maxL := 5) (ret := some .int) (hh := [(0, 10, 13, 20), (0, 10, 17, 43)]) (by decide +kernel) rfl ?_
  intro p e s m args below meth c s₁ B hml hv
  obtain ⟨rfl, hsz, hP, hK, hD0, hN, hnp⟩ := hv
  have hx := B.exec
  have hb := B.bytes
  have hr := B.returns
  have hts := atoms_spec (ws := wsL_look) B.pre
  have hown : s.vm.findClass RL = some m.cls := findClass_of_methodNamed B.named
  have hlocks := B.notSynchronized
  subst hsz
  have hD := hD0.self (sz := s.heap.size)
  have hA : ∀ q : Nat, s.heap.size ≤ q → va_A (cw G σ ++ hy_ex G oa f) s.heap.size q := fun q h => Or.inr h
  have hS : va_S (va_A (cw G σ ++ hy_ex G oa f) s.heap.size) s.heap s.heap [] := va_S.rf
  have hl := lv_entry ([.ref (G.2.2.2.1 0), .int x1, .int x2, .ref oa]) (n := 5) (Nat.le_of_ble_eq_true rfl)
  rw [lg_entry_eq]
  generalize (lg_sl ([.ref (G.2.2.2.1 0), .int x1, .int x2, .ref oa]) ++ List.replicate (5 - (lg_sl ([.ref (G.2.2.2.1 0), .int x1, .int x2, .ref oa])).length) Slot.unset).toArray = ls at hl ⊢
  have hl : lv_has ls 5 [(0, .ref (G.2.2.2.1 0)), (1, .int x1), (2, .int x2), (3, .ref oa)] := hl
  have hB : hy_B RL cL_look 5 wsL_look G (va_A (cw G σ ++ hy_ex G oa f) s.heap.size) p s m _ c := ⟨⟨hx, hb, hml, hown, hts⟩, hK, hN⟩
  have w : hy_wx (cw G σ ++ hy_ex G oa f) G (va_A (cw G σ ++ hy_ex G oa f) s.heap.size) s s.heap [] := ⟨hP, hD, hS⟩
  refine lv_aload_n hx hb dL_look_0 rfl (lv_at hl 3 rfl) ?_
  refine lv_iconst (v := 0) hx hb dL_look_1 (by decide) ?_
  refine lv_aload_n hx hb dL_look_2 rfl (lv_at hl 0 rfl) ?_
  refine lv_iload_n hx hb dL_look_3 rfl (lv_at hl 1 rfl) ?_
  refine lv_iload_n hx hb dL_look_4 rfl (lv_at hl 2 rfl) ?_
  refine hy_ft (ex := hy_ex G oa f) (As := [.int x1, .int x2]) (rest := [.int 0, .ref oa]) (o := o) cw_fix hA hB w (fun sz => tX9_look l hlt G sz σ x1 x2 o hf (by rw [ho]; decide)) (cwV 2 hts gL_look_X9_look rfl rfl rfl (by decide +kernel) ⟨Nat.le_of_ble_eq_true rfl, Nat.le_of_ble_eq_true rfl⟩) rfl (cwq_0 G σ) rfl hl.1 rfl (Nat.le_of_ble_eq_true rfl) dL_look_5 ⟨Nat.le_of_ble_eq_true rfl, Nat.le_of_ble_eq_true rfl⟩ (fun ce q9 H locs w h1 h2 h3 => ?_)
  rw [ho] at h3
  have htab := vx_table (x := yL_look) B (hts (.codeWith yL_look cL_look 5 (some .int) [(0, 10, 13, 20), (0, 10, 17, 43)]) List.mem_cons_self)
  refine hx_catch (own := RL) (name := "java/util/NoSuchElementException") (E := "java/util/NoSuchElementException") hown [⟨0, 10, 13, 20⟩] ⟨0, 10, 17, 43⟩ [] htab (fun z hz => by
    simp only [List.mem_cons, List.not_mem_nil, or_false] at hz
    rcases hz with rfl
    · exact ⟨by decide, by decide, "java/lang/IndexOutOfBoundsException", hts (.classLink RL 20 "java/lang/IndexOutOfBoundsException") (by decide +kernel), hnp ("java/util/NoSuchElementException", "java/lang/IndexOutOfBoundsException") (by decide +kernel)⟩) (by decide) (by decide) (hts (.classLink RL 43 "java/util/NoSuchElementException") (by decide +kernel)) (va_Nw.use rfl (hB.2.2.1.2.1.2.2.2.1 "java/util/NoSuchElementException" (by decide +kernel))) h1 h2 h3 ?_
  refine lv_astore (lv' := [(4, .ref q9), (0, .ref (G.2.2.2.1 0)), (1, .int x1), (2, .int x2), (3, .ref oa)]) hx hb dL_look_17 hl (by decide) rfl (fun ls hl => ?_)
  refine lv_iconst (v := 2) hx hb dL_look_19 (by decide) ?_
  exact W.iret hx hb hr (fun t ht hW => ⟨⟨2, (), rfl, rfl, by show va_P _ _ _ t.heap; rw [ht]; exact w.1⟩, w.2.2.F ht⟩) w.2.2.2.2 dL_look_20
set_option maxHeartbeats 4000000 in
set_option maxRecDepth 100000 in
theorem rL_stack (l : Launch) (G : hy_G) (oa sz : Nat) (σ : hy_S) (f : Nat → Int64) (x1 : Int32) (x2 : Int32) (x3 : Int32) (o : hy_S × Int32 × Nat) (hf : fX9_stack σ x1 x2 x3 = some o) (ho : o.2.2 = 0) : Met l yL_stack wsL_stack ({ frames := 9, cells := 0, slots := 0, locals := 148 }) (va_Pc [.ref (G.2.2.2.1 0), .int x1, .int x2, .int x3, .ref oa] (hy_preX (cw G σ ++ hy_ex G oa f) G sz)) (hy_QX (cw G σ ++ hy_ex G oa f) (cw G o.1 ++ hy_ex G oa (vp_updL f (Int32.toNatClampNeg 0) o.2.1.toInt64)) G sz 0) 0 0 (va_A (cw G σ ++ hy_ex G oa f) sz) := by
  refine va_MetW (cc := cL_stack) (maxL := 6) (ret := some .int) (hh := [(0, 12, 15, 20)]) (by decide +kernel) rfl ?_
  intro p e s m args below meth c s₁ B hml hv
  obtain ⟨rfl, hsz, hP, hK, hD0, hN, hnp⟩ := hv
  have hx := B.exec
  have hb := B.bytes
  have hr := B.returns
  have hts := atoms_spec (ws := wsL_stack) B.pre
  have hown : s.vm.findClass RL = some m.cls := findClass_of_methodNamed B.named
  have hlocks := B.notSynchronized
  subst hsz
  have hD := hD0.self (sz := s.heap.size)
  have hA : ∀ q : Nat, s.heap.size ≤ q → va_A (cw G σ ++ hy_ex G oa f) s.heap.size q := fun q h => Or.inr h
  have hS : va_S (va_A (cw G σ ++ hy_ex G oa f) s.heap.size) s.heap s.heap [] := va_S.rf
  have hl := lv_entry ([.ref (G.2.2.2.1 0), .int x1, .int x2, .int x3, .ref oa]) (n := 6) (Nat.le_of_ble_eq_true rfl)
  rw [lg_entry_eq]
  generalize (lg_sl ([.ref (G.2.2.2.1 0), .int x1, .int x2, .int x3, .ref oa]) ++ List.replicate (6 - (lg_sl ([.ref (G.2.2.2.1 0), .int x1, .int x2, .int x3, .ref oa])).length) Slot.unset).toArray = ls at hl ⊢
  have hl : lv_has ls 6 [(0, .ref (G.2.2.2.1 0)), (1, .int x1), (2, .int x2), (3, .int x3), (4, .ref oa)] := hl
  have hB : hy_B RL cL_stack 6 wsL_stack G (va_A (cw G σ ++ hy_ex G oa f) s.heap.size) p s m _ c := ⟨⟨hx, hb, hml, hown, hts⟩, hK, hN⟩
  have w : hy_wx (cw G σ ++ hy_ex G oa f) G (va_A (cw G σ ++ hy_ex G oa f) s.heap.size) s s.heap [] := ⟨hP, hD, hS⟩
  refine lv_aload hx hb dL_stack_0 (lv_at hl 4 rfl) ?_
  refine lv_iconst (v := 0) hx hb dL_stack_2 (by decide) ?_
  refine lv_aload_n hx hb dL_stack_3 rfl (lv_at hl 0 rfl) ?_
  refine lv_iload_n hx hb dL_stack_4 rfl (lv_at hl 1 rfl) ?_
  refine lv_iload_n hx hb dL_stack_5 rfl (lv_at hl 2 rfl) ?_
  refine lv_iload_n hx hb dL_stack_6 rfl (lv_at hl 3 rfl) ?_
  refine hy_fv (ex := hy_ex G oa f) (As := [.int x1, .int x2, .int x3]) (rest := [.int 0, .ref oa]) (o := (o.1, o.2.1)) cw_fix hA hB w (fun sz => mX9_stack l G sz σ x1 x2 x3 o hf ho) (cwV 3 hts gL_stack_X9_stack rfl rfl rfl (by decide +kernel) ⟨Nat.le_of_ble_eq_true rfl, Nat.le_of_ble_eq_true rfl⟩) rfl (cwq_0 G σ) rfl hl.1 rfl (Nat.le_of_ble_eq_true rfl) dL_stack_7 ⟨Nat.zero_le _, Nat.zero_le _⟩ (fun H locs w => ?_)
  refine lv_i2l (v := o.2.1.toInt64) hx hb dL_stack_10 rfl ?_
  refine va_last (x := o.2.1.toInt64) hx hb hB.2.1 w.1 w.2.1 w.2.2 40 3 rfl rfl (by unfold vp_in; decide) dL_stack_11 (fun H locs hP hD hS => ?_)
  refine lv_goto (tgt := 19) hx hb dL_stack_12 (by decide) ?_
  refine lv_iconst (v := 0) hx hb dL_stack_19 (by decide) ?_
  exact W.iret hx hb hr (fun t ht hW => ⟨⟨0, (), rfl, rfl, by show va_P _ _ _ t.heap; rw [ht]; exact hP⟩, hS.F ht⟩) hS.2.2 dL_stack_20
set_option maxHeartbeats 4000000 in
set_option maxRecDepth 100000 in
theorem qL_stack_1 (l : Launch) (hlt : l.stackTraces = false) (G : hy_G) (oa sz : Nat) (σ : hy_S) (f : Nat → Int64) (x1 : Int32) (x2 : Int32) (x3 : Int32) (o : hy_S × Int32 × Nat) (hf : fX9_stack σ x1 x2 x3 = some o) (ho : o.2.2 = 1) : Met l yL_stack wsL_stack ({ frames := 9, cells := 1, slots := 6, locals := 148 }) (va_Pc [.ref (G.2.2.2.1 0), .int x1, .int x2, .int x3, .ref oa] (hy_preX (cw G σ ++ hy_ex G oa f) G sz)) (hy_QX (cw G σ ++ hy_ex G oa f) (cw G o.1 ++ hy_ex G oa f) G sz 1) 1 6 (va_A (cw G σ ++ hy_ex G oa f) sz) := by
  refine va_MetW (cc := cL_stack) (maxL := 6) (ret := some .int) (hh := [(0, 12, 15, 20)]) (by decide +kernel) rfl ?_
  intro p e s m args below meth c s₁ B hml hv
  obtain ⟨rfl, hsz, hP, hK, hD0, hN, hnp⟩ := hv
  have hx := B.exec
  have hb := B.bytes
  have hr := B.returns
  have hts := atoms_spec (ws := wsL_stack) B.pre
  have hown : s.vm.findClass RL = some m.cls := findClass_of_methodNamed B.named
  have hlocks := B.notSynchronized
  subst hsz
  have hD := hD0.self (sz := s.heap.size)
  have hA : ∀ q : Nat, s.heap.size ≤ q → va_A (cw G σ ++ hy_ex G oa f) s.heap.size q := fun q h => Or.inr h
  have hS : va_S (va_A (cw G σ ++ hy_ex G oa f) s.heap.size) s.heap s.heap [] := va_S.rf
  have hl := lv_entry ([.ref (G.2.2.2.1 0), .int x1, .int x2, .int x3, .ref oa]) (n := 6) (Nat.le_of_ble_eq_true rfl)
  rw [lg_entry_eq]
  generalize (lg_sl ([.ref (G.2.2.2.1 0), .int x1, .int x2, .int x3, .ref oa]) ++ List.replicate (6 - (lg_sl ([.ref (G.2.2.2.1 0), .int x1, .int x2, .int x3, .ref oa])).length) Slot.unset).toArray = ls at hl ⊢
  have hl : lv_has ls 6 [(0, .ref (G.2.2.2.1 0)), (1, .int x1), (2, .int x2), (3, .int x3), (4, .ref oa)] := hl
  have hB : hy_B RL cL_stack 6 wsL_stack G (va_A (cw G σ ++ hy_ex G oa f) s.heap.size) p s m _ c := ⟨⟨hx, hb, hml, hown, hts⟩, hK, hN⟩
  have w : hy_wx (cw G σ ++ hy_ex G oa f) G (va_A (cw G σ ++ hy_ex G oa f) s.heap.size) s s.heap [] := ⟨hP, hD, hS⟩
  refine lv_aload hx hb dL_stack_0 (lv_at hl 4 rfl) ?_
  refine lv_iconst (v := 0) hx hb dL_stack_2 (by decide) ?_
  refine lv_aload_n hx hb dL_stack_3 rfl (lv_at hl 0 rfl) ?_
  refine lv_iload_n hx hb dL_stack_4 rfl (lv_at hl 1 rfl) ?_
  refine lv_iload_n hx hb dL_stack_5 rfl (lv_at hl 2 rfl) ?_
  refine lv_iload_n hx hb dL_stack_6 rfl (lv_at hl 3 rfl) ?_
  refine hy_ft (ex := hy_ex G oa f) (As := [.int x1, .int x2, .int x3]) (rest := [.int 0, .ref oa]) (o := o) cw_fix hA hB w (fun sz => tX9_stack l hlt G sz σ x1 x2 x3 o hf (by rw [ho]; decide)) (cwV 3 hts gL_stack_X9_stack rfl rfl rfl (by decide +kernel) ⟨Nat.le_of_ble_eq_true rfl, Nat.le_of_ble_eq_true rfl⟩) rfl (cwq_0 G σ) rfl hl.1 rfl (Nat.le_of_ble_eq_true rfl) dL_stack_7 ⟨Nat.le_of_ble_eq_true rfl, Nat.le_of_ble_eq_true rfl⟩ (fun ce q9 H locs w h1 h2 h3 => ?_)
  rw [ho] at h3
  have htab := vx_table (x := yL_stack) B (hts (.codeWith yL_stack cL_stack 6 (some .int) [(0, 12, 15, 20)]) List.mem_cons_self)
  refine hx_catch (own := RL) (name := "java/lang/IndexOutOfBoundsException") (E := "java/lang/IndexOutOfBoundsException") hown [] ⟨0, 12, 15, 20⟩ [] htab (fun z hz => by cases hz) (by decide) (by decide) (hts (.classLink RL 20 "java/lang/IndexOutOfBoundsException") (by decide +kernel)) (va_Nw.use rfl (hB.2.2.1.2.1.2.2.2.1 "java/lang/IndexOutOfBoundsException" (by decide +kernel))) h1 h2 h3 ?_
  refine lv_astore (lv' := [(5, .ref q9), (0, .ref (G.2.2.2.1 0)), (1, .int x1), (2, .int x2), (3, .int x3), (4, .ref oa)]) hx hb dL_stack_15 hl (by decide) rfl (fun ls hl => ?_)
  refine lv_iconst (v := 1) hx hb dL_stack_17 (by decide) ?_
  exact W.iret hx hb hr (fun t ht hW => ⟨⟨1, (), rfl, rfl, by show va_P _ _ _ t.heap; rw [ht]; exact w.1⟩, w.2.2.F ht⟩) w.2.2.2.2 dL_stack_18
set_option maxHeartbeats 4000000 in
set_option maxRecDepth 100000 in
theorem rL_tallest (l : Launch) (G : hy_G) (oa sz : Nat) (σ : hy_S) (f : Nat → Int64) (x1 : Int32) (o : hy_S × Int32 × Nat) (hf : fX9_tallest σ x1 = some o) (ho : o.2.2 = 0) : Met l yL_tallest wsL_tallest ({ frames := 8, cells := 0, slots := 0, locals := 125 }) (va_Pc [.ref (G.2.2.2.1 0), .int x1, .ref oa] (hy_preX (cw G σ ++ hy_ex G oa f) G sz)) (hy_QX (cw G σ ++ hy_ex G oa f) (cw G o.1 ++ hy_ex G oa (vp_updL f (Int32.toNatClampNeg 0) o.2.1.toInt64)) G sz 0) 0 0 (va_A (cw G σ ++ hy_ex G oa f) sz) := by
  refine va_MetW (cc := cL_tallest) (maxL := 4) (ret := some .int) (hh := [(0, 9, 12, 13)]) (by decide +kernel) rfl ?_
  intro p e s m args below meth c s₁ B hml hv
  obtain ⟨rfl, hsz, hP, hK, hD0, hN, hnp⟩ := hv
  have hx := B.exec
  have hb := B.bytes
  have hr := B.returns
  have hts := atoms_spec (ws := wsL_tallest) B.pre
  have hown : s.vm.findClass RL = some m.cls := findClass_of_methodNamed B.named
  have hlocks := B.notSynchronized
  subst hsz
  have hD := hD0.self (sz := s.heap.size)
  have hA : ∀ q : Nat, s.heap.size ≤ q → va_A (cw G σ ++ hy_ex G oa f) s.heap.size q := fun q h => Or.inr h
  have hS : va_S (va_A (cw G σ ++ hy_ex G oa f) s.heap.size) s.heap s.heap [] := va_S.rf
  have hl := lv_entry ([.ref (G.2.2.2.1 0), .int x1, .ref oa]) (n := 4) (Nat.le_of_ble_eq_true rfl)
  rw [lg_entry_eq]
  generalize (lg_sl ([.ref (G.2.2.2.1 0), .int x1, .ref oa]) ++ List.replicate (4 - (lg_sl ([.ref (G.2.2.2.1 0), .int x1, .ref oa])).length) Slot.unset).toArray = ls at hl ⊢
  have hl : lv_has ls 4 [(0, .ref (G.2.2.2.1 0)), (1, .int x1), (2, .ref oa)] := hl
  have hB : hy_B RL cL_tallest 4 wsL_tallest G (va_A (cw G σ ++ hy_ex G oa f) s.heap.size) p s m _ c := ⟨⟨hx, hb, hml, hown, hts⟩, hK, hN⟩
  have w : hy_wx (cw G σ ++ hy_ex G oa f) G (va_A (cw G σ ++ hy_ex G oa f) s.heap.size) s s.heap [] := ⟨hP, hD, hS⟩
  refine lv_aload_n hx hb dL_tallest_0 rfl (lv_at hl 2 rfl) ?_
  refine lv_iconst (v := 0) hx hb dL_tallest_1 (by decide) ?_
  refine lv_aload_n hx hb dL_tallest_2 rfl (lv_at hl 0 rfl) ?_
  refine lv_iload_n hx hb dL_tallest_3 rfl (lv_at hl 1 rfl) ?_
  refine hy_fv (ex := hy_ex G oa f) (As := [.int x1]) (rest := [.int 0, .ref oa]) (o := (o.1, o.2.1)) cw_fix hA hB w (fun sz => mX9_tallest l G sz σ x1 o hf ho) (cwV 1 hts gL_tallest_X9_tallest rfl rfl rfl (by decide +kernel) ⟨Nat.le_of_ble_eq_true rfl, Nat.le_of_ble_eq_true rfl⟩) rfl (cwq_0 G σ) rfl hl.1 rfl (Nat.le_of_ble_eq_true rfl) dL_tallest_4 ⟨Nat.zero_le _, Nat.zero_le _⟩ (fun H locs w => ?_)
  refine lv_i2l (v := o.2.1.toInt64) hx hb dL_tallest_7 rfl ?_
  refine va_last (x := o.2.1.toInt64) hx hb hB.2.1 w.1 w.2.1 w.2.2 40 3 rfl rfl (by unfold vp_in; decide) dL_tallest_8 (fun H locs hP hD hS => ?_)
  refine lv_goto (tgt := 15) hx hb dL_tallest_9 (by decide) ?_
  refine lv_iconst (v := 0) hx hb dL_tallest_15 (by decide) ?_
  exact W.iret hx hb hr (fun t ht hW => ⟨⟨0, (), rfl, rfl, by show va_P _ _ _ t.heap; rw [ht]; exact hP⟩, hS.F ht⟩) hS.2.2 dL_tallest_16
set_option maxHeartbeats 4000000 in
set_option maxRecDepth 100000 in
theorem qL_tallest_1 (l : Launch) (hlt : l.stackTraces = false) (G : hy_G) (oa sz : Nat) (σ : hy_S) (f : Nat → Int64) (x1 : Int32) (o : hy_S × Int32 × Nat) (hf : fX9_tallest σ x1 = some o) (ho : o.2.2 = 2) : Met l yL_tallest wsL_tallest ({ frames := 8, cells := 1, slots := 6, locals := 125 }) (va_Pc [.ref (G.2.2.2.1 0), .int x1, .ref oa] (hy_preX (cw G σ ++ hy_ex G oa f) G sz)) (hy_QX (cw G σ ++ hy_ex G oa f) (cw G o.1 ++ hy_ex G oa f) G sz 1) 1 6 (va_A (cw G σ ++ hy_ex G oa f) sz) := by
  refine va_MetW (cc := cL_tallest) (maxL := 4) (ret := some .int) (hh := [(0, 9, 12, 13)]) (by decide +kernel) rfl ?_
  intro p e s m args below meth c s₁ B hml hv
  obtain ⟨rfl, hsz, hP, hK, hD0, hN, hnp⟩ := hv
  have hx := B.exec
  have hb := B.bytes
  have hr := B.returns
  have hts := atoms_spec (ws := wsL_tallest) B.pre
  have hown : s.vm.findClass RL = some m.cls := findClass_of_methodNamed B.named
  have hlocks := B.notSynchronized
  subst hsz
  have hD := hD0.self (sz := s.heap.size)
  have hA : ∀ q : Nat, s.heap.size ≤ q → va_A (cw G σ ++ hy_ex G oa f) s.heap.size q := fun q h => Or.inr h
  have hS : va_S (va_A (cw G σ ++ hy_ex G oa f) s.heap.size) s.heap s.heap [] := va_S.rf
  have hl := lv_entry ([.ref (G.2.2.2.1 0), .int x1, .ref oa]) (n := 4) (Nat.le_of_ble_eq_true rfl)
  rw [lg_entry_eq]
  generalize (lg_sl ([.ref (G.2.2.2.1 0), .int x1, .ref oa]) ++ List.replicate (4 - (lg_sl ([.ref (G.2.2.2.1 0), .int x1, .ref oa])).length) Slot.unset).toArray = ls at hl ⊢
  have hl : lv_has ls 4 [(0, .ref (G.2.2.2.1 0)), (1, .int x1), (2, .ref oa)] := hl
  have hB : hy_B RL cL_tallest 4 wsL_tallest G (va_A (cw G σ ++ hy_ex G oa f) s.heap.size) p s m _ c := ⟨⟨hx, hb, hml, hown, hts⟩, hK, hN⟩
  have w : hy_wx (cw G σ ++ hy_ex G oa f) G (va_A (cw G σ ++ hy_ex G oa f) s.heap.size) s s.heap [] := ⟨hP, hD, hS⟩
  refine lv_aload_n hx hb dL_tallest_0 rfl (lv_at hl 2 rfl) ?_
  refine lv_iconst (v := 0) hx hb dL_tallest_1 (by decide) ?_
  refine lv_aload_n hx hb dL_tallest_2 rfl (lv_at hl 0 rfl) ?_
  refine lv_iload_n hx hb dL_tallest_3 rfl (lv_at hl 1 rfl) ?_
  refine hy_ft (ex := hy_ex G oa f) (As := [.int x1]) (rest := [.int 0, .ref oa]) (o := o) cw_fix hA hB w (fun sz => tX9_tallest l hlt G sz σ x1 o hf (by rw [ho]; decide)) (cwV 1 hts gL_tallest_X9_tallest rfl rfl rfl (by decide +kernel) ⟨Nat.le_of_ble_eq_true rfl, Nat.le_of_ble_eq_true rfl⟩) rfl (cwq_0 G σ) rfl hl.1 rfl (Nat.le_of_ble_eq_true rfl) dL_tallest_4 ⟨Nat.le_of_ble_eq_true rfl, Nat.le_of_ble_eq_true rfl⟩ (fun ce q9 H locs w h1 h2 h3 => ?_)
  rw [ho] at h3
  have htab := vx_table (x := yL_tallest) B (hts (.codeWith yL_tallest cL_tallest 4 (some .int) [(0, 9, 12, 13)]) List.mem_cons_self)
  refine hx_catch (own := RL) (name := "java/lang/IllegalArgumentException") (E := "java/lang/IllegalArgumentException") hown [] ⟨0, 9, 12, 13⟩ [] htab (fun z hz => by cases hz) (by decide) (by decide) (hts (.classLink RL 13 "java/lang/IllegalArgumentException") (by decide +kernel)) (va_Nw.use rfl (hB.2.2.1.2.1.2.2.2.1 "java/lang/IllegalArgumentException" (by decide +kernel))) h1 h2 h3 ?_
  refine lv_astore_n (lv' := [(3, .ref q9), (0, .ref (G.2.2.2.1 0)), (1, .int x1), (2, .ref oa)]) hx hb dL_tallest_12 rfl hl (by decide) rfl (fun ls hl => ?_)
  refine lv_iconst (v := 1) hx hb dL_tallest_13 (by decide) ?_
  exact W.iret hx hb hr (fun t ht hW => ⟨⟨1, (), rfl, rfl, by show va_P _ _ _ t.heap; rw [ht]; exact w.1⟩, w.2.2.F ht⟩) w.2.2.2.2 dL_tallest_14
set_option maxHeartbeats 4000000 in
set_option maxRecDepth 100000 in
theorem rL_check (l : Launch) (G : hy_G) (oa sz : Nat) (σ : hy_S) (f : Nat → Int64) (x1 : Int32) (o : hy_S × Int32 × Nat) (hf : fX9_check σ x1 = some o) (ho : o.2.2 = 0) : Met l yL_check wsL_check ({ frames := 8, cells := 0, slots := 0, locals := 157 }) (va_Pc [.ref (G.2.2.2.1 0), .int x1, .ref oa] (hy_preX (cw G σ ++ hy_ex G oa f) G sz)) (hy_QX (cw G σ ++ hy_ex G oa f) (cw G o.1 ++ hy_ex G oa (vp_updL f (Int32.toNatClampNeg 0) o.2.1.toInt64)) G sz 0) 0 0 (va_A (cw G σ ++ hy_ex G oa f) sz) := by
  refine va_MetW (cc := cL_check) (maxL := 4) (ret := some .int) (hh := [(0, 9, 12, 20), (0, 9, 15, 13)]) (by decide +kernel) rfl ?_
  intro p e s m args below meth c s₁ B hml hv
  obtain ⟨rfl, hsz, hP, hK, hD0, hN, hnp⟩ := hv
  have hx := B.exec
  have hb := B.bytes
  have hr := B.returns
  have hts := atoms_spec (ws := wsL_check) B.pre
  have hown : s.vm.findClass RL = some m.cls := findClass_of_methodNamed B.named
  have hlocks := B.notSynchronized
  subst hsz
  have hD := hD0.self (sz := s.heap.size)
  have hA : ∀ q : Nat, s.heap.size ≤ q → va_A (cw G σ ++ hy_ex G oa f) s.heap.size q := fun q h => Or.inr h
  have hS : va_S (va_A (cw G σ ++ hy_ex G oa f) s.heap.size) s.heap s.heap [] := va_S.rf
  have hl := lv_entry ([.ref (G.2.2.2.1 0), .int x1, .ref oa]) (n := 4) (Nat.le_of_ble_eq_true rfl)
  rw [lg_entry_eq]
  generalize (lg_sl ([.ref (G.2.2.2.1 0), .int x1, .ref oa]) ++ List.replicate (4 - (lg_sl ([.ref (G.2.2.2.1 0), .int x1, .ref oa])).length) Slot.unset).toArray = ls at hl ⊢
  have hl : lv_has ls 4 [(0, .ref (G.2.2.2.1 0)), (1, .int x1), (2, .ref oa)] := hl
  have hB : hy_B RL cL_check 4 wsL_check G (va_A (cw G σ ++ hy_ex G oa f) s.heap.size) p s m _ c := ⟨⟨hx, hb, hml, hown, hts⟩, hK, hN⟩
  have w : hy_wx (cw G σ ++ hy_ex G oa f) G (va_A (cw G σ ++ hy_ex G oa f) s.heap.size) s s.heap [] := ⟨hP, hD, hS⟩
  refine lv_aload_n hx hb dL_check_0 rfl (lv_at hl 2 rfl) ?_
  refine lv_iconst (v := 0) hx hb dL_check_1 (by decide) ?_
  refine lv_aload_n hx hb dL_check_2 rfl (lv_at hl 0 rfl) ?_
  refine lv_iload_n hx hb dL_check_3 rfl (lv_at hl 1 rfl) ?_
  refine hy_fv (ex := hy_ex G oa f) (As := [.int x1]) (rest := [.int 0, .ref oa]) (o := (o.1, o.2.1)) cw_fix hA hB w (fun sz => mX9_check l G sz σ x1 o hf ho) (cwV 1 hts gL_check_X9_check rfl rfl rfl (by decide +kernel) ⟨Nat.le_of_ble_eq_true rfl, Nat.le_of_ble_eq_true rfl⟩) rfl (cwq_0 G σ) rfl hl.1 rfl (Nat.le_of_ble_eq_true rfl) dL_check_4 ⟨Nat.zero_le _, Nat.zero_le _⟩ (fun H locs w => ?_)
  refine lv_i2l (v := o.2.1.toInt64) hx hb dL_check_7 rfl ?_
  refine va_last (x := o.2.1.toInt64) hx hb hB.2.1 w.1 w.2.1 w.2.2 40 3 rfl rfl (by unfold vp_in; decide) dL_check_8 (fun H locs hP hD hS => ?_)
  refine lv_goto (tgt := 18) hx hb dL_check_9 (by decide) ?_
  refine lv_iconst (v := 0) hx hb dL_check_18 (by decide) ?_
  exact W.iret hx hb hr (fun t ht hW => ⟨⟨0, (), rfl, rfl, by show va_P _ _ _ t.heap; rw [ht]; exact hP⟩, hS.F ht⟩) hS.2.2 dL_check_19
set_option maxHeartbeats 4000000 in
set_option maxRecDepth 100000 in
theorem qL_check_1 (l : Launch) (hlt : l.stackTraces = false) (G : hy_G) (oa sz : Nat) (σ : hy_S) (f : Nat → Int64) (x1 : Int32) (o : hy_S × Int32 × Nat) (hf : fX9_check σ x1 = some o) (ho : o.2.2 = 1) : Met l yL_check wsL_check ({ frames := 8, cells := 1, slots := 6, locals := 157 }) (va_Pc [.ref (G.2.2.2.1 0), .int x1, .ref oa] (hy_preX (cw G σ ++ hy_ex G oa f) G sz)) (hy_QX (cw G σ ++ hy_ex G oa f) (cw G o.1 ++ hy_ex G oa f) G sz 1) 1 6 (va_A (cw G σ ++ hy_ex G oa f) sz) := by
  refine va_MetW (cc := cL_check) (maxL := 4) (ret := some .int) (hh := [(0, 9, 12, 20), (0, 9, 15, 13)]) (by decide +kernel) rfl ?_
  intro p e s m args below meth c s₁ B hml hv
  obtain ⟨rfl, hsz, hP, hK, hD0, hN, hnp⟩ := hv
  have hx := B.exec
  have hb := B.bytes
  have hr := B.returns
  have hts := atoms_spec (ws := wsL_check) B.pre
  have hown : s.vm.findClass RL = some m.cls := findClass_of_methodNamed B.named
  have hlocks := B.notSynchronized
  subst hsz
  have hD := hD0.self (sz := s.heap.size)
  have hA : ∀ q : Nat, s.heap.size ≤ q → va_A (cw G σ ++ hy_ex G oa f) s.heap.size q := fun q h => Or.inr h
  have hS : va_S (va_A (cw G σ ++ hy_ex G oa f) s.heap.size) s.heap s.heap [] := va_S.rf
  have hl := lv_entry ([.ref (G.2.2.2.1 0), .int x1, .ref oa]) (n := 4) (Nat.le_of_ble_eq_true rfl)
  rw [lg_entry_eq]
  generalize (lg_sl ([.ref (G.2.2.2.1 0), .int x1, .ref oa]) ++ List.replicate (4 - (lg_sl ([.ref (G.2.2.2.1 0), .int x1, .ref oa])).length) Slot.unset).toArray = ls at hl ⊢
  have hl : lv_has ls 4 [(0, .ref (G.2.2.2.1 0)), (1, .int x1), (2, .ref oa)] := hl
  have hB : hy_B RL cL_check 4 wsL_check G (va_A (cw G σ ++ hy_ex G oa f) s.heap.size) p s m _ c := ⟨⟨hx, hb, hml, hown, hts⟩, hK, hN⟩
  have w : hy_wx (cw G σ ++ hy_ex G oa f) G (va_A (cw G σ ++ hy_ex G oa f) s.heap.size) s s.heap [] := ⟨hP, hD, hS⟩
  refine lv_aload_n hx hb dL_check_0 rfl (lv_at hl 2 rfl) ?_
  refine lv_iconst (v := 0) hx hb dL_check_1 (by decide) ?_
  refine lv_aload_n hx hb dL_check_2 rfl (lv_at hl 0 rfl) ?_
  refine lv_iload_n hx hb dL_check_3 rfl (lv_at hl 1 rfl) ?_
  refine hy_ft (ex := hy_ex G oa f) (As := [.int x1]) (rest := [.int 0, .ref oa]) (o := o) cw_fix hA hB w (fun sz => tX9_check l hlt G sz σ x1 o hf (by rw [ho]; decide)) (cwV 1 hts gL_check_X9_check rfl rfl rfl (by decide +kernel) ⟨Nat.le_of_ble_eq_true rfl, Nat.le_of_ble_eq_true rfl⟩) rfl (cwq_0 G σ) rfl hl.1 rfl (Nat.le_of_ble_eq_true rfl) dL_check_4 ⟨Nat.le_of_ble_eq_true rfl, Nat.le_of_ble_eq_true rfl⟩ (fun ce q9 H locs w h1 h2 h3 => ?_)
  rw [ho] at h3
  have htab := vx_table (x := yL_check) B (hts (.codeWith yL_check cL_check 4 (some .int) [(0, 9, 12, 20), (0, 9, 15, 13)]) List.mem_cons_self)
  refine hx_catch (own := RL) (name := "java/lang/IndexOutOfBoundsException") (E := "java/lang/IndexOutOfBoundsException") hown [] ⟨0, 9, 12, 20⟩ [⟨0, 9, 15, 13⟩] htab (fun z hz => by cases hz) (by decide) (by decide) (hts (.classLink RL 20 "java/lang/IndexOutOfBoundsException") (by decide +kernel)) (va_Nw.use rfl (hB.2.2.1.2.1.2.2.2.1 "java/lang/IndexOutOfBoundsException" (by decide +kernel))) h1 h2 h3 ?_
  refine lv_astore_n (lv' := [(3, .ref q9), (0, .ref (G.2.2.2.1 0)), (1, .int x1), (2, .ref oa)]) hx hb dL_check_12 rfl hl (by decide) rfl (fun ls hl => ?_)
  refine lv_iconst (v := 1) hx hb dL_check_13 (by decide) ?_
  exact W.iret hx hb hr (fun t ht hW => ⟨⟨1, (), rfl, rfl, by show va_P _ _ _ t.heap; rw [ht]; exact w.1⟩, w.2.2.F ht⟩) w.2.2.2.2 dL_check_14
set_option maxHeartbeats 4000000 in
set_option maxRecDepth 100000 in
theorem qL_check_2 (l : Launch) (hlt : l.stackTraces = false) (G : hy_G) (oa sz : Nat) (σ : hy_S) (f : Nat → Int64) (x1 : Int32) (o : hy_S × Int32 × Nat) (hf : fX9_check σ x1 = some o) (ho : o.2.2 = 2) : Met l yL_check wsL_check ({ frames := 8, cells := 1, slots := 6, locals := 157 }) (va_Pc [.ref (G.2.2.2.1 0), .int x1, .ref oa] (hy_preX (cw G σ ++ hy_ex G oa f) G sz)) (hy_QX (cw G σ ++ hy_ex G oa f) (cw G o.1 ++ hy_ex G oa f) G sz 2) 1 6 (va_A (cw G σ ++ hy_ex G oa f) sz) := by
  refine va_MetW (cc := cL_check) (maxL := 4) (ret := some .int) (hh := [(0, 9, 12, 20), (0, 9, 15, 13)]) (by decide +kernel) rfl ?_
  intro p e s m args below meth c s₁ B hml hv
  obtain ⟨rfl, hsz, hP, hK, hD0, hN, hnp⟩ := hv
  have hx := B.exec
  have hb := B.bytes
  have hr := B.returns
  have hts := atoms_spec (ws := wsL_check) B.pre
  have hown : s.vm.findClass RL = some m.cls := findClass_of_methodNamed B.named
  have hlocks := B.notSynchronized
  subst hsz
  have hD := hD0.self (sz := s.heap.size)
  have hA : ∀ q : Nat, s.heap.size ≤ q → va_A (cw G σ ++ hy_ex G oa f) s.heap.size q := fun q h => Or.inr h
  have hS : va_S (va_A (cw G σ ++ hy_ex G oa f) s.heap.size) s.heap s.heap [] := va_S.rf
  have hl := lv_entry ([.ref (G.2.2.2.1 0), .int x1, .ref oa]) (n := 4) (Nat.le_of_ble_eq_true rfl)
  rw [lg_entry_eq]
  generalize (lg_sl ([.ref (G.2.2.2.1 0), .int x1, .ref oa]) ++ List.replicate (4 - (lg_sl ([.ref (G.2.2.2.1 0), .int x1, .ref oa])).length) Slot.unset).toArray = ls at hl ⊢
  have hl : lv_has ls 4 [(0, .ref (G.2.2.2.1 0)), (1, .int x1), (2, .ref oa)] := hl
  have hB : hy_B RL cL_check 4 wsL_check G (va_A (cw G σ ++ hy_ex G oa f) s.heap.size) p s m _ c := ⟨⟨hx, hb, hml, hown, hts⟩, hK, hN⟩
  have w : hy_wx (cw G σ ++ hy_ex G oa f) G (va_A (cw G σ ++ hy_ex G oa f) s.heap.size) s s.heap [] := ⟨hP, hD, hS⟩
  refine lv_aload_n hx hb dL_check_0 rfl (lv_at hl 2 rfl) ?_
  refine lv_iconst (v := 0) hx hb dL_check_1 (by decide) ?_
  refine lv_aload_n hx hb dL_check_2 rfl (lv_at hl 0 rfl) ?_
  refine lv_iload_n hx hb dL_check_3 rfl (lv_at hl 1 rfl) ?_
  refine hy_ft (ex := hy_ex G oa f) (As := [.int x1]) (rest := [.int 0, .ref oa]) (o := o) cw_fix hA hB w (fun sz => tX9_check l hlt G sz σ x1 o hf (by rw [ho]; decide)) (cwV 1 hts gL_check_X9_check rfl rfl rfl (by decide +kernel) ⟨Nat.le_of_ble_eq_true rfl, Nat.le_of_ble_eq_true rfl⟩) rfl (cwq_0 G σ) rfl hl.1 rfl (Nat.le_of_ble_eq_true rfl) dL_check_4 ⟨Nat.le_of_ble_eq_true rfl, Nat.le_of_ble_eq_true rfl⟩ (fun ce q9 H locs w h1 h2 h3 => ?_)
  rw [ho] at h3
  have htab := vx_table (x := yL_check) B (hts (.codeWith yL_check cL_check 4 (some .int) [(0, 9, 12, 20), (0, 9, 15, 13)]) List.mem_cons_self)
  refine hx_catch (own := RL) (name := "java/lang/IllegalArgumentException") (E := "java/lang/IllegalArgumentException") hown [⟨0, 9, 12, 20⟩] ⟨0, 9, 15, 13⟩ [] htab (fun z hz => by
    simp only [List.mem_cons, List.not_mem_nil, or_false] at hz
    rcases hz with rfl
    · exact ⟨by decide, by decide, "java/lang/IndexOutOfBoundsException", hts (.classLink RL 20 "java/lang/IndexOutOfBoundsException") (by decide +kernel), hnp ("java/lang/IllegalArgumentException", "java/lang/IndexOutOfBoundsException") (by decide +kernel)⟩) (by decide) (by decide) (hts (.classLink RL 13 "java/lang/IllegalArgumentException") (by decide +kernel)) (va_Nw.use rfl (hB.2.2.1.2.1.2.2.2.1 "java/lang/IllegalArgumentException" (by decide +kernel))) h1 h2 h3 ?_
  refine lv_astore_n (lv' := [(3, .ref q9), (0, .ref (G.2.2.2.1 0)), (1, .int x1), (2, .ref oa)]) hx hb dL_check_15 rfl hl (by decide) rfl (fun ls hl => ?_)
  refine lv_iconst (v := 2) hx hb dL_check_16 (by decide) ?_
  exact W.iret hx hb hr (fun t ht hW => ⟨⟨2, (), rfl, rfl, by show va_P _ _ _ t.heap; rw [ht]; exact w.1⟩, w.2.2.F ht⟩) w.2.2.2.2 dL_check_17
set_option maxHeartbeats 4000000 in
set_option maxRecDepth 100000 in
theorem rL_notes (l : Launch) (G : hy_G) (oa sz : Nat) (σ : hy_S) (f : Nat → Int64) (x1 : Int32) (x2 : Int32) (o : hy_S × Int32 × Nat) (hf : fX9_notes σ x1 x2 = some o) (ho : o.2.2 = 0) : Met l yL_notes wsL_notes ({ frames := 8, cells := 0, slots := 0, locals := 125 }) (va_Pc [.ref (G.2.2.2.1 0), .int x1, .int x2, .ref oa] (hy_preX (cw G σ ++ hy_ex G oa f) G sz)) (hy_QX (cw G σ ++ hy_ex G oa f) (cw G o.1 ++ hy_ex G oa (vp_updL f (Int32.toNatClampNeg 0) o.2.1.toInt64)) G sz 0) 0 0 (va_A (cw G σ ++ hy_ex G oa f) sz) := by
  refine va_MetW (cc := cL_notes) (maxL := 5) (ret := some .int) (hh := [(0, 10, 13, 20)]) (by decide +kernel) rfl ?_
  intro p e s m args below meth c s₁ B hml hv
  obtain ⟨rfl, hsz, hP, hK, hD0, hN, hnp⟩ := hv
  have hx := B.exec
  have hb := B.bytes
  have hr := B.returns
  have hts := atoms_spec (ws := wsL_notes) B.pre
  have hown : s.vm.findClass RL = some m.cls := findClass_of_methodNamed B.named
  have hlocks := B.notSynchronized
  subst hsz
  have hD := hD0.self (sz := s.heap.size)
  have hA : ∀ q : Nat, s.heap.size ≤ q → va_A (cw G σ ++ hy_ex G oa f) s.heap.size q := fun q h => Or.inr h
  have hS : va_S (va_A (cw G σ ++ hy_ex G oa f) s.heap.size) s.heap s.heap [] := va_S.rf
  have hl := lv_entry ([.ref (G.2.2.2.1 0), .int x1, .int x2, .ref oa]) (n := 5) (Nat.le_of_ble_eq_true rfl)
  rw [lg_entry_eq]
  generalize (lg_sl ([.ref (G.2.2.2.1 0), .int x1, .int x2, .ref oa]) ++ List.replicate (5 - (lg_sl ([.ref (G.2.2.2.1 0), .int x1, .int x2, .ref oa])).length) Slot.unset).toArray = ls at hl ⊢
  have hl : lv_has ls 5 [(0, .ref (G.2.2.2.1 0)), (1, .int x1), (2, .int x2), (3, .ref oa)] := hl
  have hB : hy_B RL cL_notes 5 wsL_notes G (va_A (cw G σ ++ hy_ex G oa f) s.heap.size) p s m _ c := ⟨⟨hx, hb, hml, hown, hts⟩, hK, hN⟩
  have w : hy_wx (cw G σ ++ hy_ex G oa f) G (va_A (cw G σ ++ hy_ex G oa f) s.heap.size) s s.heap [] := ⟨hP, hD, hS⟩
  refine lv_aload_n hx hb dL_notes_0 rfl (lv_at hl 3 rfl) ?_
  refine lv_iconst (v := 0) hx hb dL_notes_1 (by decide) ?_
  refine lv_aload_n hx hb dL_notes_2 rfl (lv_at hl 0 rfl) ?_
  refine lv_iload_n hx hb dL_notes_3 rfl (lv_at hl 1 rfl) ?_
  refine lv_iload_n hx hb dL_notes_4 rfl (lv_at hl 2 rfl) ?_
  refine hy_fv (ex := hy_ex G oa f) (As := [.int x1, .int x2]) (rest := [.int 0, .ref oa]) (o := (o.1, o.2.1)) cw_fix hA hB w (fun sz => mX9_notes l G sz σ x1 x2 o hf ho) (cwV 2 hts gL_notes_X9_notes rfl rfl rfl (by decide +kernel) ⟨Nat.le_of_ble_eq_true rfl, Nat.le_of_ble_eq_true rfl⟩) rfl (cwq_0 G σ) rfl hl.1 rfl (Nat.le_of_ble_eq_true rfl) dL_notes_5 ⟨Nat.zero_le _, Nat.zero_le _⟩ (fun H locs w => ?_)
  refine lv_i2l (v := o.2.1.toInt64) hx hb dL_notes_8 rfl ?_
  refine va_last (x := o.2.1.toInt64) hx hb hB.2.1 w.1 w.2.1 w.2.2 40 3 rfl rfl (by unfold vp_in; decide) dL_notes_9 (fun H locs hP hD hS => ?_)
  refine lv_goto (tgt := 17) hx hb dL_notes_10 (by decide) ?_
  refine lv_iconst (v := 0) hx hb dL_notes_17 (by decide) ?_
  exact W.iret hx hb hr (fun t ht hW => ⟨⟨0, (), rfl, rfl, by show va_P _ _ _ t.heap; rw [ht]; exact hP⟩, hS.F ht⟩) hS.2.2 dL_notes_18
set_option maxHeartbeats 4000000 in
set_option maxRecDepth 100000 in
theorem qL_notes_1 (l : Launch) (hlt : l.stackTraces = false) (G : hy_G) (oa sz : Nat) (σ : hy_S) (f : Nat → Int64) (x1 : Int32) (x2 : Int32) (o : hy_S × Int32 × Nat) (hf : fX9_notes σ x1 x2 = some o) (ho : o.2.2 = 1) : Met l yL_notes wsL_notes ({ frames := 8, cells := 1, slots := 6, locals := 125 }) (va_Pc [.ref (G.2.2.2.1 0), .int x1, .int x2, .ref oa] (hy_preX (cw G σ ++ hy_ex G oa f) G sz)) (hy_QX (cw G σ ++ hy_ex G oa f) (cw G o.1 ++ hy_ex G oa f) G sz 1) 1 6 (va_A (cw G σ ++ hy_ex G oa f) sz) := by
  refine va_MetW (cc := cL_notes) (maxL := 5) (ret := some .int) (hh := [(0, 10, 13, 20)]) (by decide +kernel) rfl ?_
  intro p e s m args below meth c s₁ B hml hv
  obtain ⟨rfl, hsz, hP, hK, hD0, hN, hnp⟩ := hv
  have hx := B.exec
  have hb := B.bytes
  have hr := B.returns
  have hts := atoms_spec (ws := wsL_notes) B.pre
  have hown : s.vm.findClass RL = some m.cls := findClass_of_methodNamed B.named
  have hlocks := B.notSynchronized
  subst hsz
  have hD := hD0.self (sz := s.heap.size)
  have hA : ∀ q : Nat, s.heap.size ≤ q → va_A (cw G σ ++ hy_ex G oa f) s.heap.size q := fun q h => Or.inr h
  have hS : va_S (va_A (cw G σ ++ hy_ex G oa f) s.heap.size) s.heap s.heap [] := va_S.rf
  have hl := lv_entry ([.ref (G.2.2.2.1 0), .int x1, .int x2, .ref oa]) (n := 5) (Nat.le_of_ble_eq_true rfl)
  rw [lg_entry_eq]
  generalize (lg_sl ([.ref (G.2.2.2.1 0), .int x1, .int x2, .ref oa]) ++ List.replicate (5 - (lg_sl ([.ref (G.2.2.2.1 0), .int x1, .int x2, .ref oa])).length) Slot.unset).toArray = ls at hl ⊢
  have hl : lv_has ls 5 [(0, .ref (G.2.2.2.1 0)), (1, .int x1), (2, .int x2), (3, .ref oa)] := hl
  have hB : hy_B RL cL_notes 5 wsL_notes G (va_A (cw G σ ++ hy_ex G oa f) s.heap.size) p s m _ c := ⟨⟨hx, hb, hml, hown, hts⟩, hK, hN⟩
  have w : hy_wx (cw G σ ++ hy_ex G oa f) G (va_A (cw G σ ++ hy_ex G oa f) s.heap.size) s s.heap [] := ⟨hP, hD, hS⟩
  refine lv_aload_n hx hb dL_notes_0 rfl (lv_at hl 3 rfl) ?_
  refine lv_iconst (v := 0) hx hb dL_notes_1 (by decide) ?_
  refine lv_aload_n hx hb dL_notes_2 rfl (lv_at hl 0 rfl) ?_
  refine lv_iload_n hx hb dL_notes_3 rfl (lv_at hl 1 rfl) ?_
  refine lv_iload_n hx hb dL_notes_4 rfl (lv_at hl 2 rfl) ?_
  refine hy_ft (ex := hy_ex G oa f) (As := [.int x1, .int x2]) (rest := [.int 0, .ref oa]) (o := o) cw_fix hA hB w (fun sz => tX9_notes l hlt G sz σ x1 x2 o hf (by rw [ho]; decide)) (cwV 2 hts gL_notes_X9_notes rfl rfl rfl (by decide +kernel) ⟨Nat.le_of_ble_eq_true rfl, Nat.le_of_ble_eq_true rfl⟩) rfl (cwq_0 G σ) rfl hl.1 rfl (Nat.le_of_ble_eq_true rfl) dL_notes_5 ⟨Nat.le_of_ble_eq_true rfl, Nat.le_of_ble_eq_true rfl⟩ (fun ce q9 H locs w h1 h2 h3 => ?_)
  rw [ho] at h3
  have htab := vx_table (x := yL_notes) B (hts (.codeWith yL_notes cL_notes 5 (some .int) [(0, 10, 13, 20)]) List.mem_cons_self)
  refine hx_catch (own := RL) (name := "java/lang/IndexOutOfBoundsException") (E := "java/lang/IndexOutOfBoundsException") hown [] ⟨0, 10, 13, 20⟩ [] htab (fun z hz => by cases hz) (by decide) (by decide) (hts (.classLink RL 20 "java/lang/IndexOutOfBoundsException") (by decide +kernel)) (va_Nw.use rfl (hB.2.2.1.2.1.2.2.2.1 "java/lang/IndexOutOfBoundsException" (by decide +kernel))) h1 h2 h3 ?_
  refine lv_astore (lv' := [(4, .ref q9), (0, .ref (G.2.2.2.1 0)), (1, .int x1), (2, .int x2), (3, .ref oa)]) hx hb dL_notes_13 hl (by decide) rfl (fun ls hl => ?_)
  refine lv_iconst (v := 1) hx hb dL_notes_15 (by decide) ?_
  exact W.iret hx hb hr (fun t ht hW => ⟨⟨1, (), rfl, rfl, by show va_P _ _ _ t.heap; rw [ht]; exact w.1⟩, w.2.2.F ht⟩) w.2.2.2.2 dL_notes_16
set_option maxHeartbeats 4000000 in
set_option maxRecDepth 100000 in
theorem rL_sherd (l : Launch) (G : hy_G) (oa sz : Nat) (σ : hy_S) (f : Nat → Int64) (x1 : Int32) (x2 : Int32) (o : hy_S × Int32 × Nat) (hf : fX9_sherd σ x1 x2 = some o) (ho : o.2.2 = 0) : Met l yL_sherd wsL_sherd ({ frames := 9, cells := 0, slots := 0, locals := 145 }) (va_Pc [.ref (G.2.2.2.1 0), .int x1, .int x2, .ref oa] (hy_preX (cw G σ ++ hy_ex G oa f) G sz)) (hy_QX (cw G σ ++ hy_ex G oa f) (cw G o.1 ++ hy_ex G oa (vp_updL f (Int32.toNatClampNeg 0) o.2.1.toInt64)) G sz 0) 0 0 (va_A (cw G σ ++ hy_ex G oa f) sz) := by
  refine va_MetW (cc := cL_sherd) (maxL := 5) (ret := some .int) (hh := [(0, 10, 13, 20), (0, 10, 17, 13), (0, 10, 21, 15)]) (by decide +kernel) rfl ?_
  intro p e s m args below meth c s₁ B hml hv
  obtain ⟨rfl, hsz, hP, hK, hD0, hN, hnp⟩ := hv
  have hx := B.exec
  have hb := B.bytes
  have hr := B.returns
  have hts := atoms_spec (ws := wsL_sherd) B.pre
  have hown : s.vm.findClass RL = some m.cls := findClass_of_methodNamed B.named
  have hlocks := B.notSynchronized
  subst hsz
  have hD := hD0.self (sz := s.heap.size)
  have hA : ∀ q : Nat, s.heap.size ≤ q → va_A (cw G σ ++ hy_ex G oa f) s.heap.size q := fun q h => Or.inr h
  have hS : va_S (va_A (cw G σ ++ hy_ex G oa f) s.heap.size) s.heap s.heap [] := va_S.rf
  have hl := lv_entry ([.ref (G.2.2.2.1 0), .int x1, .int x2, .ref oa]) (n := 5) (Nat.le_of_ble_eq_true rfl)
  rw [lg_entry_eq]
  generalize (lg_sl ([.ref (G.2.2.2.1 0), .int x1, .int x2, .ref oa]) ++ List.replicate (5 - (lg_sl ([.ref (G.2.2.2.1 0), .int x1, .int x2, .ref oa])).length) Slot.unset).toArray = ls at hl ⊢
  have hl : lv_has ls 5 [(0, .ref (G.2.2.2.1 0)), (1, .int x1), (2, .int x2), (3, .ref oa)] := hl
  have hB : hy_B RL cL_sherd 5 wsL_sherd G (va_A (cw G σ ++ hy_ex G oa f) s.heap.size) p s m _ c := ⟨⟨hx, hb, hml, hown, hts⟩, hK, hN⟩
  have w : hy_wx (cw G σ ++ hy_ex G oa f) G (va_A (cw G σ ++ hy_ex G oa f) s.heap.size) s s.heap [] := ⟨hP, hD, hS⟩
  refine lv_aload_n hx hb dL_sherd_0 rfl (lv_at hl 3 rfl) ?_
  refine lv_iconst (v := 0) hx hb dL_sherd_1 (by decide) ?_
  refine lv_aload_n hx hb dL_sherd_2 rfl (lv_at hl 0 rfl) ?_
  refine lv_iload_n hx hb dL_sherd_3 rfl (lv_at hl 1 rfl) ?_
  refine lv_iload_n hx hb dL_sherd_4 rfl (lv_at hl 2 rfl) ?_
  refine hy_fv (ex := hy_ex G oa f) (As := [.int x1, .int x2]) (rest := [.int 0, .ref oa]) (o := (o.1, o.2.1)) cw_fix hA hB w (fun sz => mX9_sherd l G sz σ x1 x2 o hf ho) (cwV 2 hts gL_sherd_X9_sherd rfl rfl rfl (by decide +kernel) ⟨Nat.le_of_ble_eq_true rfl, Nat.le_of_ble_eq_true rfl⟩) rfl (cwq_0 G σ) rfl hl.1 rfl (Nat.le_of_ble_eq_true rfl) dL_sherd_5 ⟨Nat.zero_le _, Nat.zero_le _⟩ (fun H locs w => ?_)
  refine lv_i2l (v := o.2.1.toInt64) hx hb dL_sherd_8 rfl ?_
  refine va_last (x := o.2.1.toInt64) hx hb hB.2.1 w.1 w.2.1 w.2.2 40 3 rfl rfl (by unfold vp_in; decide) dL_sherd_9 (fun H locs hP hD hS => ?_)
  refine lv_goto (tgt := 25) hx hb dL_sherd_10 (by decide) ?_
  refine lv_iconst (v := 0) hx hb dL_sherd_25 (by decide) ?_
  exact W.iret hx hb hr (fun t ht hW => ⟨⟨0, (), rfl, rfl, by show va_P _ _ _ t.heap; rw [ht]; exact hP⟩, hS.F ht⟩) hS.2.2 dL_sherd_26
set_option maxHeartbeats 4000000 in
set_option maxRecDepth 100000 in
theorem qL_sherd_1 (l : Launch) (hlt : l.stackTraces = false) (G : hy_G) (oa sz : Nat) (σ : hy_S) (f : Nat → Int64) (x1 : Int32) (x2 : Int32) (o : hy_S × Int32 × Nat) (hf : fX9_sherd σ x1 x2 = some o) (ho : o.2.2 = 1) : Met l yL_sherd wsL_sherd ({ frames := 9, cells := 1, slots := 6, locals := 145 }) (va_Pc [.ref (G.2.2.2.1 0), .int x1, .int x2, .ref oa] (hy_preX (cw G σ ++ hy_ex G oa f) G sz)) (hy_QX (cw G σ ++ hy_ex G oa f) (cw G o.1 ++ hy_ex G oa f) G sz 1) 1 6 (va_A (cw G σ ++ hy_ex G oa f) sz) := by
  refine va_MetW (cc := cL_sherd) (maxL := 5) (ret := some .int) (hh := [(0, 10, 13, 20), (0, 10, 17, 13), (0, 10, 21, 15)]) (by decide +kernel) rfl ?_
  intro p e s m args below meth c s₁ B hml hv
  obtain ⟨rfl, hsz, hP, hK, hD0, hN, hnp⟩ := hv
  have hx := B.exec
  have hb := B.bytes
  have hr := B.returns
  have hts := atoms_spec (ws := wsL_sherd) B.pre
  have hown : s.vm.findClass RL = some m.cls := findClass_of_methodNamed B.named
  have hlocks := B.notSynchronized
  subst hsz
  have hD := hD0.self (sz := s.heap.size)
  have hA : ∀ q : Nat, s.heap.size ≤ q → va_A (cw G σ ++ hy_ex G oa f) s.heap.size q := fun q h => Or.inr h
  have hS : va_S (va_A (cw G σ ++ hy_ex G oa f) s.heap.size) s.heap s.heap [] := va_S.rf
  have hl := lv_entry ([.ref (G.2.2.2.1 0), .int x1, .int x2, .ref oa]) (n := 5) (Nat.le_of_ble_eq_true rfl)
  rw [lg_entry_eq]
  generalize (lg_sl ([.ref (G.2.2.2.1 0), .int x1, .int x2, .ref oa]) ++ List.replicate (5 - (lg_sl ([.ref (G.2.2.2.1 0), .int x1, .int x2, .ref oa])).length) Slot.unset).toArray = ls at hl ⊢
  have hl : lv_has ls 5 [(0, .ref (G.2.2.2.1 0)), (1, .int x1), (2, .int x2), (3, .ref oa)] := hl
  have hB : hy_B RL cL_sherd 5 wsL_sherd G (va_A (cw G σ ++ hy_ex G oa f) s.heap.size) p s m _ c := ⟨⟨hx, hb, hml, hown, hts⟩, hK, hN⟩
  have w : hy_wx (cw G σ ++ hy_ex G oa f) G (va_A (cw G σ ++ hy_ex G oa f) s.heap.size) s s.heap [] := ⟨hP, hD, hS⟩
  refine lv_aload_n hx hb dL_sherd_0 rfl (lv_at hl 3 rfl) ?_
  refine lv_iconst (v := 0) hx hb dL_sherd_1 (by decide) ?_
  refine lv_aload_n hx hb dL_sherd_2 rfl (lv_at hl 0 rfl) ?_
  refine lv_iload_n hx hb dL_sherd_3 rfl (lv_at hl 1 rfl) ?_
  refine lv_iload_n hx hb dL_sherd_4 rfl (lv_at hl 2 rfl) ?_
  refine hy_ft (ex := hy_ex G oa f) (As := [.int x1, .int x2]) (rest := [.int 0, .ref oa]) (o := o) cw_fix hA hB w (fun sz => tX9_sherd l hlt G sz σ x1 x2 o hf (by rw [ho]; decide)) (cwV 2 hts gL_sherd_X9_sherd rfl rfl rfl (by decide +kernel) ⟨Nat.le_of_ble_eq_true rfl, Nat.le_of_ble_eq_true rfl⟩) rfl (cwq_0 G σ) rfl hl.1 rfl (Nat.le_of_ble_eq_true rfl) dL_sherd_5 ⟨Nat.le_of_ble_eq_true rfl, Nat.le_of_ble_eq_true rfl⟩ (fun ce q9 H locs w h1 h2 h3 => ?_)
  rw [ho] at h3
  have htab := vx_table (x := yL_sherd) B (hts (.codeWith yL_sherd cL_sherd 5 (some .int) [(0, 10, 13, 20), (0, 10, 17, 13), (0, 10, 21, 15)]) List.mem_cons_self)
  refine hx_catch (own := RL) (name := "java/lang/IndexOutOfBoundsException") (E := "java/lang/IndexOutOfBoundsException") hown [] ⟨0, 10, 13, 20⟩ [⟨0, 10, 17, 13⟩, ⟨0, 10, 21, 15⟩] htab (fun z hz => by cases hz) (by decide) (by decide) (hts (.classLink RL 20 "java/lang/IndexOutOfBoundsException") (by decide +kernel)) (va_Nw.use rfl (hB.2.2.1.2.1.2.2.2.1 "java/lang/IndexOutOfBoundsException" (by decide +kernel))) h1 h2 h3 ?_
  refine lv_astore (lv' := [(4, .ref q9), (0, .ref (G.2.2.2.1 0)), (1, .int x1), (2, .int x2), (3, .ref oa)]) hx hb dL_sherd_13 hl (by decide) rfl (fun ls hl => ?_)
  refine lv_iconst (v := 1) hx hb dL_sherd_15 (by decide) ?_
  exact W.iret hx hb hr (fun t ht hW => ⟨⟨1, (), rfl, rfl, by show va_P _ _ _ t.heap; rw [ht]; exact w.1⟩, w.2.2.F ht⟩) w.2.2.2.2 dL_sherd_16
set_option maxHeartbeats 4000000 in
set_option maxRecDepth 100000 in
theorem qL_sherd_2 (l : Launch) (hlt : l.stackTraces = false) (G : hy_G) (oa sz : Nat) (σ : hy_S) (f : Nat → Int64) (x1 : Int32) (x2 : Int32) (o : hy_S × Int32 × Nat) (hf : fX9_sherd σ x1 x2 = some o) (ho : o.2.2 = 2) : Met l yL_sherd wsL_sherd ({ frames := 9, cells := 1, slots := 6, locals := 145 }) (va_Pc [.ref (G.2.2.2.1 0), .int x1, .int x2, .ref oa] (hy_preX (cw G σ ++ hy_ex G oa f) G sz)) (hy_QX (cw G σ ++ hy_ex G oa f) (cw G o.1 ++ hy_ex G oa f) G sz 2) 1 6 (va_A (cw G σ ++ hy_ex G oa f) sz) := by
  refine va_MetW (cc := cL_sherd) (maxL := 5) (ret := some .int) (hh := [(0, 10, 13, 20), (0, 10, 17, 13), (0, 10, 21, 15)]) (by decide +kernel) rfl ?_
  intro p e s m args below meth c s₁ B hml hv
  obtain ⟨rfl, hsz, hP, hK, hD0, hN, hnp⟩ := hv
  have hx := B.exec
  have hb := B.bytes
  have hr := B.returns
  have hts := atoms_spec (ws := wsL_sherd) B.pre
  have hown : s.vm.findClass RL = some m.cls := findClass_of_methodNamed B.named
  have hlocks := B.notSynchronized
  subst hsz
  have hD := hD0.self (sz := s.heap.size)
  have hA : ∀ q : Nat, s.heap.size ≤ q → va_A (cw G σ ++ hy_ex G oa f) s.heap.size q := fun q h => Or.inr h
  have hS : va_S (va_A (cw G σ ++ hy_ex G oa f) s.heap.size) s.heap s.heap [] := va_S.rf
  have hl := lv_entry ([.ref (G.2.2.2.1 0), .int x1, .int x2, .ref oa]) (n := 5) (Nat.le_of_ble_eq_true rfl)
  rw [lg_entry_eq]
  generalize (lg_sl ([.ref (G.2.2.2.1 0), .int x1, .int x2, .ref oa]) ++ List.replicate (5 - (lg_sl ([.ref (G.2.2.2.1 0), .int x1, .int x2, .ref oa])).length) Slot.unset).toArray = ls at hl ⊢
  have hl : lv_has ls 5 [(0, .ref (G.2.2.2.1 0)), (1, .int x1), (2, .int x2), (3, .ref oa)] := hl
  have hB : hy_B RL cL_sherd 5 wsL_sherd G (va_A (cw G σ ++ hy_ex G oa f) s.heap.size) p s m _ c := ⟨⟨hx, hb, hml, hown, hts⟩, hK, hN⟩
  have w : hy_wx (cw G σ ++ hy_ex G oa f) G (va_A (cw G σ ++ hy_ex G oa f) s.heap.size) s s.heap [] := ⟨hP, hD, hS⟩
  refine lv_aload_n hx hb dL_sherd_0 rfl (lv_at hl 3 rfl) ?_
  refine lv_iconst (v := 0) hx hb dL_sherd_1 (by decide) ?_
  refine lv_aload_n hx hb dL_sherd_2 rfl (lv_at hl 0 rfl) ?_
  refine lv_iload_n hx hb dL_sherd_3 rfl (lv_at hl 1 rfl) ?_
  refine lv_iload_n hx hb dL_sherd_4 rfl (lv_at hl 2 rfl) ?_
  refine hy_ft (ex := hy_ex G oa f) (As := [.int x1, .int x2]) (rest := [.int 0, .ref oa]) (o := o) cw_fix hA hB w (fun sz => tX9_sherd l hlt G sz σ x1 x2 o hf (by rw [ho]; decide)) (cwV 2 hts gL_sherd_X9_sherd rfl rfl rfl (by decide +kernel) ⟨Nat.le_of_ble_eq_true rfl, Nat.le_of_ble_eq_true rfl⟩) rfl (cwq_0 G σ) rfl hl.1 rfl (Nat.le_of_ble_eq_true rfl) dL_sherd_5 ⟨Nat.le_of_ble_eq_true rfl, Nat.le_of_ble_eq_true rfl⟩ (fun ce q9 H locs w h1 h2 h3 => ?_)
  rw [ho] at h3
  have htab := vx_table (x := yL_sherd) B (hts (.codeWith yL_sherd cL_sherd 5 (some .int) [(0, 10, 13, 20), (0, 10, 17, 13), (0, 10, 21, 15)]) List.mem_cons_self)
  refine hx_catch (own := RL) (name := "java/lang/IllegalArgumentException") (E := "java/lang/IllegalArgumentException") hown [⟨0, 10, 13, 20⟩] ⟨0, 10, 17, 13⟩ [⟨0, 10, 21, 15⟩] htab (fun z hz => by
    simp only [List.mem_cons, List.not_mem_nil, or_false] at hz
    rcases hz with rfl
    · exact ⟨by decide, by decide, "java/lang/IndexOutOfBoundsException", hts (.classLink RL 20 "java/lang/IndexOutOfBoundsException") (by decide +kernel), hnp ("java/lang/IllegalArgumentException", "java/lang/IndexOutOfBoundsException") (by decide +kernel)⟩) (by decide) (by decide) (hts (.classLink RL 13 "java/lang/IllegalArgumentException") (by decide +kernel)) (va_Nw.use rfl (hB.2.2.1.2.1.2.2.2.1 "java/lang/IllegalArgumentException" (by decide +kernel))) h1 h2 h3 ?_
  refine lv_astore (lv' := [(4, .ref q9), (0, .ref (G.2.2.2.1 0)), (1, .int x1), (2, .int x2), (3, .ref oa)]) hx hb dL_sherd_17 hl (by decide) rfl (fun ls hl => ?_)
  refine lv_iconst (v := 2) hx hb dL_sherd_19 (by decide) ?_
  exact W.iret hx hb hr (fun t ht hW => ⟨⟨2, (), rfl, rfl, by show va_P _ _ _ t.heap; rw [ht]; exact w.1⟩, w.2.2.F ht⟩) w.2.2.2.2 dL_sherd_20
set_option maxHeartbeats 4000000 in
set_option maxRecDepth 100000 in
theorem qL_sherd_3 (l : Launch) (hlt : l.stackTraces = false) (G : hy_G) (oa sz : Nat) (σ : hy_S) (f : Nat → Int64) (x1 : Int32) (x2 : Int32) (o : hy_S × Int32 × Nat) (hf : fX9_sherd σ x1 x2 = some o) (ho : o.2.2 = 3) : Met l yL_sherd wsL_sherd ({ frames := 9, cells := 1, slots := 6, locals := 145 }) (va_Pc [.ref (G.2.2.2.1 0), .int x1, .int x2, .ref oa] (hy_preX (cw G σ ++ hy_ex G oa f) G sz)) (hy_QX (cw G σ ++ hy_ex G oa f) (cw G o.1 ++ hy_ex G oa f) G sz 3) 1 6 (va_A (cw G σ ++ hy_ex G oa f) sz) := by
  refine va_MetW (cc := cL_sherd) (maxL := 5) (ret := some .int) (hh := [(0, 10, 13, 20), (0, 10, 17, 13), (0, 10, 21, 15)]) (by decide +kernel) rfl ?_
  intro p e s m args below meth c s₁ B hml hv
  obtain ⟨rfl, hsz, hP, hK, hD0, hN, hnp⟩ := hv
  have hx := B.exec
  have hb := B.bytes
  have hr := B.returns
  have hts := atoms_spec (ws := wsL_sherd) B.pre
  have hown : s.vm.findClass RL = some m.cls := findClass_of_methodNamed B.named
  have hlocks := B.notSynchronized
  subst hsz
  have hD := hD0.self (sz := s.heap.size)
  have hA : ∀ q : Nat, s.heap.size ≤ q → va_A (cw G σ ++ hy_ex G oa f) s.heap.size q := fun q h => Or.inr h
  have hS : va_S (va_A (cw G σ ++ hy_ex G oa f) s.heap.size) s.heap s.heap [] := va_S.rf
  have hl := lv_entry ([.ref (G.2.2.2.1 0), .int x1, .int x2, .ref oa]) (n := 5) (Nat.le_of_ble_eq_true rfl)
  rw [lg_entry_eq]
  generalize (lg_sl ([.ref (G.2.2.2.1 0), .int x1, .int x2, .ref oa]) ++ List.replicate (5 - (lg_sl ([.ref (G.2.2.2.1 0), .int x1, .int x2, .ref oa])).length) Slot.unset).toArray = ls at hl ⊢
  have hl : lv_has ls 5 [(0, .ref (G.2.2.2.1 0)), (1, .int x1), (2, .int x2), (3, .ref oa)] := hl
  have hB : hy_B RL cL_sherd 5 wsL_sherd G (va_A (cw G σ ++ hy_ex G oa f) s.heap.size) p s m _ c := ⟨⟨hx, hb, hml, hown, hts⟩, hK, hN⟩
  have w : hy_wx (cw G σ ++ hy_ex G oa f) G (va_A (cw G σ ++ hy_ex G oa f) s.heap.size) s s.heap [] := ⟨hP, hD, hS⟩
  refine lv_aload_n hx hb dL_sherd_0 rfl (lv_at hl 3 rfl) ?_
  refine lv_iconst (v := 0) hx hb dL_sherd_1 (by decide) ?_
  refine lv_aload_n hx hb dL_sherd_2 rfl (lv_at hl 0 rfl) ?_
  refine lv_iload_n hx hb dL_sherd_3 rfl (lv_at hl 1 rfl) ?_
  refine lv_iload_n hx hb dL_sherd_4 rfl (lv_at hl 2 rfl) ?_
  refine hy_ft (ex := hy_ex G oa f) (As := [.int x1, .int x2]) (rest := [.int 0, .ref oa]) (o := o) cw_fix hA hB w (fun sz => tX9_sherd l hlt G sz σ x1 x2 o hf (by rw [ho]; decide)) (cwV 2 hts gL_sherd_X9_sherd rfl rfl rfl (by decide +kernel) ⟨Nat.le_of_ble_eq_true rfl, Nat.le_of_ble_eq_true rfl⟩) rfl (cwq_0 G σ) rfl hl.1 rfl (Nat.le_of_ble_eq_true rfl) dL_sherd_5 ⟨Nat.le_of_ble_eq_true rfl, Nat.le_of_ble_eq_true rfl⟩ (fun ce q9 H locs w h1 h2 h3 => ?_)
  rw [ho] at h3
  have htab := vx_table (x := yL_sherd) B (hts (.codeWith yL_sherd cL_sherd 5 (some .int) [(0, 10, 13, 20), (0, 10, 17, 13), (0, 10, 21, 15)]) List.mem_cons_self)
  refine hx_catch (own := RL) (name := "java/lang/UnsupportedOperationException") (E := "java/lang/UnsupportedOperationException") hown [⟨0, 10, 13, 20⟩, ⟨0, 10, 17, 13⟩] ⟨0, 10, 21, 15⟩ [] htab (fun z hz => by
    simp only [List.mem_cons, List.not_mem_nil, or_false] at hz
    rcases hz with rfl | rfl
    · exact ⟨by decide, by decide, "java/lang/IndexOutOfBoundsException", hts (.classLink RL 20 "java/lang/IndexOutOfBoundsException") (by decide +kernel), hnp ("java/lang/UnsupportedOperationException", "java/lang/IndexOutOfBoundsException") (by decide +kernel)⟩
    · exact ⟨by decide, by decide, "java/lang/IllegalArgumentException", hts (.classLink RL 13 "java/lang/IllegalArgumentException") (by decide +kernel), hnp ("java/lang/UnsupportedOperationException", "java/lang/IllegalArgumentException") (by decide +kernel)⟩) (by decide) (by decide) (hts (.classLink RL 15 "java/lang/UnsupportedOperationException") (by decide +kernel)) (va_Nw.use rfl (hB.2.2.1.2.1.2.2.2.1 "java/lang/UnsupportedOperationException" (by decide +kernel))) h1 h2 h3 ?_
  refine lv_astore (lv' := [(4, .ref q9), (0, .ref (G.2.2.2.1 0)), (1, .int x1), (2, .int x2), (3, .ref oa)]) hx hb dL_sherd_21 hl (by decide) rfl (fun ls hl => ?_)
  refine lv_iconst (v := 3) hx hb dL_sherd_23 (by decide) ?_
  exact W.iret hx hb hr (fun t ht hW => ⟨⟨3, (), rfl, rfl, by show va_P _ _ _ t.heap; rw [ht]; exact w.1⟩, w.2.2.F ht⟩) w.2.2.2.2 dL_sherd_24
set_option maxHeartbeats 4000000 in
set_option maxRecDepth 100000 in
theorem rL_join (l : Launch) (G : hy_G) (oa sz : Nat) (σ : hy_S) (f : Nat → Int64) (x1 : Int32) (x2 : Int32) (o : hy_S × Int32 × Nat) (hf : fX9_join σ x1 x2 = some o) (ho : o.2.2 = 0) : Met l yL_join wsL_join ({ frames := 8, cells := 0, slots := 0, locals := 125 }) (va_Pc [.ref (G.2.2.2.1 0), .int x1, .int x2, .ref oa] (hy_preX (cw G σ ++ hy_ex G oa f) G sz)) (hy_QX (cw G σ ++ hy_ex G oa f) (cw G o.1 ++ hy_ex G oa (vp_updL f (Int32.toNatClampNeg 0) (if o.2.1 = 0 then 0 else 1))) G sz 0) 0 0 (va_A (cw G σ ++ hy_ex G oa f) sz) := by
  refine va_MetW (cc := cL_join) (maxL := 5) (ret := some .int) (hh := [(0, 17, 20, 20)]) (by decide +kernel) rfl ?_
  intro p e s m args below meth c s₁ B hml hv
  obtain ⟨rfl, hsz, hP, hK, hD0, hN, hnp⟩ := hv
  have hx := B.exec
  have hb := B.bytes
  have hr := B.returns
  have hts := atoms_spec (ws := wsL_join) B.pre
  have hown : s.vm.findClass RL = some m.cls := findClass_of_methodNamed B.named
  have hlocks := B.notSynchronized
  subst hsz
  have hD := hD0.self (sz := s.heap.size)
  have hA : ∀ q : Nat, s.heap.size ≤ q → va_A (cw G σ ++ hy_ex G oa f) s.heap.size q := fun q h => Or.inr h
  have hS : va_S (va_A (cw G σ ++ hy_ex G oa f) s.heap.size) s.heap s.heap [] := va_S.rf
  have hl := lv_entry ([.ref (G.2.2.2.1 0), .int x1, .int x2, .ref oa]) (n := 5) (Nat.le_of_ble_eq_true rfl)
  rw [lg_entry_eq]
  generalize (lg_sl ([.ref (G.2.2.2.1 0), .int x1, .int x2, .ref oa]) ++ List.replicate (5 - (lg_sl ([.ref (G.2.2.2.1 0), .int x1, .int x2, .ref oa])).length) Slot.unset).toArray = ls at hl ⊢
  have hl : lv_has ls 5 [(0, .ref (G.2.2.2.1 0)), (1, .int x1), (2, .int x2), (3, .ref oa)] := hl
  have hB : hy_B RL cL_join 5 wsL_join G (va_A (cw G σ ++ hy_ex G oa f) s.heap.size) p s m _ c := ⟨⟨hx, hb, hml, hown, hts⟩, hK, hN⟩
  have w : hy_wx (cw G σ ++ hy_ex G oa f) G (va_A (cw G σ ++ hy_ex G oa f) s.heap.size) s s.heap [] := ⟨hP, hD, hS⟩
  refine lv_aload_n hx hb dL_join_0 rfl (lv_at hl 3 rfl) ?_
  refine lv_iconst (v := 0) hx hb dL_join_1 (by decide) ?_
  refine lv_aload_n hx hb dL_join_2 rfl (lv_at hl 0 rfl) ?_
  refine lv_iload_n hx hb dL_join_3 rfl (lv_at hl 1 rfl) ?_
  refine lv_iload_n hx hb dL_join_4 rfl (lv_at hl 2 rfl) ?_
  refine hy_fv (ex := hy_ex G oa f) (As := [.int x1, .int x2]) (rest := [.int 0, .ref oa]) (o := (o.1, o.2.1)) cw_fix hA hB w (fun sz => mX9_join l G sz σ x1 x2 o hf ho) (cwV 2 hts gL_join_X9_join rfl rfl rfl (by decide +kernel) ⟨Nat.le_of_ble_eq_true rfl, Nat.le_of_ble_eq_true rfl⟩) rfl (cwq_0 G σ) rfl hl.1 rfl (Nat.le_of_ble_eq_true rfl) dL_join_5 ⟨Nat.zero_le _, Nat.zero_le _⟩ (fun H locs w => ?_)
  refine lv_if_eq (tgt := 15) hx hb dL_join_8 (by decide) (fun c1 => ?_) (fun c1 => ?_)
  · rw [if_pos (show o.2.1 = 0 from c1)]
    refine lv_lconst (v := 0) hx hb dL_join_15 (by decide) ?_
    refine va_last (x := 0) hx hb hB.2.1 w.1 w.2.1 w.2.2 40 3 rfl rfl (by unfold vp_in; decide) dL_join_16 (fun H locs hP hD hS => ?_)
    refine lv_goto (tgt := 24) hx hb dL_join_17 (by decide) ?_
    refine lv_iconst (v := 0) hx hb dL_join_24 (by decide) ?_
    exact W.iret hx hb hr (fun t ht hW => ⟨⟨0, (), rfl, rfl, by show va_P _ _ _ t.heap; rw [ht]; exact hP⟩, hS.F ht⟩) hS.2.2 dL_join_25
  · rw [if_neg (show ¬ o.2.1 = 0 from c1)]
    refine lv_lconst (v := 1) hx hb dL_join_11 (by decide) ?_
    refine lv_goto (tgt := 16) hx hb dL_join_12 (by decide) ?_
    refine va_last (x := 1) hx hb hB.2.1 w.1 w.2.1 w.2.2 40 3 rfl rfl (by unfold vp_in; decide) dL_join_16 (fun H locs hP hD hS => ?_)
    refine lv_goto (tgt := 24) hx hb dL_join_17 (by decide) ?_
    refine lv_iconst (v := 0) hx hb dL_join_24 (by decide) ?_
    exact W.iret hx hb hr (fun t ht hW => ⟨⟨0, (), rfl, rfl, by show va_P _ _ _ t.heap; rw [ht]; exact hP⟩, hS.F ht⟩) hS.2.2 dL_join_25
set_option maxHeartbeats 4000000 in
set_option maxRecDepth 100000 in
theorem qL_join_1 (l : Launch) (hlt : l.stackTraces = false) (G : hy_G) (oa sz : Nat) (σ : hy_S) (f : Nat → Int64) (x1 : Int32) (x2 : Int32) (o : hy_S × Int32 × Nat) (hf : fX9_join σ x1 x2 = some o) (ho : o.2.2 = 1) : Met l yL_join wsL_join ({ frames := 8, cells := 1, slots := 6, locals := 125 }) (va_Pc [.ref (G.2.2.2.1 0), .int x1, .int x2, .ref oa] (hy_preX (cw G σ ++ hy_ex G oa f) G sz)) (hy_QX (cw G σ ++ hy_ex G oa f) (cw G o.1 ++ hy_ex G oa f) G sz 1) 1 6 (va_A (cw G σ ++ hy_ex G oa f) sz) := by
  refine va_MetW (cc := cL_join) (maxL := 5) (ret := some .int) (hh := [(0, 17, 20, 20)]) (by decide +kernel) rfl ?_
  intro p e s m args below meth c s₁ B hml hv
  obtain ⟨rfl, hsz, hP, hK, hD0, hN, hnp⟩ := hv
  have hx := B.exec
  have hb := B.bytes
  have hr := B.returns
  have hts := atoms_spec (ws := wsL_join) B.pre
  have hown : s.vm.findClass RL = some m.cls := findClass_of_methodNamed B.named
  have hlocks := B.notSynchronized
  subst hsz
  have hD := hD0.self (sz := s.heap.size)
  have hA : ∀ q : Nat, s.heap.size ≤ q → va_A (cw G σ ++ hy_ex G oa f) s.heap.size q := fun q h => Or.inr h
  have hS : va_S (va_A (cw G σ ++ hy_ex G oa f) s.heap.size) s.heap s.heap [] := va_S.rf
  have hl := lv_entry ([.ref (G.2.2.2.1 0), .int x1, .int x2, .ref oa]) (n := 5) (Nat.le_of_ble_eq_true rfl)
  rw [lg_entry_eq]
  generalize (lg_sl ([.ref (G.2.2.2.1 0), .int x1, .int x2, .ref oa]) ++ List.replicate (5 - (lg_sl ([.ref (G.2.2.2.1 0), .int x1, .int x2, .ref oa])).length) Slot.unset).toArray = ls at hl ⊢
  have hl : lv_has ls 5 [(0, .ref (G.2.2.2.1 0)), (1, .int x1), (2, .int x2), (3, .ref oa)] := hl
  have hB : hy_B RL cL_join 5 wsL_join G (va_A (cw G σ ++ hy_ex G oa f) s.heap.size) p s m _ c := ⟨⟨hx, hb, hml, hown, hts⟩, hK, hN⟩
  have w : hy_wx (cw G σ ++ hy_ex G oa f) G (va_A (cw G σ ++ hy_ex G oa f) s.heap.size) s s.heap [] := ⟨hP, hD, hS⟩
  refine lv_aload_n hx hb dL_join_0 rfl (lv_at hl 3 rfl) ?_
  refine lv_iconst (v := 0) hx hb dL_join_1 (by decide) ?_
  refine lv_aload_n hx hb dL_join_2 rfl (lv_at hl 0 rfl) ?_
  refine lv_iload_n hx hb dL_join_3 rfl (lv_at hl 1 rfl) ?_
  refine lv_iload_n hx hb dL_join_4 rfl (lv_at hl 2 rfl) ?_
  refine hy_ft (ex := hy_ex G oa f) (As := [.int x1, .int x2]) (rest := [.int 0, .ref oa]) (o := o) cw_fix hA hB w (fun sz => tX9_join l hlt G sz σ x1 x2 o hf (by rw [ho]; decide)) (cwV 2 hts gL_join_X9_join rfl rfl rfl (by decide +kernel) ⟨Nat.le_of_ble_eq_true rfl, Nat.le_of_ble_eq_true rfl⟩) rfl (cwq_0 G σ) rfl hl.1 rfl (Nat.le_of_ble_eq_true rfl) dL_join_5 ⟨Nat.le_of_ble_eq_true rfl, Nat.le_of_ble_eq_true rfl⟩ (fun ce q9 H locs w h1 h2 h3 => ?_)
  rw [ho] at h3
  have htab := vx_table (x := yL_join) B (hts (.codeWith yL_join cL_join 5 (some .int) [(0, 17, 20, 20)]) List.mem_cons_self)
  refine hx_catch (own := RL) (name := "java/lang/IndexOutOfBoundsException") (E := "java/lang/IndexOutOfBoundsException") hown [] ⟨0, 17, 20, 20⟩ [] htab (fun z hz => by cases hz) (by decide) (by decide) (hts (.classLink RL 20 "java/lang/IndexOutOfBoundsException") (by decide +kernel)) (va_Nw.use rfl (hB.2.2.1.2.1.2.2.2.1 "java/lang/IndexOutOfBoundsException" (by decide +kernel))) h1 h2 h3 ?_
  refine lv_astore (lv' := [(4, .ref q9), (0, .ref (G.2.2.2.1 0)), (1, .int x1), (2, .int x2), (3, .ref oa)]) hx hb dL_join_20 hl (by decide) rfl (fun ls hl => ?_)
  refine lv_iconst (v := 1) hx hb dL_join_22 (by decide) ?_
  exact W.iret hx hb hr (fun t ht hW => ⟨⟨1, (), rfl, rfl, by show va_P _ _ _ t.heap; rw [ht]; exact w.1⟩, w.2.2.F ht⟩) w.2.2.2.2 dL_join_23
set_option maxHeartbeats 4000000 in
set_option maxRecDepth 100000 in
theorem rL_vessels (l : Launch) (G : hy_G) (oa sz : Nat) (σ : hy_S) (f : Nat → Int64) (x1 : Int32) (o : hy_S × Int32 × Nat) (hf : fX9_vessels σ x1 = some o) (ho : o.2.2 = 0) : Met l yL_vessels wsL_vessels ({ frames := 9, cells := 0, slots := 0, locals := 144 }) (va_Pc [.ref (G.2.2.2.1 0), .int x1, .ref oa] (hy_preX (cw G σ ++ hy_ex G oa f) G sz)) (hy_QX (cw G σ ++ hy_ex G oa f) (cw G o.1 ++ hy_ex G oa (vp_updL f (Int32.toNatClampNeg 0) o.2.1.toInt64)) G sz 0) 0 0 (va_A (cw G σ ++ hy_ex G oa f) sz) := by
  refine va_MetW (cc := cL_vessels) (maxL := 4) (ret := some .int) (hh := [(0, 9, 12, 20)]) (by decide +kernel) rfl ?_
  intro p e s m args below meth c s₁ B hml hv
  obtain ⟨rfl, hsz, hP, hK, hD0, hN, hnp⟩ := hv
  have hx := B.exec
  have hb := B.bytes
  have hr := B.returns
  have hts := atoms_spec (ws := wsL_vessels) B.pre
  have hown : s.vm.findClass RL = some m.cls := findClass_of_methodNamed B.named
  have hlocks := B.notSynchronized
  subst hsz
  have hD := hD0.self (sz := s.heap.size)
  have hA : ∀ q : Nat, s.heap.size ≤ q → va_A (cw G σ ++ hy_ex G oa f) s.heap.size q := fun q h => Or.inr h
  have hS : va_S (va_A (cw G σ ++ hy_ex G oa f) s.heap.size) s.heap s.heap [] := va_S.rf
  have hl := lv_entry ([.ref (G.2.2.2.1 0), .int x1, .ref oa]) (n := 4) (Nat.le_of_ble_eq_true rfl)
  rw [lg_entry_eq]
  generalize (lg_sl ([.ref (G.2.2.2.1 0), .int x1, .ref oa]) ++ List.replicate (4 - (lg_sl ([.ref (G.2.2.2.1 0), .int x1, .ref oa])).length) Slot.unset).toArray = ls at hl ⊢
  have hl : lv_has ls 4 [(0, .ref (G.2.2.2.1 0)), (1, .int x1), (2, .ref oa)] := hl
  have hB : hy_B RL cL_vessels 4 wsL_vessels G (va_A (cw G σ ++ hy_ex G oa f) s.heap.size) p s m _ c := ⟨⟨hx, hb, hml, hown, hts⟩, hK, hN⟩
  have w : hy_wx (cw G σ ++ hy_ex G oa f) G (va_A (cw G σ ++ hy_ex G oa f) s.heap.size) s s.heap [] := ⟨hP, hD, hS⟩
  refine lv_aload_n hx hb dL_vessels_0 rfl (lv_at hl 2 rfl) ?_
  refine lv_iconst (v := 0) hx hb dL_vessels_1 (by decide) ?_
  refine lv_aload_n hx hb dL_vessels_2 rfl (lv_at hl 0 rfl) ?_
  refine lv_iload_n hx hb dL_vessels_3 rfl (lv_at hl 1 rfl) ?_
  refine hy_fv (ex := hy_ex G oa f) (As := [.int x1]) (rest := [.int 0, .ref oa]) (o := (o.1, o.2.1)) cw_fix hA hB w (fun sz => mX9_vessels l G sz σ x1 o hf ho) (cwV 1 hts gL_vessels_X9_vessels rfl rfl rfl (by decide +kernel) ⟨Nat.le_of_ble_eq_true rfl, Nat.le_of_ble_eq_true rfl⟩) rfl (cwq_0 G σ) rfl hl.1 rfl (Nat.le_of_ble_eq_true rfl) dL_vessels_4 ⟨Nat.zero_le _, Nat.zero_le _⟩ (fun H locs w => ?_)
  refine lv_i2l (v := o.2.1.toInt64) hx hb dL_vessels_7 rfl ?_
  refine va_last (x := o.2.1.toInt64) hx hb hB.2.1 w.1 w.2.1 w.2.2 40 3 rfl rfl (by unfold vp_in; decide) dL_vessels_8 (fun H locs hP hD hS => ?_)
  refine lv_goto (tgt := 15) hx hb dL_vessels_9 (by decide) ?_
  refine lv_iconst (v := 0) hx hb dL_vessels_15 (by decide) ?_
  exact W.iret hx hb hr (fun t ht hW => ⟨⟨0, (), rfl, rfl, by show va_P _ _ _ t.heap; rw [ht]; exact hP⟩, hS.F ht⟩) hS.2.2 dL_vessels_16
set_option maxHeartbeats 4000000 in
set_option maxRecDepth 100000 in
theorem qL_vessels_1 (l : Launch) (hlt : l.stackTraces = false) (G : hy_G) (oa sz : Nat) (σ : hy_S) (f : Nat → Int64) (x1 : Int32) (o : hy_S × Int32 × Nat) (hf : fX9_vessels σ x1 = some o) (ho : o.2.2 = 1) : Met l yL_vessels wsL_vessels ({ frames := 9, cells := 1, slots := 6, locals := 144 }) (va_Pc [.ref (G.2.2.2.1 0), .int x1, .ref oa] (hy_preX (cw G σ ++ hy_ex G oa f) G sz)) (hy_QX (cw G σ ++ hy_ex G oa f) (cw G o.1 ++ hy_ex G oa f) G sz 1) 1 6 (va_A (cw G σ ++ hy_ex G oa f) sz) := by
  refine va_MetW (cc := cL_vessels) (maxL := 4) (ret := some .int) (hh := [(0, 9, 12, 20)]) (by decide +kernel) rfl ?_
  intro p e s m args below meth c s₁ B hml hv
  obtain ⟨rfl, hsz, hP, hK, hD0, hN, hnp⟩ := hv
  have hx := B.exec
  have hb := B.bytes
  have hr := B.returns
  have hts := atoms_spec (ws := wsL_vessels) B.pre
  have hown : s.vm.findClass RL = some m.cls := findClass_of_methodNamed B.named
  have hlocks := B.notSynchronized
  subst hsz
  have hD := hD0.self (sz := s.heap.size)
  have hA : ∀ q : Nat, s.heap.size ≤ q → va_A (cw G σ ++ hy_ex G oa f) s.heap.size q := fun q h => Or.inr h
  have hS : va_S (va_A (cw G σ ++ hy_ex G oa f) s.heap.size) s.heap s.heap [] := va_S.rf
  have hl := lv_entry ([.ref (G.2.2.2.1 0), .int x1, .ref oa]) (n := 4) (Nat.le_of_ble_eq_true rfl)
  rw [lg_entry_eq]
  generalize (lg_sl ([.ref (G.2.2.2.1 0), .int x1, .ref oa]) ++ List.replicate (4 - (lg_sl ([.ref (G.2.2.2.1 0), .int x1, .ref oa])).length) Slot.unset).toArray = ls at hl ⊢
  have hl : lv_has ls 4 [(0, .ref (G.2.2.2.1 0)), (1, .int x1), (2, .ref oa)] := hl
  have hB : hy_B RL cL_vessels 4 wsL_vessels G (va_A (cw G σ ++ hy_ex G oa f) s.heap.size) p s m _ c := ⟨⟨hx, hb, hml, hown, hts⟩, hK, hN⟩
  have w : hy_wx (cw G σ ++ hy_ex G oa f) G (va_A (cw G σ ++ hy_ex G oa f) s.heap.size) s s.heap [] := ⟨hP, hD, hS⟩
  refine lv_aload_n hx hb dL_vessels_0 rfl (lv_at hl 2 rfl) ?_
  refine lv_iconst (v := 0) hx hb dL_vessels_1 (by decide) ?_
  refine lv_aload_n hx hb dL_vessels_2 rfl (lv_at hl 0 rfl) ?_
  refine lv_iload_n hx hb dL_vessels_3 rfl (lv_at hl 1 rfl) ?_
  refine hy_ft (ex := hy_ex G oa f) (As := [.int x1]) (rest := [.int 0, .ref oa]) (o := o) cw_fix hA hB w (fun sz => tX9_vessels l hlt G sz σ x1 o hf (by rw [ho]; decide)) (cwV 1 hts gL_vessels_X9_vessels rfl rfl rfl (by decide +kernel) ⟨Nat.le_of_ble_eq_true rfl, Nat.le_of_ble_eq_true rfl⟩) rfl (cwq_0 G σ) rfl hl.1 rfl (Nat.le_of_ble_eq_true rfl) dL_vessels_4 ⟨Nat.le_of_ble_eq_true rfl, Nat.le_of_ble_eq_true rfl⟩ (fun ce q9 H locs w h1 h2 h3 => ?_)
  rw [ho] at h3
  have htab := vx_table (x := yL_vessels) B (hts (.codeWith yL_vessels cL_vessels 4 (some .int) [(0, 9, 12, 20)]) List.mem_cons_self)
  refine hx_catch (own := RL) (name := "java/lang/IndexOutOfBoundsException") (E := "java/lang/IndexOutOfBoundsException") hown [] ⟨0, 9, 12, 20⟩ [] htab (fun z hz => by cases hz) (by decide) (by decide) (hts (.classLink RL 20 "java/lang/IndexOutOfBoundsException") (by decide +kernel)) (va_Nw.use rfl (hB.2.2.1.2.1.2.2.2.1 "java/lang/IndexOutOfBoundsException" (by decide +kernel))) h1 h2 h3 ?_
  refine lv_astore_n (lv' := [(3, .ref q9), (0, .ref (G.2.2.2.1 0)), (1, .int x1), (2, .ref oa)]) hx hb dL_vessels_12 rfl hl (by decide) rfl (fun ls hl => ?_)
  refine lv_iconst (v := 1) hx hb dL_vessels_13 (by decide) ?_
  exact W.iret hx hb hr (fun t ht hW => ⟨⟨1, (), rfl, rfl, by show va_P _ _ _ t.heap; rw [ht]; exact w.1⟩, w.2.2.F ht⟩) w.2.2.2.2 dL_vessels_14
