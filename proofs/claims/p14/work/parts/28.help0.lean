set_option maxHeartbeats 4000000 in
set_option maxRecDepth 100000 in
theorem rL_rate (l : Launch) (G : hy_G) (oa sz : Nat) (σ : hy_S) (f : Nat → Int64) (x1 : Int32) (x2 : Int32) (o : hy_S × Int32 × Nat) (hf : fX9_rate σ x1 x2 = some o) (ho : o.2.2 = 0) : Met l yL_rate wsL_rate ({ frames := 8, cells := 0, slots := 0, locals := 126 }) (va_Pc [.ref (G.2.2.2.1 0), .int x1, .int x2] (hy_preX (cw G σ ++ hy_ex G oa f) G sz)) (hy_QX (cw G σ ++ hy_ex G oa f) (cw G o.1 ++ hy_ex G oa f) G sz 0) 0 0 (va_A (cw G σ ++ hy_ex G oa f) sz) := by
  refine va_MetW (cc := cL_rate) (maxL := 4) (ret := some .int) (hh := [(0, 6, 9, 20), (0, 6, 12, 13)]) (by decide +kernel) rfl ?_
  intro p e s m args below meth c s₁ B hml hv
  obtain ⟨rfl, hsz, hP, hK, hD0, hN, hnp⟩ := hv
  have hx := B.exec
  have hb := B.bytes
  have hr := B.returns
  have hts := atoms_spec (ws := wsL_rate) B.pre
  have hown : s.vm.findClass RL = some m.cls := findClass_of_methodNamed B.named
  have hlocks := B.notSynchronized
  subst hsz
  have hD := hD0.self (sz := s.heap.size)
  have hA : ∀ q : Nat, s.heap.size ≤ q → va_A (cw G σ ++ hy_ex G oa f) s.heap.size q := fun q h => Or.inr h
  have hS : va_S (va_A (cw G σ ++ hy_ex G oa f) s.heap.size) s.heap s.heap [] := va_S.rf
  have hl := lv_entry ([.ref (G.2.2.2.1 0), .int x1, .int x2]) (n := 4) (Nat.le_of_ble_eq_true rfl)
  rw [lg_entry_eq]
  generalize (lg_sl ([.ref (G.2.2.2.1 0), .int x1, .int x2]) ++ List.replicate (4 - (lg_sl ([.ref (G.2.2.2.1 0), .int x1, .int x2])).length) Slot.unset).toArray = ls at hl ⊢
  have hl : lv_has ls 4 [(0, .ref (G.2.2.2.1 0)), (1, .int x1), (2, .int x2)] := hl
  have hB : hy_B RL cL_rate 4 wsL_rate G (va_A (cw G σ ++ hy_ex G oa f) s.heap.size) p s m _ c := ⟨⟨hx, hb, hml, hown, hts⟩, hK, hN⟩
  have w : hy_wx (cw G σ ++ hy_ex G oa f) G (va_A (cw G σ ++ hy_ex G oa f) s.heap.size) s s.heap [] := ⟨hP, hD, hS⟩
  refine lv_aload_n hx hb dL_rate_0 rfl (lv_at hl 0 rfl) ?_
  refine lv_iload_n hx hb dL_rate_1 rfl (lv_at hl 1 rfl) ?_
  refine lv_iload_n hx hb dL_rate_2 rfl (lv_at hl 2 rfl) ?_
  refine hy_fvv (ex := hy_ex G oa f) (As := [.int x1, .int x2]) (rest := []) (o := (o.1, o.2.1)) cw_fix hA hB w (fun sz => mX9_rate l G sz σ x1 x2 o hf ho) (cwV 2 hts gL_rate_X9_rate rfl rfl rfl (by decide +kernel) ⟨Nat.le_of_ble_eq_true rfl, Nat.le_of_ble_eq_true rfl⟩) rfl (cwq_0 G σ) rfl hl.1 rfl (Nat.le_of_ble_eq_true rfl) dL_rate_3 ⟨Nat.zero_le _, Nat.zero_le _⟩ (fun H locs w => ?_)
  refine lv_goto (tgt := 15) hx hb dL_rate_6 (by decide) ?_
  refine lv_iconst (v := 0) hx hb dL_rate_15 (by decide) ?_
  exact W.iret hx hb hr (fun t ht hW => ⟨⟨0, (), rfl, rfl, by show va_P _ _ _ t.heap; rw [ht]; exact w.1⟩, w.2.2.F ht⟩) w.2.2.2.2 dL_rate_16
set_option maxHeartbeats 4000000 in
set_option maxRecDepth 100000 in
theorem qL_rate_1 (l : Launch) (hlt : l.stackTraces = false) (G : hy_G) (oa sz : Nat) (σ : hy_S) (f : Nat → Int64) (x1 : Int32) (x2 : Int32) (o : hy_S × Int32 × Nat) (hf : fX9_rate σ x1 x2 = some o) (ho : o.2.2 = 1) : Met l yL_rate wsL_rate ({ frames := 8, cells := 1, slots := 6, locals := 126 }) (va_Pc [.ref (G.2.2.2.1 0), .int x1, .int x2] (hy_preX (cw G σ ++ hy_ex G oa f) G sz)) (hy_QX (cw G σ ++ hy_ex G oa f) (cw G o.1 ++ hy_ex G oa f) G sz 1) 1 6 (va_A (cw G σ ++ hy_ex G oa f) sz) := by
  refine va_MetW (cc := cL_rate) (maxL := 4) (ret := some .int) (hh := [(0, 6, 9, 20), (0, 6, 12, 13)]) (by decide +kernel) rfl ?_
  intro p e s m args below meth c s₁ B hml hv
  obtain ⟨rfl, hsz, hP, hK, hD0, hN, hnp⟩ := hv
  have hx := B.exec
  have hb := B.bytes
  have hr := B.returns
  have hts := atoms_spec (ws := wsL_rate) B.pre
  have hown : s.vm.findClass RL = some m.cls := findClass_of_methodNamed B.named
  have hlocks := B.notSynchronized
  subst hsz
  have hD := hD0.self (sz := s.heap.size)
  have hA : ∀ q : Nat, s.heap.size ≤ q → va_A (cw G σ ++ hy_ex G oa f) s.heap.size q := fun q h => Or.inr h
  have hS : va_S (va_A (cw G σ ++ hy_ex G oa f) s.heap.size) s.heap s.heap [] := va_S.rf
  have hl := lv_entry ([.ref (G.2.2.2.1 0), .int x1, .int x2]) (n := 4) (Nat.le_of_ble_eq_true rfl)
  rw [lg_entry_eq]
  generalize (lg_sl ([.ref (G.2.2.2.1 0), .int x1, .int x2]) ++ List.replicate (4 - (lg_sl ([.ref (G.2.2.2.1 0), .int x1, .int x2])).length) Slot.unset).toArray = ls at hl ⊢
  have hl : lv_has ls 4 [(0, .ref (G.2.2.2.1 0)), (1, .int x1), (2, .int x2)] := hl
  have hB : hy_B RL cL_rate 4 wsL_rate G (va_A (cw G σ ++ hy_ex G oa f) s.heap.size) p s m _ c := ⟨⟨hx, hb, hml, hown, hts⟩, hK, hN⟩
  have w : hy_wx (cw G σ ++ hy_ex G oa f) G (va_A (cw G σ ++ hy_ex G oa f) s.heap.size) s s.heap [] := ⟨hP, hD, hS⟩
  refine lv_aload_n hx hb dL_rate_0 rfl (lv_at hl 0 rfl) ?_
  refine lv_iload_n hx hb dL_rate_1 rfl (lv_at hl 1 rfl) ?_
  refine lv_iload_n hx hb dL_rate_2 rfl (lv_at hl 2 rfl) ?_
  refine hy_ftv (ex := hy_ex G oa f) (As := [.int x1, .int x2]) (rest := []) (o := o) cw_fix hA hB w (fun sz => tX9_rate l hlt G sz σ x1 x2 o hf (by rw [ho]; decide)) (cwV 2 hts gL_rate_X9_rate rfl rfl rfl (by decide +kernel) ⟨Nat.le_of_ble_eq_true rfl, Nat.le_of_ble_eq_true rfl⟩) rfl (cwq_0 G σ) rfl hl.1 rfl (Nat.le_of_ble_eq_true rfl) dL_rate_3 ⟨Nat.le_of_ble_eq_true rfl, Nat.le_of_ble_eq_true rfl⟩ (fun ce q9 H locs w h1 h2 h3 => ?_)
  rw [ho] at h3
  have htab := vx_table B (hts (.codeWith yL_rate cL_rate 4 (some .int) [(0, 6, 9, 20), (0, 6, 12, 13)]) List.mem_cons_self)
  refine hx_catch (own := RL) (name := "java/lang/IndexOutOfBoundsException") (E := "java/lang/IndexOutOfBoundsException") hown [] ⟨0, 6, 9, 20⟩ [⟨0, 6, 12, 13⟩] htab (fun z hz => by cases hz) (by decide) (by decide) (hts (.classLink RL 20 "java/lang/IndexOutOfBoundsException") (by decide +kernel)) (va_Nw.use rfl (hB.2.2.1.2.1.2.2.2.1 "java/lang/IndexOutOfBoundsException" (by decide +kernel))) h1 h2 h3 ?_
  refine lv_astore_n (lv' := [(3, .ref q9), (0, .ref (G.2.2.2.1 0)), (1, .int x1), (2, .int x2)]) hx hb dL_rate_9 rfl hl (by decide) rfl (fun ls hl => ?_)
  refine lv_iconst (v := 1) hx hb dL_rate_10 (by decide) ?_
  exact W.iret hx hb hr (fun t ht hW => ⟨⟨1, (), rfl, rfl, by show va_P _ _ _ t.heap; rw [ht]; exact w.1⟩, w.2.2.F ht⟩) w.2.2.2.2 dL_rate_11
set_option maxHeartbeats 4000000 in
set_option maxRecDepth 100000 in
theorem qL_rate_2 (l : Launch) (hlt : l.stackTraces = false) (G : hy_G) (oa sz : Nat) (σ : hy_S) (f : Nat → Int64) (x1 : Int32) (x2 : Int32) (o : hy_S × Int32 × Nat) (hf : fX9_rate σ x1 x2 = some o) (ho : o.2.2 = 2) : Met l yL_rate wsL_rate ({ frames := 8, cells := 1, slots := 6, locals := 126 }) (va_Pc [.ref (G.2.2.2.1 0), .int x1, .int x2] (hy_preX (cw G σ ++ hy_ex G oa f) G sz)) (hy_QX (cw G σ ++ hy_ex G oa f) (cw G o.1 ++ hy_ex G oa f) G sz 2) 1 6 (va_A (cw G σ ++ hy_ex G oa f) sz) := by
  refine va_MetW (cc := cL_rate) (maxL := 4) (ret := some .int) (hh := [(0, 6, 9, 20), (0, 6, 12, 13)]) (by decide +kernel) rfl ?_
  intro p e s m args below meth c s₁ B hml hv
  obtain ⟨rfl, hsz, hP, hK, hD0, hN, hnp⟩ := hv
  have hx := B.exec
  have hb := B.bytes
  have hr := B.returns
  have hts := atoms_spec (ws := wsL_rate) B.pre
  have hown : s.vm.findClass RL = some m.cls := findClass_of_methodNamed B.named
  have hlocks := B.notSynchronized
  subst hsz
  have hD := hD0.self (sz := s.heap.size)
  have hA : ∀ q : Nat, s.heap.size ≤ q → va_A (cw G σ ++ hy_ex G oa f) s.heap.size q := fun q h => Or.inr h
  have hS : va_S (va_A (cw G σ ++ hy_ex G oa f) s.heap.size) s.heap s.heap [] := va_S.rf
  have hl := lv_entry ([.ref (G.2.2.2.1 0), .int x1, .int x2]) (n := 4) (Nat.le_of_ble_eq_true rfl)
  rw [lg_entry_eq]
  generalize (lg_sl ([.ref (G.2.2.2.1 0), .int x1, .int x2]) ++ List.replicate (4 - (lg_sl ([.ref (G.2.2.2.1 0), .int x1, .int x2])).length) Slot.unset).toArray = ls at hl ⊢
  have hl : lv_has ls 4 [(0, .ref (G.2.2.2.1 0)), (1, .int x1), (2, .int x2)] := hl
  have hB : hy_B RL cL_rate 4 wsL_rate G (va_A (cw G σ ++ hy_ex G oa f) s.heap.size) p s m _ c := ⟨⟨hx, hb, hml, hown, hts⟩, hK, hN⟩
  have w : hy_wx (cw G σ ++ hy_ex G oa f) G (va_A (cw G σ ++ hy_ex G oa f) s.heap.size) s s.heap [] := ⟨hP, hD, hS⟩
  refine lv_aload_n hx hb dL_rate_0 rfl (lv_at hl 0 rfl) ?_
  refine lv_iload_n hx hb dL_rate_1 rfl (lv_at hl 1 rfl) ?_
  refine lv_iload_n hx hb dL_rate_2 rfl (lv_at hl 2 rfl) ?_
  refine hy_ftv (ex := hy_ex G oa f) (As := [.int x1, .int x2]) (rest := []) (o := o) cw_fix hA hB w (fun sz => tX9_rate l hlt G sz σ x1 x2 o hf (by rw [ho]; decide)) (cwV 2 hts gL_rate_X9_rate rfl rfl rfl (by decide +kernel) ⟨Nat.le_of_ble_eq_true rfl, Nat.le_of_ble_eq_true rfl⟩) rfl (cwq_0 G σ) rfl hl.1 rfl (Nat.le_of_ble_eq_true rfl) dL_rate_3 ⟨Nat.le_of_ble_eq_true rfl, Nat.le_of_ble_eq_true rfl⟩ (fun ce q9 H locs w h1 h2 h3 => ?_)
  rw [ho] at h3
  have htab := vx_table B (hts (.codeWith yL_rate cL_rate 4 (some .int) [(0, 6, 9, 20), (0, 6, 12, 13)]) List.mem_cons_self)
  refine hx_catch (own := RL) (name := "java/lang/IllegalArgumentException") (E := "java/lang/IllegalArgumentException") hown [⟨0, 6, 9, 20⟩] ⟨0, 6, 12, 13⟩ [] htab (fun z hz => by
    simp only [List.mem_cons, List.not_mem_nil, or_false] at hz
    rcases hz with rfl
    · exact ⟨by decide, by decide, "java/lang/IndexOutOfBoundsException", hts (.classLink RL 20 "java/lang/IndexOutOfBoundsException") (by decide +kernel), hnp ("java/lang/IllegalArgumentException", "java/lang/IndexOutOfBoundsException") (by decide +kernel)⟩) (by decide) (by decide) (hts (.classLink RL 13 "java/lang/IllegalArgumentException") (by decide +kernel)) (va_Nw.use rfl (hB.2.2.1.2.1.2.2.2.1 "java/lang/IllegalArgumentException" (by decide +kernel))) h1 h2 h3 ?_
  refine lv_astore_n (lv' := [(3, .ref q9), (0, .ref (G.2.2.2.1 0)), (1, .int x1), (2, .int x2)]) hx hb dL_rate_12 rfl hl (by decide) rfl (fun ls hl => ?_)
  refine lv_iconst (v := 2) hx hb dL_rate_13 (by decide) ?_
  exact W.iret hx hb hr (fun t ht hW => ⟨⟨2, (), rfl, rfl, by show va_P _ _ _ t.heap; rw [ht]; exact w.1⟩, w.2.2.F ht⟩) w.2.2.2.2 dL_rate_14
set_option maxHeartbeats 4000000 in
set_option maxRecDepth 100000 in
theorem rL_kind (l : Launch) (G : hy_G) (oa sz : Nat) (σ : hy_S) (f : Nat → Int64) (x1 : Int32) (x2 : Int32) (x3 : Int32) (o : hy_S × Int32 × Nat) (hf : fX9_kind σ x1 x2 x3 = some o) (ho : o.2.2 = 0) : Met l yL_kind wsL_kind ({ frames := 8, cells := 0, slots := 0, locals := 127 }) (va_Pc [.ref (G.2.2.2.1 0), .int x1, .int x2, .int x3, .ref oa] (hy_preX (cw G σ ++ hy_ex G oa f) G sz)) (hy_QX (cw G σ ++ hy_ex G oa f) (cw G o.1 ++ hy_ex G oa (vp_updL f (Int32.toNatClampNeg 0) o.2.1.toInt64)) G sz 0) 0 0 (va_A (cw G σ ++ hy_ex G oa f) sz) := by
  refine va_MetW (cc := cL_kind) (maxL := 6) (ret := some .int) (hh := [(0, 12, 15, 13), (0, 12, 19, 15)]) (by decide +kernel) rfl ?_
  intro p e s m args below meth c s₁ B hml hv
  obtain ⟨rfl, hsz, hP, hK, hD0, hN, hnp⟩ := hv
  have hx := B.exec
  have hb := B.bytes
  have hr := B.returns
  have hts := atoms_spec (ws := wsL_kind) B.pre
  have hown : s.vm.findClass RL = some m.cls := findClass_of_methodNamed B.named
  have hlocks := B.notSynchronized
  subst hsz
  have hD := hD0.self (sz := s.heap.size)
  have hA : ∀ q : Nat, s.heap.size ≤ q → va_A (cw G σ ++ hy_ex G oa f) s.heap.size q := fun q h => Or.inr h
  have hS : va_S (va_A (cw G σ ++ hy_ex G oa f) s.heap.size) s.heap s.heap [] := va_S.rf
  have hl := lv_entry ([.ref (G.2.2.2.1 0), .int x1, .int x2, .int x3, .ref oa]) (n := 6) (Nat.le_of_ble_eq_true rfl)
  rw [lg_entry_eq]
  generalize (lg_sl ([.ref (G.2.2.2.1 0), .int x1, .int x2, .int x3, .ref oa]) ++ List.replicate (6 - (lg_sl ([.ref (G.2.2.2.1 0), .int x1, .int x2, .int x3, .ref oa])).length) Slot.unset).toArray = ls at hl ⊢
  have hl : lv_has ls 6 [(0, .ref (G.2.2.2.1 0)), (1, .int x1), (2, .int x2), (3, .int x3), (4, .ref oa)] := hl
  have hB : hy_B RL cL_kind 6 wsL_kind G (va_A (cw G σ ++ hy_ex G oa f) s.heap.size) p s m _ c := ⟨⟨hx, hb, hml, hown, hts⟩, hK, hN⟩
  have w : hy_wx (cw G σ ++ hy_ex G oa f) G (va_A (cw G σ ++ hy_ex G oa f) s.heap.size) s s.heap [] := ⟨hP, hD, hS⟩
  refine lv_aload hx hb dL_kind_0 (lv_at hl 4 rfl) ?_
  refine lv_iconst (v := 0) hx hb dL_kind_2 (by decide) ?_
  refine lv_aload_n hx hb dL_kind_3 rfl (lv_at hl 0 rfl) ?_
  refine lv_iload_n hx hb dL_kind_4 rfl (lv_at hl 1 rfl) ?_
  refine lv_iload_n hx hb dL_kind_5 rfl (lv_at hl 2 rfl) ?_
  refine lv_iload_n hx hb dL_kind_6 rfl (lv_at hl 3 rfl) ?_
  refine hy_fv (ex := hy_ex G oa f) (As := [.int x1, .int x2, .int x3]) (rest := [.int 0, .ref oa]) (o := (o.1, o.2.1)) cw_fix hA hB w (fun sz => mX9_kind l G sz σ x1 x2 x3 o hf ho) (cwV 3 hts gL_kind_X9_kind rfl rfl rfl (by decide +kernel) ⟨Nat.le_of_ble_eq_true rfl, Nat.le_of_ble_eq_true rfl⟩) rfl (cwq_0 G σ) rfl hl.1 rfl (Nat.le_of_ble_eq_true rfl) dL_kind_7 ⟨Nat.zero_le _, Nat.zero_le _⟩ (fun H locs w => ?_)
  refine lv_i2l (v := o.2.1.toInt64) hx hb dL_kind_10 rfl ?_
  refine va_last (x := o.2.1.toInt64) hx hb hB.2.1 w.1 w.2.1 w.2.2 40 3 rfl rfl (by unfold vp_in; decide) dL_kind_11 (fun H locs hP hD hS => ?_)
  refine lv_goto (tgt := 23) hx hb dL_kind_12 (by decide) ?_
  refine lv_iconst (v := 0) hx hb dL_kind_23 (by decide) ?_
  exact W.iret hx hb hr (fun t ht hW => ⟨⟨0, (), rfl, rfl, by show va_P _ _ _ t.heap; rw [ht]; exact hP⟩, hS.F ht⟩) hS.2.2 dL_kind_24
set_option maxHeartbeats 4000000 in
set_option maxRecDepth 100000 in
theorem qL_kind_1 (l : Launch) (hlt : l.stackTraces = false) (G : hy_G) (oa sz : Nat) (σ : hy_S) (f : Nat → Int64) (x1 : Int32) (x2 : Int32) (x3 : Int32) (o : hy_S × Int32 × Nat) (hf : fX9_kind σ x1 x2 x3 = some o) (ho : o.2.2 = 2) : Met l yL_kind wsL_kind ({ frames := 8, cells := 1, slots := 6, locals := 127 }) (va_Pc [.ref (G.2.2.2.1 0), .int x1, .int x2, .int x3, .ref oa] (hy_preX (cw G σ ++ hy_ex G oa f) G sz)) (hy_QX (cw G σ ++ hy_ex G oa f) (cw G o.1 ++ hy_ex G oa f) G sz 1) 1 6 (va_A (cw G σ ++ hy_ex G oa f) sz) := by
  refine va_MetW (cc := cL_kind) (maxL := 6) (ret := some .int) (hh := [(0, 12, 15, 13), (0, 12, 19, 15)]) (by decide +kernel) rfl ?_
  intro p e s m args below meth c s₁ B hml hv
  obtain ⟨rfl, hsz, hP, hK, hD0, hN, hnp⟩ := hv
  have hx := B.exec
  have hb := B.bytes
  have hr := B.returns
  have hts := atoms_spec (ws := wsL_kind) B.pre
  have hown : s.vm.findClass RL = some m.cls := findClass_of_methodNamed B.named
  have hlocks := B.notSynchronized
  subst hsz
  have hD := hD0.self (sz := s.heap.size)
  have hA : ∀ q : Nat, s.heap.size ≤ q → va_A (cw G σ ++ hy_ex G oa f) s.heap.size q := fun q h => Or.inr h
  have hS : va_S (va_A (cw G σ ++ hy_ex G oa f) s.heap.size) s.heap s.heap [] := va_S.rf
  have hl := lv_entry ([.ref (G.2.2.2.1 0), .int x1, .int x2, .int x3, .ref oa]) (n := 6) (Nat.le_of_ble_eq_true rfl)
  rw [lg_entry_eq]
  generalize (lg_sl ([.ref (G.2.2.2.1 0), .int x1, .int x2, .int x3, .ref oa]) ++ List.replicate (6 - (lg_sl ([.ref (G.2.2.2.1 0), .int x1, .int x2, .int x3, .ref oa])).length) Slot.unset).toArray = ls at hl ⊢
  have hl : lv_has ls 6 [(0, .ref (G.2.2.2.1 0)), (1, .int x1), (2, .int x2), (3, .int x3), (4, .ref oa)] := hl
  have hB : hy_B RL cL_kind 6 wsL_kind G (va_A (cw G σ ++ hy_ex G oa f) s.heap.size) p s m _ c := ⟨⟨hx, hb, hml, hown, hts⟩, hK, hN⟩
  have w : hy_wx (cw G σ ++ hy_ex G oa f) G (va_A (cw G σ ++ hy_ex G oa f) s.heap.size) s s.heap [] := ⟨hP, hD, hS⟩
  refine lv_aload hx hb dL_kind_0 (lv_at hl 4 rfl) ?_
  refine lv_iconst (v := 0) hx hb dL_kind_2 (by decide) ?_
  refine lv_aload_n hx hb dL_kind_3 rfl (lv_at hl 0 rfl) ?_
  refine lv_iload_n hx hb dL_kind_4 rfl (lv_at hl 1 rfl) ?_
  refine lv_iload_n hx hb dL_kind_5 rfl (lv_at hl 2 rfl) ?_
  refine lv_iload_n hx hb dL_kind_6 rfl (lv_at hl 3 rfl) ?_
  refine hy_ft (ex := hy_ex G oa f) (As := [.int x1, .int x2, .int x3]) (rest := [.int 0, .ref oa]) (o := o) cw_fix hA hB w (fun sz => tX9_kind l hlt G sz σ x1 x2 x3 o hf (by rw [ho]; decide)) (cwV 3 hts gL_kind_X9_kind rfl rfl rfl (by decide +kernel) ⟨Nat.le_of_ble_eq_true rfl, Nat.le_of_ble_eq_true rfl⟩) rfl (cwq_0 G σ) rfl hl.1 rfl (Nat.le_of_ble_eq_true rfl) dL_kind_7 ⟨Nat.le_of_ble_eq_true rfl, Nat.le_of_ble_eq_true rfl⟩ (fun ce q9 H locs w h1 h2 h3 => ?_)
  rw [ho] at h3
  have htab := vx_table B (hts (.codeWith yL_kind cL_kind 6 (some .int) [(0, 12, 15, 13), (0, 12, 19, 15)]) List.mem_cons_self)
  refine hx_catch (own := RL) (name := "java/lang/IllegalArgumentException") (E := "java/lang/IllegalArgumentException") hown [] ⟨0, 12, 15, 13⟩ [⟨0, 12, 19, 15⟩] htab (fun z hz => by cases hz) (by decide) (by decide) (hts (.classLink RL 13 "java/lang/IllegalArgumentException") (by decide +kernel)) (va_Nw.use rfl (hB.2.2.1.2.1.2.2.2.1 "java/lang/IllegalArgumentException" (by decide +kernel))) h1 h2 h3 ?_
  refine lv_astore (lv' := [(5, .ref q9), (0, .ref (G.2.2.2.1 0)), (1, .int x1), (2, .int x2), (3, .int x3), (4, .ref oa)]) hx hb dL_kind_15 hl (by decide) rfl (fun ls hl => ?_)
  refine lv_iconst (v := 1) hx hb dL_kind_17 (by decide) ?_
  exact W.iret hx hb hr (fun t ht hW => ⟨⟨1, (), rfl, rfl, by show va_P _ _ _ t.heap; rw [ht]; exact w.1⟩, w.2.2.F ht⟩) w.2.2.2.2 dL_kind_18
set_option maxHeartbeats 4000000 in
set_option maxRecDepth 100000 in
theorem qL_kind_2 (l : Launch) (hlt : l.stackTraces = false) (G : hy_G) (oa sz : Nat) (σ : hy_S) (f : Nat → Int64) (x1 : Int32) (x2 : Int32) (x3 : Int32) (o : hy_S × Int32 × Nat) (hf : fX9_kind σ x1 x2 x3 = some o) (ho : o.2.2 = 3) : Met l yL_kind wsL_kind ({ frames := 8, cells := 1, slots := 6, locals := 127 }) (va_Pc [.ref (G.2.2.2.1 0), .int x1, .int x2, .int x3, .ref oa] (hy_preX (cw G σ ++ hy_ex G oa f) G sz)) (hy_QX (cw G σ ++ hy_ex G oa f) (cw G o.1 ++ hy_ex G oa f) G sz 2) 1 6 (va_A (cw G σ ++ hy_ex G oa f) sz) := by
  refine va_MetW (cc := cL_kind) (maxL := 6) (ret := some .int) (hh := [(0, 12, 15, 13), (0, 12, 19, 15)]) (by decide +kernel) rfl ?_
  intro p e s m args below meth c s₁ B hml hv
  obtain ⟨rfl, hsz, hP, hK, hD0, hN, hnp⟩ := hv
  have hx := B.exec
  have hb := B.bytes
  have hr := B.returns
  have hts := atoms_spec (ws := wsL_kind) B.pre
  have hown : s.vm.findClass RL = some m.cls := findClass_of_methodNamed B.named
  have hlocks := B.notSynchronized
  subst hsz
  have hD := hD0.self (sz := s.heap.size)
  have hA : ∀ q : Nat, s.heap.size ≤ q → va_A (cw G σ ++ hy_ex G oa f) s.heap.size q := fun q h => Or.inr h
  have hS : va_S (va_A (cw G σ ++ hy_ex G oa f) s.heap.size) s.heap s.heap [] := va_S.rf
  have hl := lv_entry ([.ref (G.2.2.2.1 0), .int x1, .int x2, .int x3, .ref oa]) (n := 6) (Nat.le_of_ble_eq_true rfl)
  rw [lg_entry_eq]
  generalize (lg_sl ([.ref (G.2.2.2.1 0), .int x1, .int x2, .int x3, .ref oa]) ++ List.replicate (6 - (lg_sl ([.ref (G.2.2.2.1 0), .int x1, .int x2, .int x3, .ref oa])).length) Slot.unset).toArray = ls at hl ⊢
  have hl : lv_has ls 6 [(0, .ref (G.2.2.2.1 0)), (1, .int x1), (2, .int x2), (3, .int x3), (4, .ref oa)] := hl
  have hB : hy_B RL cL_kind 6 wsL_kind G (va_A (cw G σ ++ hy_ex G oa f) s.heap.size) p s m _ c := ⟨⟨hx, hb, hml, hown, hts⟩, hK, hN⟩
  have w : hy_wx (cw G σ ++ hy_ex G oa f) G (va_A (cw G σ ++ hy_ex G oa f) s.heap.size) s s.heap [] := ⟨hP, hD, hS⟩
  refine lv_aload hx hb dL_kind_0 (lv_at hl 4 rfl) ?_
  refine lv_iconst (v := 0) hx hb dL_kind_2 (by decide) ?_
  refine lv_aload_n hx hb dL_kind_3 rfl (lv_at hl 0 rfl) ?_
  refine lv_iload_n hx hb dL_kind_4 rfl (lv_at hl 1 rfl) ?_
  refine lv_iload_n hx hb dL_kind_5 rfl (lv_at hl 2 rfl) ?_
  refine lv_iload_n hx hb dL_kind_6 rfl (lv_at hl 3 rfl) ?_
  refine hy_ft (ex := hy_ex G oa f) (As := [.int x1, .int x2, .int x3]) (rest := [.int 0, .ref oa]) (o := o) cw_fix hA hB w (fun sz => tX9_kind l hlt G sz σ x1 x2 x3 o hf (by rw [ho]; decide)) (cwV 3 hts gL_kind_X9_kind rfl rfl rfl (by decide +kernel) ⟨Nat.le_of_ble_eq_true rfl, Nat.le_of_ble_eq_true rfl⟩) rfl (cwq_0 G σ) rfl hl.1 rfl (Nat.le_of_ble_eq_true rfl) dL_kind_7 ⟨Nat.le_of_ble_eq_true rfl, Nat.le_of_ble_eq_true rfl⟩ (fun ce q9 H locs w h1 h2 h3 => ?_)
  rw [ho] at h3
  have htab := vx_table B (hts (.codeWith yL_kind cL_kind 6 (some .int) [(0, 12, 15, 13), (0, 12, 19, 15)]) List.mem_cons_self)
  refine hx_catch (own := RL) (name := "java/lang/UnsupportedOperationException") (E := "java/lang/UnsupportedOperationException") hown [⟨0, 12, 15, 13⟩] ⟨0, 12, 19, 15⟩ [] htab (fun z hz => by
    simp only [List.mem_cons, List.not_mem_nil, or_false] at hz
    rcases hz with rfl
    · exact ⟨by decide, by decide, "java/lang/IllegalArgumentException", hts (.classLink RL 13 "java/lang/IllegalArgumentException") (by decide +kernel), hnp ("java/lang/UnsupportedOperationException", "java/lang/IllegalArgumentException") (by decide +kernel)⟩) (by decide) (by decide) (hts (.classLink RL 15 "java/lang/UnsupportedOperationException") (by decide +kernel)) (va_Nw.use rfl (hB.2.2.1.2.1.2.2.2.1 "java/lang/UnsupportedOperationException" (by decide +kernel))) h1 h2 h3 ?_
  refine lv_astore (lv' := [(5, .ref q9), (0, .ref (G.2.2.2.1 0)), (1, .int x1), (2, .int x2), (3, .int x3), (4, .ref oa)]) hx hb dL_kind_19 hl (by decide) rfl (fun ls hl => ?_)
  refine lv_iconst (v := 2) hx hb dL_kind_21 (by decide) ?_
  exact W.iret hx hb hr (fun t ht hW => ⟨⟨2, (), rfl, rfl, by show va_P _ _ _ t.heap; rw [ht]; exact w.1⟩, w.2.2.F ht⟩) w.2.2.2.2 dL_kind_22
set_option maxHeartbeats 4000000 in
set_option maxRecDepth 100000 in
theorem rL_load (l : Launch) (G : hy_G) (oa sz : Nat) (σ : hy_S) (f : Nat → Int64) (x1 : Int32) (x2 : Int32) (x3 : Int32) (o : hy_S × Int32 × Nat) (hf : fX9_load σ x1 x2 x3 = some o) (ho : o.2.2 = 0) : Met l yL_load wsL_load ({ frames := 9, cells := 0, slots := 0, locals := 148 }) (va_Pc [.ref (G.2.2.2.1 0), .int x1, .int x2, .int x3, .ref oa] (hy_preX (cw G σ ++ hy_ex G oa f) G sz)) (hy_QX (cw G σ ++ hy_ex G oa f) (cw G o.1 ++ hy_ex G oa (vp_updL f (Int32.toNatClampNeg 0) (if o.2.1 = 0 then 0 else 1))) G sz 0) 0 0 (va_A (cw G σ ++ hy_ex G oa f) sz) := by
  refine va_MetW (cc := cL_load) (maxL := 6) (ret := some .int) (hh := [(0, 19, 22, 20)]) (by decide +kernel) rfl ?_
  intro p e s m args below meth c s₁ B hml hv
  obtain ⟨rfl, hsz, hP, hK, hD0, hN, hnp⟩ := hv
  have hx := B.exec
  have hb := B.bytes
  have hr := B.returns
  have hts := atoms_spec (ws := wsL_load) B.pre
  have hown : s.vm.findClass RL = some m.cls := findClass_of_methodNamed B.named
  have hlocks := B.notSynchronized
  subst hsz
  have hD := hD0.self (sz := s.heap.size)
  have hA : ∀ q : Nat, s.heap.size ≤ q → va_A (cw G σ ++ hy_ex G oa f) s.heap.size q := fun q h => Or.inr h
  have hS : va_S (va_A (cw G σ ++ hy_ex G oa f) s.heap.size) s.heap s.heap [] := va_S.rf
  have hl := lv_entry ([.ref (G.2.2.2.1 0), .int x1, .int x2, .int x3, .ref oa]) (n := 6) (Nat.le_of_ble_eq_true rfl)
  rw [lg_entry_eq]
  generalize (lg_sl ([.ref (G.2.2.2.1 0), .int x1, .int x2, .int x3, .ref oa]) ++ List.replicate (6 - (lg_sl ([.ref (G.2.2.2.1 0), .int x1, .int x2, .int x3, .ref oa])).length) Slot.unset).toArray = ls at hl ⊢
  have hl : lv_has ls 6 [(0, .ref (G.2.2.2.1 0)), (1, .int x1), (2, .int x2), (3, .int x3), (4, .ref oa)] := hl
  have hB : hy_B RL cL_load 6 wsL_load G (va_A (cw G σ ++ hy_ex G oa f) s.heap.size) p s m _ c := ⟨⟨hx, hb, hml, hown, hts⟩, hK, hN⟩
  have w : hy_wx (cw G σ ++ hy_ex G oa f) G (va_A (cw G σ ++ hy_ex G oa f) s.heap.size) s s.heap [] := ⟨hP, hD, hS⟩
  refine lv_aload hx hb dL_load_0 (lv_at hl 4 rfl) ?_
  refine lv_iconst (v := 0) hx hb dL_load_2 (by decide) ?_
  refine lv_aload_n hx hb dL_load_3 rfl (lv_at hl 0 rfl) ?_
  refine lv_iload_n hx hb dL_load_4 rfl (lv_at hl 1 rfl) ?_
  refine lv_iload_n hx hb dL_load_5 rfl (lv_at hl 2 rfl) ?_
  refine lv_iload_n hx hb dL_load_6 rfl (lv_at hl 3 rfl) ?_
  refine hy_fv (ex := hy_ex G oa f) (As := [.int x1, .int x2, .int x3]) (rest := [.int 0, .ref oa]) (o := (o.1, o.2.1)) cw_fix hA hB w (fun sz => mX9_load l G sz σ x1 x2 x3 o hf ho) (cwV 3 hts gL_load_X9_load rfl rfl rfl (by decide +kernel) ⟨Nat.le_of_ble_eq_true rfl, Nat.le_of_ble_eq_true rfl⟩) rfl (cwq_0 G σ) rfl hl.1 rfl (Nat.le_of_ble_eq_true rfl) dL_load_7 ⟨Nat.zero_le _, Nat.zero_le _⟩ (fun H locs w => ?_)
  refine lv_if_eq (tgt := 17) hx hb dL_load_10 (by decide) (fun c1 => ?_) (fun c1 => ?_)
  · rw [if_pos (show o.2.1 = 0 from c1)]
    refine lv_lconst (v := 0) hx hb dL_load_17 (by decide) ?_
    refine va_last (x := 0) hx hb hB.2.1 w.1 w.2.1 w.2.2 40 3 rfl rfl (by unfold vp_in; decide) dL_load_18 (fun H locs hP hD hS => ?_)
    refine lv_goto (tgt := 26) hx hb dL_load_19 (by decide) ?_
    refine lv_iconst (v := 0) hx hb dL_load_26 (by decide) ?_
    exact W.iret hx hb hr (fun t ht hW => ⟨⟨0, (), rfl, rfl, by show va_P _ _ _ t.heap; rw [ht]; exact hP⟩, hS.F ht⟩) hS.2.2 dL_load_27
  · rw [if_neg (show ¬ o.2.1 = 0 from c1)]
    refine lv_lconst (v := 1) hx hb dL_load_13 (by decide) ?_
    refine lv_goto (tgt := 18) hx hb dL_load_14 (by decide) ?_
    refine va_last (x := 1) hx hb hB.2.1 w.1 w.2.1 w.2.2 40 3 rfl rfl (by unfold vp_in; decide) dL_load_18 (fun H locs hP hD hS => ?_)
    refine lv_goto (tgt := 26) hx hb dL_load_19 (by decide) ?_
    refine lv_iconst (v := 0) hx hb dL_load_26 (by decide) ?_
    exact W.iret hx hb hr (fun t ht hW => ⟨⟨0, (), rfl, rfl, by show va_P _ _ _ t.heap; rw [ht]; exact hP⟩, hS.F ht⟩) hS.2.2 dL_load_27
set_option maxHeartbeats 4000000 in
set_option maxRecDepth 100000 in
theorem qL_load_1 (l : Launch) (hlt : l.stackTraces = false) (G : hy_G) (oa sz : Nat) (σ : hy_S) (f : Nat → Int64) (x1 : Int32) (x2 : Int32) (x3 : Int32) (o : hy_S × Int32 × Nat) (hf : fX9_load σ x1 x2 x3 = some o) (ho : o.2.2 = 1) : Met l yL_load wsL_load ({ frames := 9, cells := 1, slots := 6, locals := 148 }) (va_Pc [.ref (G.2.2.2.1 0), .int x1, .int x2, .int x3, .ref oa] (hy_preX (cw G σ ++ hy_ex G oa f) G sz)) (hy_QX (cw G σ ++ hy_ex G oa f) (cw G o.1 ++ hy_ex G oa f) G sz 1) 1 6 (va_A (cw G σ ++ hy_ex G oa f) sz) := by
  refine va_MetW (cc := cL_load) (maxL := 6) (ret := some .int) (hh := [(0, 19, 22, 20)]) (by decide +kernel) rfl ?_
  intro p e s m args below meth c s₁ B hml hv
  obtain ⟨rfl, hsz, hP, hK, hD0, hN, hnp⟩ := hv
  have hx := B.exec
  have hb := B.bytes
  have hr := B.returns
  have hts := atoms_spec (ws := wsL_load) B.pre
  have hown : s.vm.findClass RL = some m.cls := findClass_of_methodNamed B.named
  have hlocks := B.notSynchronized
  subst hsz
  have hD := hD0.self (sz := s.heap.size)
  have hA : ∀ q : Nat, s.heap.size ≤ q → va_A (cw G σ ++ hy_ex G oa f) s.heap.size q := fun q h => Or.inr h
  have hS : va_S (va_A (cw G σ ++ hy_ex G oa f) s.heap.size) s.heap s.heap [] := va_S.rf
  have hl := lv_entry ([.ref (G.2.2.2.1 0), .int x1, .int x2, .int x3, .ref oa]) (n := 6) (Nat.le_of_ble_eq_true rfl)
  rw [lg_entry_eq]
  generalize (lg_sl ([.ref (G.2.2.2.1 0), .int x1, .int x2, .int x3, .ref oa]) ++ List.replicate (6 - (lg_sl ([.ref (G.2.2.2.1 0), .int x1, .int x2, .int x3, .ref oa])).length) Slot.unset).toArray = ls at hl ⊢
  have hl : lv_has ls 6 [(0, .ref (G.2.2.2.1 0)), (1, .int x1), (2, .int x2), (3, .int x3), (4, .ref oa)] := hl
  have hB : hy_B RL cL_load 6 wsL_load G (va_A (cw G σ ++ hy_ex G oa f) s.heap.size) p s m _ c := ⟨⟨hx, hb, hml, hown, hts⟩, hK, hN⟩
  have w : hy_wx (cw G σ ++ hy_ex G oa f) G (va_A (cw G σ ++ hy_ex G oa f) s.heap.size) s s.heap [] := ⟨hP, hD, hS⟩
  refine lv_aload hx hb dL_load_0 (lv_at hl 4 rfl) ?_
  refine lv_iconst (v := 0) hx hb dL_load_2 (by decide) ?_
  refine lv_aload_n hx hb dL_load_3 rfl (lv_at hl 0 rfl) ?_
  refine lv_iload_n hx hb dL_load_4 rfl (lv_at hl 1 rfl) ?_
  refine lv_iload_n hx hb dL_load_5 rfl (lv_at hl 2 rfl) ?_
  refine lv_iload_n hx hb dL_load_6 rfl (lv_at hl 3 rfl) ?_
  refine hy_ft (ex := hy_ex G oa f) (As := [.int x1, .int x2, .int x3]) (rest := [.int 0, .ref oa]) (o := o) cw_fix hA hB w (fun sz => tX9_load l hlt G sz σ x1 x2 x3 o hf (by rw [ho]; decide)) (cwV 3 hts gL_load_X9_load rfl rfl rfl (by decide +kernel) ⟨Nat.le_of_ble_eq_true rfl, Nat.le_of_ble_eq_true rfl⟩) rfl (cwq_0 G σ) rfl hl.1 rfl (Nat.le_of_ble_eq_true rfl) dL_load_7 ⟨Nat.le_of_ble_eq_true rfl, Nat.le_of_ble_eq_true rfl⟩ (fun ce q9 H locs w h1 h2 h3 => ?_)
  rw [ho] at h3
  have htab := vx_table B (hts (.codeWith yL_load cL_load 6 (some .int) [(0, 19, 22, 20)]) List.mem_cons_self)
  refine hx_catch (own := RL) (name := "java/lang/IndexOutOfBoundsException") (E := "java/lang/IndexOutOfBoundsException") hown [] ⟨0, 19, 22, 20⟩ [] htab (fun z hz => by cases hz) (by decide) (by decide) (hts (.classLink RL 20 "java/lang/IndexOutOfBoundsException") (by decide +kernel)) (va_Nw.use rfl (hB.2.2.1.2.1.2.2.2.1 "java/lang/IndexOutOfBoundsException" (by decide +kernel))) h1 h2 h3 ?_
  refine lv_astore (lv' := [(5, .ref q9), (0, .ref (G.2.2.2.1 0)), (1, .int x1), (2, .int x2), (3, .int x3), (4, .ref oa)]) hx hb dL_load_22 hl (by decide) rfl (fun ls hl => ?_)
  refine lv_iconst (v := 1) hx hb dL_load_24 (by decide) ?_
  exact W.iret hx hb hr (fun t ht hW => ⟨⟨1, (), rfl, rfl, by show va_P _ _ _ t.heap; rw [ht]; exact w.1⟩, w.2.2.F ht⟩) w.2.2.2.2 dL_load_25
