set_option maxHeartbeats 4000000 in
set_option maxRecDepth 100000 in
theorem rL_rate (l : Launch) (G : hy_G) (oa sz : Nat) (σ : hy_S) (f : Nat → Int64) (x1 : Int32) (x2 : Int32) (o : hy_S × Int32 × Nat) (hf : fX9_rate σ x1 x2 = some o) (ho : o.2.2 = 0) : Met l yL_rate wsL_rate ({ frames := 8, cells := 0, slots := 0, locals := 126 }) (va_Pc [.ref (G.2.2.2.1 0), .int x1, .int x2] (hy_preX (cw G σ ++ hy_ex G oa f) G sz)) (hy_QX (cw G σ ++ hy_ex G oa f) (cw G o.1 ++ hy_ex G oa f) G sz 0) 0 0 (va_A (cw G σ ++ hy_ex G oa f) sz) := by
  refine va_MetW (cc := cL_rate) (maxL := 4) (ret := some .int) (hh := [(0, 6, 9, 20), (0, 6, 12, 13)]) (by decide +kernel) rfl ?_
  intro p e s m args below meth c s₁ B hml hv
  obtain ⟨rfl, hsz, hP, hK, hD0, hN, hnp⟩ := hv
  have hx := B.exec
  have hb := B.bytes
  have hr := B.returns
  have hts := atoms_spec (ws := wsL_rate) B.pre
  have hown : s.vm.findClass RL = some m.cls := findClass_of_methodNamed B.named
  have hlocks := B.notSynchronized
  subst hsz
  have hD := hD0.self (sz := s.heap.size)
  have hA : ∀ q : Nat, s.heap.size ≤ q → va_A (cw G σ ++ hy_ex G oa f) s.heap.size q := fun q h => Or.inr h
  have hS : va_S (va_A (cw G σ ++ hy_ex G oa f) s.heap.size) s.heap s.heap [] := va_S.rf
  have hl := lv_entry ([.ref (G.2.2.2.1 0), .int x1, .int x2]) (n := 4) (Nat.le_of_ble_eq_true rfl)
  rw [lg_entry_eq]
  generalize (lg_sl ([.ref (G.2.2.2.1 0), .int x1, .int x2]) ++ List.replicate (4 - (lg_sl ([.ref (G.2.2.2.1 0), .int x1, .int x2])).length) Slot.unset).toArray = ls at hl ⊢
  have hl : lv_has ls 4 [(0, .ref (G.2.2.2.1 0)), (1, .int x1), (2, .int x2)] := hl
  have hB : hy_B RL cL_rate 4 wsL_rate G (va_A (cw G σ ++ hy_ex G oa f) s.heap.size) p s m _ c := ⟨⟨hx, hb, hml, hown, hts⟩, hK, hN⟩
  have w : hy_wx (cw G σ ++ hy_ex G oa f) G (va_A (cw G σ ++ hy_ex G oa f) s.heap.size) s s.heap [] := ⟨hP, hD, hS⟩
  refine lv_aload_n hx hb dL_rate_0 rfl (lv_at hl 0 rfl) ?_
  refine lv_iload_n hx hb dL_rate_1 rfl (lv_at hl 1 rfl) ?_
  refine lv_iload_n hx hb dL_rate_2 rfl (lv_at hl 2 rfl) ?_
  refine hy_fvv (ex := hy_ex G oa f) (As := [.int x1, .int x2]) (rest := []) (o := (o.1, o.2.1)) cw_fix hA hB w (fun sz => mX9_rate l G sz σ x1 x2 o hf ho) (cwV 2 hts gL_rate_X9_rate rfl rfl rfl (by decide +kernel) ⟨Nat.le_of_ble_eq_true rfl, Nat.le_of_ble_eq_true rfl⟩) rfl (cwq_0 G σ) rfl hl.1 rfl (Nat.le_of_ble_eq_true rfl) dL_rate_3 ⟨Nat.zero_le _, Nat.zero_le _⟩ (fun H locs w => ?_)
  refine lv_goto (tgt := 15) hx hb dL_rate_6 (by decide) ?_
  refine lv_iconst (v := 0) hx hb dL_rate_15 (by decide) ?_
  exact W.iret hx hb hr (fun t ht hW => ⟨⟨0, (), rfl, rfl, by show va_P _ _ _ t.heap; rw [ht]; exact w.1⟩, w.2.2.F ht⟩) w.2.2.2.2 dL_rate_16
set_option maxHeartbeats 4000000 in
set_option maxRecDepth 100000 in
theorem qL_rate_1 (l : Launch) (hlt : l.stackTraces = false) (G : hy_G) (oa sz : Nat) (σ : hy_S) (f : Nat → Int64) (x1 : Int32) (x2 : Int32) (o : hy_S × Int32 × Nat) (hf : fX9_rate σ x1 x2 = some o) (ho : o.2.2 = 1) : Met l yL_rate wsL_rate ({ frames := 8, cells := 1, slots := 6, locals := 126 }) (va_Pc [.ref (G.2.2.2.1 0), .int x1, .int x2] (hy_preX (cw G σ ++ hy_ex G oa f) G sz)) (hy_QX (cw G σ ++ hy_ex G oa f) (cw G o.1 ++ hy_ex G oa f) G sz 1) 1 6 (va_A (cw G σ ++ hy_ex G oa f) sz) := by
  refine va_MetW (cc := cL_rate) (maxL := 4) (ret := some .int) (hh := [(0, 6, 9, 20), (0, 6, 12, 13)]) (by decide +kernel) rfl ?_
  intro p e s m args below meth c s₁ B hml hv
  obtain ⟨rfl, hsz, hP, hK, hD0, hN, hnp⟩ := hv
  have hx := B.exec
  have hb := B.bytes
  have hr := B.returns
  have hts := atoms_spec (ws := wsL_rate) B.pre
  have hown : s.vm.findClass RL = some m.cls := findClass_of_methodNamed B.named
  have hlocks := B.notSynchronized
  subst hsz
  have hD := hD0.self (sz := s.heap.size)
  have hA : ∀ q : Nat, s.heap.size ≤ q → va_A (cw G σ ++ hy_ex G oa f) s.heap.size q := fun q h => Or.inr h
  have hS : va_S (va_A (cw G σ ++ hy_ex G oa f) s.heap.size) s.heap s.heap [] := va_S.rf
  have hl := lv_entry ([.ref (G.2.2.2.1 0), .int x1, .int x2]) (n := 4) (Nat.le_of_ble_eq_true rfl)
  rw [lg_entry_eq]
  generalize (lg_sl ([.ref (G.2.2.2.1 0), .int x1, .int x2]) ++ List.replicate (4 - (lg_sl ([.ref (G.2.2.2.1 0), .int x1, .int x2])).length) Slot.unset).toArray = ls at hl ⊢
  have hl : lv_has ls 4 [(0, .ref (G.2.2.2.1 0)), (1, .int x1), (2, .int x2)] := hl
  have hB : hy_B RL cL_rate 4 wsL_rate G (va_A (cw G σ ++ hy_ex G oa f) s.heap.size) p s m _ c := ⟨⟨hx, hb, hml, hown, hts⟩, hK, hN⟩
  have w : hy_wx (cw G σ ++ hy_ex G oa f) G (va_A (cw G σ ++ hy_ex G oa f) s.heap.size) s s.heap [] := ⟨hP, hD, hS⟩
  refine lv_aload_n hx hb dL_rate_0 rfl (lv_at hl 0 rfl) ?_
  refine lv_iload_n hx hb dL_rate_1 rfl (lv_at hl 1 rfl) ?_
  refine lv_iload_n hx hb dL_rate_2 rfl (lv_at hl 2 rfl) ?_
  refine hy_ftv (ex := hy_ex G oa f) (As := [.int x1, .int x2]) (rest := []) (o := o) cw_fix hA hB w (fun sz => tX9_rate l hlt G sz σ x1 x2 o hf (by rw [ho]; decide)) (cwV 2 hts gL_rate_X9_rate rfl rfl rfl (by decide +kernel) ⟨Nat.le_of_ble_eq_true rfl, Nat.le_of_ble_eq_true rfl⟩) rfl (cwq_0 G σ) rfl hl.1 rfl (Nat.le_of_ble_eq_true rfl) dL_rate_3 ⟨Nat.le_of_ble_eq_true rfl, Nat.le_of_ble_eq_true rfl⟩ (fun ce q9 H locs w h1 h2 h3 => ?_)
  rw [ho] at h3
  have htab := vx_table (x := yL_rate) B (hts (.codeWith yL_rate cL_rate 4 (some .int) [(0, 6, 9, 20), (0, 6, 12, 13)]) List.mem_cons_self)
  refine hx_catch (own := RL) (name := "java/lang/IndexOutOfBoundsException") (E := "java/lang/IndexOutOfBoundsException") hown [] ⟨0, 6, 9, 20⟩ [⟨0, 6, 12, 13⟩] htab (fun z hz => by cases hz) (by decide) (by decide) (hts (.classLink RL 20 "java/lang/IndexOutOfBoundsException") (by decide +kernel)) (va_Nw.use rfl (hB.2.2.1.2.1.2.2.2.1 "java/lang/IndexOutOfBoundsException" (by decide +kernel))) h1 h2 h3 ?_
  refine lv_astore_n (lv' := [(3, .ref q9), (0, .ref (G.2.2.2.1 0)), (1, .int x1), (2, .int x2)]) hx hb dL_rate_9 rfl hl (by decide) rfl (fun ls hl => ?_)
  refine lv_iconst (v := 1) hx hb dL_rate_10 (by decide) ?_
  exact W.iret hx hb hr (fun t ht hW => ⟨⟨1, (), rfl, rfl, by show va_P _ _ _ t.heap; rw [ht]; exact w.1⟩, w.2.2.F ht⟩) w.2.2.2.2 dL_rate_11
set_option maxHeartbeats 4000000 in
set_option maxRecDepth 100000 in
theorem qL_rate_2 (l : Launch) (hlt : l.stackTraces = false) (G : hy_G) (oa sz : Nat) (σ : hy_S) (f : Nat → Int64) (x1 : Int32) (x2 : Int32) (o : hy_S × Int32 × Nat) (hf : fX9_rate σ x1 x2 = some o) (ho : o.2.2 = 2) : Met l yL_rate wsL_rate ({ frames := 8, cells := 1, slots := 6, locals := 126 }) (va_Pc [.ref (G.2.2.2.1 0), .int x1, .int x2] (hy_preX (cw G σ ++ hy_ex G oa f) G sz)) (hy_QX (cw G σ ++ hy_ex G oa f) (cw G o.1 ++ hy_ex G oa f) G sz 2) 1 6 (va_A (cw G σ ++ hy_ex G oa f) sz) := by
  refine va_MetW (cc := cL_rate) (maxL := 4) (ret := some .int) (hh := [(0, 6, 9, 20), (0, 6, 12, 13)]) (by decide +kernel) rfl ?_
  intro p e s m args below meth c s₁ B hml hv
  obtain ⟨rfl, hsz, hP, hK, hD0, hN, hnp⟩ := hv
  have hx := B.exec
  have hb := B.bytes
  have hr := B.returns
  have hts := atoms_spec (ws := wsL_rate) B.pre
  have hown : s.vm.findClass RL = some m.cls := findClass_of_methodNamed B.named
  have hlocks := B.notSynchronized
  subst hsz
  have hD := hD0.self (sz := s.heap.size)
  have hA : ∀ q : Nat, s.heap.size ≤ q → va_A (cw G σ ++ hy_ex G oa f) s.heap.size q := fun q h => Or.inr h
  have hS : va_S (va_A (cw G σ ++ hy_ex G oa f) s.heap.size) s.heap s.heap [] := va_S.rf
  have hl := lv_entry ([.ref (G.2.2.2.1 0), .int x1, .int x2]) (n := 4) (Nat.le_of_ble_eq_true rfl)
  rw [lg_entry_eq]
  generalize (lg_sl ([.ref (G.2.2.2.1 0), .int x1, .int x2]) ++ List.replicate (4 - (lg_sl ([.ref (G.2.2.2.1 0), .int x1, .int x2])).length) Slot.unset).toArray = ls at hl ⊢
  have hl : lv_has ls 4 [(0, .ref (G.2.2.2.1 0)), (1, .int x1), (2, .int x2)] := hl
  have hB : hy_B RL cL_rate 4 wsL_rate G (va_A (cw G σ ++ hy_ex G oa f) s.heap.size) p s m _ c := ⟨⟨hx, hb, hml, hown, hts⟩, hK, hN⟩
  have w : hy_wx (cw G σ ++ hy_ex G oa f) G (va_A (cw G σ ++ hy_ex G oa f) s.heap.size) s s.heap [] := ⟨hP, hD, hS⟩
  refine lv_aload_n hx hb dL_rate_0 rfl (lv_at hl 0 rfl) ?_
  refine lv_iload_n hx hb dL_rate_1 rfl (lv_at hl 1 rfl) ?_
  refine lv_iload_n hx hb dL_rate_2 rfl (lv_at hl 2 rfl) ?_
  refine hy_ftv (ex := hy_ex G oa f) (As := [.int x1, .int x2]) (rest := []) (o := o) cw_fix hA hB w (fun sz => tX9_rate l hlt G sz σ x1 x2 o hf (by rw [ho]; decide)) (cwV 2 hts gL_rate_X9_rate rfl rfl rfl (by decide +kernel) ⟨Nat.le_of_ble_eq_true rfl, Nat.le_of_ble_eq_true rfl⟩) rfl (cwq_0 G σ) rfl hl.1 rfl (Nat.le_of_ble_eq_true rfl) dL_rate_3 ⟨Nat.le_of_ble_eq_true rfl, Nat.le_of_ble_eq_true rfl⟩ (fun ce q9 H locs w h1 h2 h3 => ?_)
  rw [ho] at h3
  have htab := vx_table (x := yL_rate) B (hts (.codeWith yL_rate cL_rate 4 (some .int) [(0, 6, 9, 20), (0, 6, 12, 13)]) List.mem_cons_self)
  refine hx_catch (own := RL) (name := "java/lang/IllegalArgumentException") (E := "java/lang/IllegalArgumentException") hown [⟨0, 6, 9, 20⟩] ⟨0, 6, 12, 13⟩ [] htab (fun z hz => by
    simp only [List.mem_cons, List.not_mem_nil, or_false] at hz
    rcases hz with rfl
    · exact ⟨by decide, by decide, "java/lang/IndexOutOfBoundsException", hts (.classLink RL 20 "java/lang/IndexOutOfBoundsException") (by decide +kernel), hnp ("java/lang/IllegalArgumentException", "java/lang/IndexOutOfBoundsException") (by decide +kernel)⟩) (by decide) (by decide) (hts (.classLink RL 13 "java/lang/IllegalArgumentException") (by decide +kernel)) (va_Nw.use rfl (hB.2.2.1.2.1.2.2.2.1 "java/lang/IllegalArgumentException" (by decide +kernel))) h1 h2 h3 ?_
  refine lv_astore_n (lv' := [(3, .ref q9), (0, .ref (G.2.2.2.1 0)), (1, .int x1), (2, .int x2)]) hx hb dL_rate_12 rfl hl (by decide) rfl (fun ls hl => ?_)
  refine lv_iconst (v := 2) hx hb dL_rate_13 (by decide) ?_
  exact W.iret hx hb hr (fun t ht hW => ⟨⟨2, (), rfl, rfl, by show va_P _ _ _ t.heap; rw [ht]; exact w.1⟩, w.2.2.F ht⟩) w.2.2.2.2 dL_rate_14
set_option maxHeartbeats 4000000 in
set_option maxRecDepth 100000 in
theorem rL_kind (l : Launch) (G : hy_G) (oa sz : Nat) (σ : hy_S) (f : Nat → Int64) (x1 : Int32) (x2 : Int32) (x3 : Int32) (o : hy_S × Int32 × Nat) (hf : fX9_kind σ x1 x2 x3 = some o) (ho : o.2.2 = 0) : Met l yL_kind wsL_kind ({ frames := 8, cells := 0, slots := 0, locals := 127 }) (va_Pc [.ref (G.2.2.2.1 0), .int x1, .int x2, .int x3, .ref oa] (hy_preX (cw G σ ++ hy_ex G oa f) G sz)) (hy_QX (cw G σ ++ hy_ex G oa f) (cw G o.1 ++ hy_ex G oa (vp_updL f (Int32.toNatClampNeg 0) o.2.1.toInt64)) G sz 0) 0 0 (va_A (cw G σ ++ hy_ex G oa f) sz) := by
  refine va_MetW (cc := cL_kind) (maxL := 6) (ret := some .int) (hh := [(0, 12, 15, 13), (0, 12, 19, 15)]) (by decide +kernel) rfl ?_
  intro p e s m args below meth c s₁ B hml hv
  obtain ⟨rfl, hsz, hP, hK, hD0, hN, hnp⟩ := hv
  have hx := B.exec
  have hb := B.bytes
  have hr := B.returns
  have hts := atoms_spec (ws := wsL_kind) B.pre
  have hown : s.vm.findClass RL = some m.cls := findClass_of_methodNamed B.named
  have hlocks := B.notSynchronized
  subst hsz
  have hD := hD0.self (sz := s.heap.size)
  have hA : ∀ q : Nat, s.heap.size ≤ q → va_A (cw G σ ++ hy_ex G oa f) s.heap.size q := fun q h => Or.inr h
  have hS : va_S (va_A (cw G σ ++ hy_ex G oa f) s.heap.size) s.heap s.heap [] := va_S.rf
  have hl := lv_entry ([.ref (G.2.2.2.1 0), .int x1, .int x2, .int x3, .ref oa]) (n := 6) (Nat.le_of_ble_eq_true rfl)
  rw [lg_entry_eq]
  generalize (lg_sl ([.ref (G.2.2.2.1 0), .int x1, .int x2, .int x3, .ref oa]) ++ List.replicate (6 - (lg_sl ([.ref (G.2.2.2.1 0), .int x1, .int x2, .int x3, .ref oa])).length) Slot.unset).toArray = ls at hl ⊢
  have hl : lv_has ls 6 [(0, .ref (G.2.2.2.1 0)), (1, .int x1), (2, .int x2), (3, .int x3), (4, .ref oa)] := hl
  have hB : hy_B RL cL_kind 6 wsL_kind G (va_A (cw G σ ++ hy_ex G oa f) s.heap.size) p s m _ c := ⟨⟨hx, hb, hml, hown, hts⟩, hK, hN⟩
  have w : hy_wx (cw G σ ++ hy_ex G oa f) G (va_A (cw G σ ++ hy_ex G oa f) s.heap.size) s s.heap [] := ⟨hP, hD, hS⟩
  refine lv_aload hx hb dL_kind_0 (lv_at hl 4 rfl) ?_
  refine lv_iconst (v := 0) hx hb dL_kind_2 (by decide) ?_
  refine lv_aload_n hx hb dL_kind_3 rfl (lv_at hl 0 rfl) ?_
  refine lv_iload_n hx hb dL_kind_4 rfl (lv_at hl 1 rfl) ?_
  refine lv_iload_n hx hb dL_kind_5 rfl (lv_at hl 2 rfl) ?_
  refine lv_iload_n hx hb dL_kind_6 rfl (lv_at hl 3 rfl) ?_
  refine hy_fv (ex := hy_ex G oa f) (As := [.int x1, .int x2, .int x3]) (rest := [.int 0, .ref oa]) (o := (o.1, o.2.1)) cw_fix hA hB w (fun sz => mX9_kind l G sz σ x1 x2 x3 o hf ho) (cwV 3 hts gL_kind_X9_kind rfl rfl rfl (by decide +kernel) ⟨Nat.le_of_ble_eq_true rfl, Nat.le_of_ble_eq_true rfl⟩) rfl (cwq_0 G σ) rfl hl.1 rfl (Nat.le_of_ble_eq_true rfl) dL_kind_7 ⟨Nat.zero_le _, Nat.zero_le _⟩ (fun H locs w => ?_)
  refine lv_i2l (v := o.2.1.toInt64) hx hb dL_kind_10 rfl ?_
  refine va_last (x := o.2.1.toInt64) hx hb hB.2.1 w.1 w.2.1 w.2.2 40 3 rfl rfl (by unfold vp_in; decide) dL_kind_11 (fun H locs hP hD hS => ?_)
  refine lv_goto (tgt := 23) hx hb dL_kind_12 (by decide) ?_
  refine lv_iconst (v := 0) hx hb dL_kind_23 (by decide) ?_
  exact W.iret hx hb hr (fun t ht hW => ⟨⟨0, (), rfl, rfl, by show va_P _ _ _ t.heap; rw [ht]; exact hP⟩, hS.F ht⟩) hS.2.2 dL_kind_24
set_option maxHeartbeats 4000000 in
set_option maxRecDepth 100000 in
theorem qL_kind_1 (l : Launch) (hlt : l.stackTraces = false) (G : hy_G) (oa sz : Nat) (σ : hy_S) (f : Nat → Int64) (x1 : Int32) (x2 : Int32) (x3 : Int32) (o : hy_S × Int32 × Nat) (hf : fX9_kind σ x1 x2 x3 = some o) (ho : o.2.2 = 2) : Met l yL_kind wsL_kind ({ frames := 8, cells := 1, slots := 6, locals := 127 }) (va_Pc [.ref (G.2.2.2.1 0), .int x1, .int x2, .int x3, .ref oa] (hy_preX (cw G σ ++ hy_ex G oa f) G sz)) (hy_QX (cw G σ ++ hy_ex G oa f) (cw G o.1 ++ hy_ex G oa f) G sz 1) 1 6 (va_A (cw G σ ++ hy_ex G oa f) sz) := by
  refine va_MetW (cc := cL_kind) (maxL := 6) (ret := some .int) (hh := [(0, 12, 15, 13), (0, 12, 19, 15)]) (by decide +kernel) rfl ?_
  intro p e s m args below meth c s₁ B hml hv
  obtain ⟨rfl, hsz, hP, hK, hD0, hN, hnp⟩ := hv
  have hx := B.exec
  have hb := B.bytes
  have hr := B.returns
  have hts := atoms_spec (ws := wsL_kind) B.pre
  have hown : s.vm.findClass RL = some m.cls := findClass_of_methodNamed B.named
  have hlocks := B.notSynchronized
  subst hsz
  have hD := hD0.self (sz := s.heap.size)
  have hA : ∀ q : Nat, s.heap.size ≤ q → va_A (cw G σ ++ hy_ex G oa f) s.heap.size q := fun q h => Or.inr h
  have hS : va_S (va_A (cw G σ ++ hy_ex G oa f) s.heap.size) s.heap s.heap [] := va_S.rf
  have hl := lv_entry ([.ref (G.2.2.2.1 0), .int x1, .int x2, .int x3, .ref oa]) (n := 6) (Nat.le_of_ble_eq_true rfl)
  rw [lg_entry_eq]
  generalize (lg_sl ([.ref (G.2.2.2.1 0), .int x1, .int x2, .int x3, .ref oa]) ++ List.replicate (6 - (lg_sl ([.ref (G.2.2.2.1 0), .int x1, .int x2, .int x3, .ref oa])).length) Slot.unset).toArray = ls at hl ⊢
  have hl : lv_has ls 6 [(0, .ref (G.2.2.2.1 0)), (1, .int x1), (2, .int x2), (3, .int x3), (4, .ref oa)] := hl
  have hB : hy_B RL cL_kind 6 wsL_kind G (va_A (cw G σ ++ hy_ex G oa f) s.heap.size) p s m _ c := ⟨⟨hx, hb, hml, hown, hts⟩, hK, hN⟩
  have w : hy_wx (cw G σ ++ hy_ex G oa f) G (va_A (cw G σ ++ hy_ex G oa f) s.heap.size) s s.heap [] := ⟨hP, hD, hS⟩
  refine lv_aload hx hb dL_kind_0 (lv_at hl 4 rfl) ?_
  refine lv_iconst (v := 0) hx hb dL_kind_2 (by decide) ?_
  refine lv_aload_n hx hb dL_kind_3 rfl (lv_at hl 0 rfl) ?_
  refine lv_iload_n hx hb dL_kind_4 rfl (lv_at hl 1 rfl) ?_
  refine lv_iload_n hx hb dL_kind_5 rfl (lv_at hl 2 rfl) ?_
  refine lv_iload_n hx hb dL_kind_6 rfl (lv_at hl 3 rfl) ?_
  refine hy_ft (ex := hy_ex G oa f) (As := [.int x1, .int x2, .int x3]) (rest := [.int 0, .ref oa]) (o := o) cw_fix hA hB w (fun sz => tX9_kind l hlt G sz σ x1 x2 x3 o hf (by rw [ho]; decide)) (cwV 3 hts gL_kind_X9_kind rfl rfl rfl (by decide +kernel) ⟨Nat.le_of_ble_eq_true rfl, Nat.le_of_ble_eq_true rfl⟩) rfl (cwq_0 G σ) rfl hl.1 rfl (Nat.le_of_ble_eq_true rfl) dL_kind_7 ⟨Nat.le_of_ble_eq_true rfl, Nat.le_of_ble_eq_true rfl⟩ (fun ce q9 H locs w h1 h2 h3 => ?_)
  rw [ho] at h3
  have htab := vx_table (x := yL_kind) B (hts (.codeWith yL_kind cL_kind 6 (some .int) [(0, 12, 15, 13), (0, 12, 19, 15)]) List.mem_cons_self)
  refine hx_catch (own := RL) (name := "java/lang/IllegalArgumentException") (E := "java/lang/IllegalArgumentException") hown [] ⟨0, 12, 15, 13⟩ [⟨0, 12, 19, 15⟩] htab (fun z hz => by cases hz) (by decide) (by decide) (hts (.classLink RL 13 "java/lang/IllegalArgumentException") (by decide +kernel)) (va_Nw.use rfl (hB.2.2.1.2.1.2.2.2.1 "java/lang/IllegalArgumentException" (by decide +kernel))) h1 h2 h3 ?_
  refine lv_astore (lv' := [(5, .ref q9), (0, .ref (G.2.2.2.1 0)), (1, .int x1), (2, .int x2), (3, .int x3), (4, .ref oa)]) hx hb dL_kind_15 hl (by decide) rfl (fun ls hl => ?_)
  refine lv_iconst (v := 1) hx hb dL_kind_17 (by decide) ?_
  exact W.iret hx hb hr (fun t ht hW => ⟨⟨1, (), rfl, rfl, by show va_P _ _ _ t.heap; rw [ht]; exact w.1⟩, w.2.2.F ht⟩) w.2.2.2.2 dL_kind_18
set_option maxHeartbeats 4000000 in
set_option maxRecDepth 100000 in
theorem qL_kind_2 (l : Launch) (hlt : l.stackTraces = false) (G : hy_G) (oa sz : Nat) (σ : hy_S) (f : Nat → Int64) (x1 : Int32) (x2 : Int32) (x3 : Int32) (o : hy_S × Int32 × Nat) (hf : fX9_kind σ x1 x2 x3 = some o) (ho : o.2.2 = 3) : Met l yL_kind wsL_kind ({ frames := 8, cells := 1, slots := 6, locals := 127 }) (va_Pc [.ref (G.2.2.2.1 0), .int x1, .int x2, .int x3, .ref oa] (hy_preX (cw G σ ++ hy_ex G oa f) G sz)) (hy_QX (cw G σ ++ hy_ex G oa f) (cw G o.1 ++ hy_ex G oa f) G sz 2) 1 6 (va_A (cw G σ ++ hy_ex G oa f) sz) := by
  refine va_MetW (cc := cL_kind) (maxL := 6) (ret := some .int) (hh := [(0, 12, 15, 13), (0, 12, 19, 15)]) (by decide +kernel) rfl ?_
  intro p e s m args below meth c s₁ B hml hv
  obtain ⟨rfl, hsz, hP, hK, hD0, hN, hnp⟩ := hv
  have hx := B.exec
  have hb := B.bytes
  have hr := B.returns
  have hts := atoms_spec (ws := wsL_kind) B.pre
  have hown : s.vm.findClass RL = some m.cls := findClass_of_methodNamed B.named
  have hlocks := B.notSynchronized
  subst hsz
  have hD := hD0.self (sz := s.heap.size)
  have hA : ∀ q : Nat, s.heap.size ≤ q → va_A (cw G σ ++ hy_ex G oa f) s.heap.size q := fun q h => Or.inr h
  have hS : va_S (va_A (cw G σ ++ hy_ex G oa f) s.heap.size) s.heap s.heap [] := va_S.rf
  have hl := lv_entry ([.ref (G.2.2.2.1 0), .int x1, .int x2, .int x3, .ref oa]) (n := 6) (Nat.le_of_ble_eq_true rfl)
  rw [lg_entry_eq]
  generalize (lg_sl ([.ref (G.2.2.2.1 0), .int x1, .int x2, .int x3, .ref oa]) ++ List.replicate (6 - (lg_sl ([.ref (G.2.2.2.1 0), .int x1, .int x2, .int x3, .ref oa])).length) Slot.unset).toArray = ls at hl ⊢
  have hl : lv_has ls 6 [(0, .ref (G.2.2.2.1 0)), (1, .int x1), (2, .int x2), (3, .int x3), (4, .ref oa)] := hl
  have hB : hy_B RL cL_kind 6 wsL_kind G (va_A (cw G σ ++ hy_ex G oa f) s.heap.size) p s m _ c := ⟨⟨hx, hb, hml, hown, hts⟩, hK, hN⟩
  have w : hy_wx (cw G σ ++ hy_ex G oa f) G (va_A (cw G σ ++ hy_ex G oa f) s.heap.size) s s.heap [] := ⟨hP, hD, hS⟩
  refine lv_aload hx hb dL_kind_0 (lv_at hl 4 rfl) ?_
  refine lv_iconst (v := 0) hx hb dL_kind_2 (by decide) ?_
  refine lv_aload_n hx hb dL_kind_3 rfl (lv_at hl 0 rfl) ?_
  refine lv_iload_n hx hb dL_kind_4 rfl (lv_at hl 1 rfl) ?_
  refine lv_iload_n hx hb dL_kind_5 rfl (lv_at hl 2 rfl) ?_
  refine lv_iload_n hx hb dL_kind_6 rfl (lv_at hl 3 rfl) ?_
  refine hy_ft (ex := hy_ex G oa f) (As := [.int x1, .int x2, .int x3]) (rest := [.int 0, .ref oa]) (o := o) cw_fix hA hB w (fun sz => tX9_kind l hlt G sz σ x1 x2 x3 o hf (by rw [ho]; decide)) (cwV 3 hts gL_kind_X9_kind rfl rfl rfl (by decide +kernel) ⟨Nat.le_of_ble_eq_true rfl, Nat.le_of_ble_eq_true rfl⟩) rfl (cwq_0 G σ) rfl hl.1 rfl (Nat.le_of_ble_eq_true rfl) dL_kind_7 ⟨Nat.le_of_ble_eq_true rfl, Nat.le_of_ble_eq_true rfl⟩ (fun ce q9 H locs w h1 h2 h3 => ?_)
  rw [ho] at h3
  have htab := vx_table (x := yL_kind) B (hts (.codeWith yL_kind cL_kind 6 (some .int) [(0, 12, 15, 13), (0, 12, 19, 15)]) List.mem_cons_self)
  refine hx_catch (own := RL) (name := "java/lang/UnsupportedOperationException") (E := "java/lang/UnsupportedOperationException") hown [⟨0, 12, 15, 13⟩] ⟨0, 12, 19, 15⟩ [] htab (fun z hz => by
    simp only [List.mem_cons, List.not_mem_nil, or_false] at hz
    rcases hz with rfl
    · exact ⟨by decide, by decide, "java/lang/IllegalArgumentException", hts (.classLink RL 13 "java/lang/IllegalArgumentException") (by decide +kernel), hnp ("java/lang/UnsupportedOperationException", "java/lang/IllegalArgumentException") (by decide +kernel)⟩) (by decide) (by decide) (hts (.classLink RL 15 "java/lang/UnsupportedOperationException") (by decide +kernel)) (va_Nw.use rfl (hB.2.2.1.2.1.2.2.2.1 "java/lang/UnsupportedOperationException" (by decide +kernel))) h1 h2 h3 ?_
  refine lv_astore (lv' := [(5, .ref q9), (0, .ref (G.2.2.2.1 0)), (1, .int x1), (2, .int x2), (3, .int x3), (4, .ref oa)]) hx hb dL_kind_19 hl (by decide) rfl (fun ls hl => ?_)
  refine lv_iconst (v := 2) hx hb dL_kind_21 (by decide) ?_
  exact W.iret hx hb hr (fun t ht hW => ⟨⟨2, (), rfl, rfl, by show va_P _ _ _ t.heap; rw [ht]; exact w.1⟩, w.2.2.F ht⟩) w.2.2.2.2 dL_kind_22
set_option maxHeartbeats 4000000 in
set_option maxRecDepth 100000 in
theorem rL_fire (l : Launch) (G : hy_G) (oa sz : Nat) (σ : hy_S) (f : Nat → Int64) (x1 : Int32) (x2 : Int32) (x3 : Int32) (o : hy_S × Int32 × Nat) (hf : fX9_fire σ x1 x2 x3 = some o) (ho : o.2.2 = 0) : Met l yL_fire wsL_fire ({ frames := 8, cells := 0, slots := 0, locals := 127 }) (va_Pc [.ref (G.2.2.2.1 0), .int x1, .int x2, .int x3, .ref oa] (hy_preX (cw G σ ++ hy_ex G oa f) G sz)) (hy_QX (cw G σ ++ hy_ex G oa f) (cw G o.1 ++ hy_ex G oa (vp_updL f (Int32.toNatClampNeg 0) o.2.1.toInt64)) G sz 0) 0 0 (va_A (cw G σ ++ hy_ex G oa f) sz) := by
  refine va_MetW (cc := cL_fire) (maxL := 6) (ret := some .int) (hh := [(0, 12, 15, 20), (0, 12, 19, 13), (0, 12, 23, 15)]) (by decide +kernel) rfl ?_
  intro p e s m args below meth c s₁ B hml hv
  obtain ⟨rfl, hsz, hP, hK, hD0, hN, hnp⟩ := hv
  have hx := B.exec
  have hb := B.bytes
  have hr := B.returns
  have hts := atoms_spec (ws := wsL_fire) B.pre
  have hown : s.vm.findClass RL = some m.cls := findClass_of_methodNamed B.named
  have hlocks := B.notSynchronized
  subst hsz
  have hD := hD0.self (sz := s.heap.size)
  have hA : ∀ q : Nat, s.heap.size ≤ q → va_A (cw G σ ++ hy_ex G oa f) s.heap.size q := fun q h => Or.inr h
  have hS : va_S (va_A (cw G σ ++ hy_ex G oa f) s.heap.size) s.heap s.heap [] := va_S.rf
  have hl := lv_entry ([.ref (G.2.2.2.1 0), .int x1, .int x2, .int x3, .ref oa]) (n := 6) (Nat.le_of_ble_eq_true rfl)
  rw [lg_entry_eq]
  generalize (lg_sl ([.ref (G.2.2.2.1 0), .int x1, .int x2, .int x3, .ref oa]) ++ List.replicate (6 - (lg_sl ([.ref (G.2.2.2.1 0), .int x1, .int x2, .int x3, .ref oa])).length) Slot.unset).toArray = ls at hl ⊢
  have hl : lv_has ls 6 [(0, .ref (G.2.2.2.1 0)), (1, .int x1), (2, .int x2), (3, .int x3), (4, .ref oa)] := hl
  have hB : hy_B RL cL_fire 6 wsL_fire G (va_A (cw G σ ++ hy_ex G oa f) s.heap.size) p s m _ c := ⟨⟨hx, hb, hml, hown, hts⟩, hK, hN⟩
  have w : hy_wx (cw G σ ++ hy_ex G oa f) G (va_A (cw G σ ++ hy_ex G oa f) s.heap.size) s s.heap [] := ⟨hP, hD, hS⟩
  refine lv_aload hx hb dL_fire_0 (lv_at hl 4 rfl) ?_
  refine lv_iconst (v := 0) hx hb dL_fire_2 (by decide) ?_
  refine lv_aload_n hx hb dL_fire_3 rfl (lv_at hl 0 rfl) ?_
  refine lv_iload_n hx hb dL_fire_4 rfl (lv_at hl 1 rfl) ?_
  refine lv_iload_n hx hb dL_fire_5 rfl (lv_at hl 2 rfl) ?_
  refine lv_iload_n hx hb dL_fire_6 rfl (lv_at hl 3 rfl) ?_
  refine hy_fv (ex := hy_ex G oa f) (As := [.int x1, .int x2, .int x3]) (rest := [.int 0, .ref oa]) (o := (o.1, o.2.1)) cw_fix hA hB w (fun sz => mX9_fire l G sz σ x1 x2 x3 o hf ho) (cwV 3 hts gL_fire_X9_fire rfl rfl rfl (by decide +kernel) ⟨Nat.le_of_ble_eq_true rfl, Nat.le_of_ble_eq_true rfl⟩) rfl (cwq_0 G σ) rfl hl.1 rfl (Nat.le_of_ble_eq_true rfl) dL_fire_7 ⟨Nat.zero_le _, Nat.zero_le _⟩ (fun H locs w => ?_)
  refine lv_i2l (v := o.2.1.toInt64) hx hb dL_fire_10 rfl ?_
  refine va_last (x := o.2.1.toInt64) hx hb hB.2.1 w.1 w.2.1 w.2.2 40 3 rfl rfl (by unfold vp_in; decide) dL_fire_11 (fun H locs hP hD hS => ?_)
  refine lv_goto (tgt := 27) hx hb dL_fire_12 (by decide) ?_
  refine lv_iconst (v := 0) hx hb dL_fire_27 (by decide) ?_
  exact W.iret hx hb hr (fun t ht hW => ⟨⟨0, (), rfl, rfl, by show va_P _ _ _ t.heap; rw [ht]; exact hP⟩, hS.F ht⟩) hS.2.2 dL_fire_28
set_option maxHeartbeats 4000000 in
set_option maxRecDepth 100000 in
theorem qL_fire_1 (l : Launch) (hlt : l.stackTraces = false) (G : hy_G) (oa sz : Nat) (σ : hy_S) (f : Nat → Int64) (x1 : Int32) (x2 : Int32) (x3 : Int32) (o : hy_S × Int32 × Nat) (hf : fX9_fire σ x1 x2 x3 = some o) (ho : o.2.2 = 1) : Met l yL_fire wsL_fire ({ frames := 8, cells := 1, slots := 6, locals := 127 }) (va_Pc [.ref (G.2.2.2.1 0), .int x1, .int x2, .int x3, .ref oa] (hy_preX (cw G σ ++ hy_ex G oa f) G sz)) (hy_QX (cw G σ ++ hy_ex G oa f) (cw G o.1 ++ hy_ex G oa f) G sz 1) 1 6 (va_A (cw G σ ++ hy_ex G oa f) sz) := by
  refine va_MetW (cc := cL_fire) (maxL := 6) (ret := some .int) (hh := [(0, 12, 15, 20), (0, 12, 19, 13), (0, 12, 23, 15)]) (by decide +kernel) rfl ?_
  intro p e s m args below meth c s₁ B hml hv
  obtain ⟨rfl, hsz, hP, hK, hD0, hN, hnp⟩ := hv
  have hx := B.exec
  have hb := B.bytes
  have hr := B.returns
  have hts := atoms_spec (ws := wsL_fire) B.pre
  have hown : s.vm.findClass RL = some m.cls := findClass_of_methodNamed B.named
  have hlocks := B.notSynchronized
  subst hsz
  have hD := hD0.self (sz := s.heap.size)
  have hA : ∀ q : Nat, s.heap.size ≤ q → va_A (cw G σ ++ hy_ex G oa f) s.heap.size q := fun q h => Or.inr h
  have hS : va_S (va_A (cw G σ ++ hy_ex G oa f) s.heap.size) s.heap s.heap [] := va_S.rf
  have hl := lv_entry ([.ref (G.2.2.2.1 0), .int x1, .int x2, .int x3, .ref oa]) (n := 6) (Nat.le_of_ble_eq_true rfl)
  rw [lg_entry_eq]
  generalize (lg_sl ([.ref (G.2.2.2.1 0), .int x1, .int x2, .int x3, .ref oa]) ++ List.replicate (6 - (lg_sl ([.ref (G.2.2.2.1 0), .int x1, .int x2, .int x3, .ref oa])).length) Slot.unset).toArray = ls at hl ⊢
  have hl : lv_has ls 6 [(0, .ref (G.2.2.2.1 0)), (1, .int x1), (2, .int x2), (3, .int x3), (4, .ref oa)] := hl
  have hB : hy_B RL cL_fire 6 wsL_fire G (va_A (cw G σ ++ hy_ex G oa f) s.heap.size) p s m _ c := ⟨⟨hx, hb, hml, hown, hts⟩, hK, hN⟩
  have w : hy_wx (cw G σ ++ hy_ex G oa f) G (va_A (cw G σ ++ hy_ex G oa f) s.heap.size) s s.heap [] := ⟨hP, hD, hS⟩
  refine lv_aload hx hb dL_fire_0 (lv_at hl 4 rfl) ?_
  refine lv_iconst (v := 0) hx hb dL_fire_2 (by decide) ?_
  refine lv_aload_n hx hb dL_fire_3 rfl (lv_at hl 0 rfl) ?_
  refine lv_iload_n hx hb dL_fire_4 rfl (lv_at hl 1 rfl) ?_
  refine lv_iload_n hx hb dL_fire_5 rfl (lv_at hl 2 rfl) ?_
  refine lv_iload_n hx hb dL_fire_6 rfl (lv_at hl 3 rfl) ?_
  refine hy_ft (ex := hy_ex G oa f) (As := [.int x1, .int x2, .int x3]) (rest := [.int 0, .ref oa]) (o := o) cw_fix hA hB w (fun sz => tX9_fire l hlt G sz σ x1 x2 x3 o hf (by rw [ho]; decide)) (cwV 3 hts gL_fire_X9_fire rfl rfl rfl (by decide +kernel) ⟨Nat.le_of_ble_eq_true rfl, Nat.le_of_ble_eq_true rfl⟩) rfl (cwq_0 G σ) rfl hl.1 rfl (Nat.le_of_ble_eq_true rfl) dL_fire_7 ⟨Nat.le_of_ble_eq_true rfl, Nat.le_of_ble_eq_true rfl⟩ (fun ce q9 H locs w h1 h2 h3 => ?_)
  rw [ho] at h3
  have htab := vx_table (x := yL_fire) B (hts (.codeWith yL_fire cL_fire 6 (some .int) [(0, 12, 15, 20), (0, 12, 19, 13), (0, 12, 23, 15)]) List.mem_cons_self)
  refine hx_catch (own := RL) (name := "java/lang/IndexOutOfBoundsException") (E := "java/lang/IndexOutOfBoundsException") hown [] ⟨0, 12, 15, 20⟩ [⟨0, 12, 19, 13⟩, ⟨0, 12, 23, 15⟩] htab (fun z hz => by cases hz) (by decide) (by decide) (hts (.classLink RL 20 "java/lang/IndexOutOfBoundsException") (by decide +kernel)) (va_Nw.use rfl (hB.2.2.1.2.1.2.2.2.1 "java/lang/IndexOutOfBoundsException" (by decide +kernel))) h1 h2 h3 ?_
  refine lv_astore (lv' := [(5, .ref q9), (0, .ref (G.2.2.2.1 0)), (1, .int x1), (2, .int x2), (3, .int x3), (4, .ref oa)]) hx hb dL_fire_15 hl (by decide) rfl (fun ls hl => ?_)
  refine lv_iconst (v := 1) hx hb dL_fire_17 (by decide) ?_
  exact W.iret hx hb hr (fun t ht hW => ⟨⟨1, (), rfl, rfl, by show va_P _ _ _ t.heap; rw [ht]; exact w.1⟩, w.2.2.F ht⟩) w.2.2.2.2 dL_fire_18
set_option maxHeartbeats 4000000 in
set_option maxRecDepth 100000 in
theorem qL_fire_2 (l : Launch) (hlt : l.stackTraces = false) (G : hy_G) (oa sz : Nat) (σ : hy_S) (f : Nat → Int64) (x1 : Int32) (x2 : Int32) (x3 : Int32) (o : hy_S × Int32 × Nat) (hf : fX9_fire σ x1 x2 x3 = some o) (ho : o.2.2 = 2) : Met l yL_fire wsL_fire ({ frames := 8, cells := 1, slots := 6, locals := 127 }) (va_Pc [.ref (G.2.2.2.1 0), .int x1, .int x2, .int x3, .ref oa] (hy_preX (cw G σ ++ hy_ex G oa f) G sz)) (hy_QX (cw G σ ++ hy_ex G oa f) (cw G o.1 ++ hy_ex G oa f) G sz 2) 1 6 (va_A (cw G σ ++ hy_ex G oa f) sz) := by
  refine va_MetW (cc := cL_fire) (maxL := 6) (ret := some .int) (hh := [(0, 12, 15, 20), (0, 12, 19, 13), (0, 12, 23, 15)]) (by decide +kernel) rfl ?_
  intro p e s m args below meth c s₁ B hml hv
  obtain ⟨rfl, hsz, hP, hK, hD0, hN, hnp⟩ := hv
  have hx := B.exec
  have hb := B.bytes
  have hr := B.returns
  have hts := atoms_spec (ws := wsL_fire) B.pre
  have hown : s.vm.findClass RL = some m.cls := findClass_of_methodNamed B.named
  have hlocks := B.notSynchronized
  subst hsz
  have hD := hD0.self (sz := s.heap.size)
  have hA : ∀ q : Nat, s.heap.size ≤ q → va_A (cw G σ ++ hy_ex G oa f) s.heap.size q := fun q h => Or.inr h
  have hS : va_S (va_A (cw G σ ++ hy_ex G oa f) s.heap.size) s.heap s.heap [] := va_S.rf
  have hl := lv_entry ([.ref (G.2.2.2.1 0), .int x1, .int x2, .int x3, .ref oa]) (n := 6) (Nat.le_of_ble_eq_true rfl)
  rw [lg_entry_eq]
  generalize (lg_sl ([.ref (G.2.2.2.1 0), .int x1, .int x2, .int x3, .ref oa]) ++ List.replicate (6 - (lg_sl ([.ref (G.2.2.2.1 0), .int x1, .int x2, .int x3, .ref oa])).length) Slot.unset).toArray = ls at hl ⊢
  have hl : lv_has ls 6 [(0, .ref (G.2.2.2.1 0)), (1, .int x1), (2, .int x2), (3, .int x3), (4, .ref oa)] := hl
  have hB : hy_B RL cL_fire 6 wsL_fire G (va_A (cw G σ ++ hy_ex G oa f) s.heap.size) p s m _ c := ⟨⟨hx, hb, hml, hown, hts⟩, hK, hN⟩
  have w : hy_wx (cw G σ ++ hy_ex G oa f) G (va_A (cw G σ ++ hy_ex G oa f) s.heap.size) s s.heap [] := ⟨hP, hD, hS⟩
  refine lv_aload hx hb dL_fire_0 (lv_at hl 4 rfl) ?_
  refine lv_iconst (v := 0) hx hb dL_fire_2 (by decide) ?_
  refine lv_aload_n hx hb dL_fire_3 rfl (lv_at hl 0 rfl) ?_
  refine lv_iload_n hx hb dL_fire_4 rfl (lv_at hl 1 rfl) ?_
  refine lv_iload_n hx hb dL_fire_5 rfl (lv_at hl 2 rfl) ?_
  refine lv_iload_n hx hb dL_fire_6 rfl (lv_at hl 3 rfl) ?_
  refine hy_ft (ex := hy_ex G oa f) (As := [.int x1, .int x2, .int x3]) (rest := [.int 0, .ref oa]) (o := o) cw_fix hA hB w (fun sz => tX9_fire l hlt G sz σ x1 x2 x3 o hf (by rw [ho]; decide)) (cwV 3 hts gL_fire_X9_fire rfl rfl rfl (by decide +kernel) ⟨Nat.le_of_ble_eq_true rfl, Nat.le_of_ble_eq_true rfl⟩) rfl (cwq_0 G σ) rfl hl.1 rfl (Nat.le_of_ble_eq_true rfl) dL_fire_7 ⟨Nat.le_of_ble_eq_true rfl, Nat.le_of_ble_eq_true rfl⟩ (fun ce q9 H locs w h1 h2 h3 => ?_)
  rw [ho] at h3
  have htab := vx_table (x := yL_fire) B (hts (.codeWith yL_fire cL_fire 6 (some .int) [(0, 12, 15, 20), (0, 12, 19, 13), (0, 12, 23, 15)]) List.mem_cons_self)
  refine hx_catch (own := RL) (name := "java/lang/IllegalArgumentException") (E := "java/lang/IllegalArgumentException") hown [⟨0, 12, 15, 20⟩] ⟨0, 12, 19, 13⟩ [⟨0, 12, 23, 15⟩] htab (fun z hz => by
    simp only [List.mem_cons, List.not_mem_nil, or_false] at hz
    rcases hz with rfl
    · exact ⟨by decide, by decide, "java/lang/IndexOutOfBoundsException", hts (.classLink RL 20 "java/lang/IndexOutOfBoundsException") (by decide +kernel), hnp ("java/lang/IllegalArgumentException", "java/lang/IndexOutOfBoundsException") (by decide +kernel)⟩) (by decide) (by decide) (hts (.classLink RL 13 "java/lang/IllegalArgumentException") (by decide +kernel)) (va_Nw.use rfl (hB.2.2.1.2.1.2.2.2.1 "java/lang/IllegalArgumentException" (by decide +kernel))) h1 h2 h3 ?_
  refine lv_astore (lv' := [(5, .ref q9), (0, .ref (G.2.2.2.1 0)), (1, .int x1), (2, .int x2), (3, .int x3), (4, .ref oa)]) hx hb dL_fire_19 hl (by decide) rfl (fun ls hl => ?_)
  refine lv_iconst (v := 2) hx hb dL_fire_21 (by decide) ?_
  exact W.iret hx hb hr (fun t ht hW => ⟨⟨2, (), rfl, rfl, by show va_P _ _ _ t.heap; rw [ht]; exact w.1⟩, w.2.2.F ht⟩) w.2.2.2.2 dL_fire_22
set_option maxHeartbeats 4000000 in
set_option maxRecDepth 100000 in
theorem qL_fire_3 (l : Launch) (hlt : l.stackTraces = false) (G : hy_G) (oa sz : Nat) (σ : hy_S) (f : Nat → Int64) (x1 : Int32) (x2 : Int32) (x3 : Int32) (o : hy_S × Int32 × Nat) (hf : fX9_fire σ x1 x2 x3 = some o) (ho : o.2.2 = 3) : Met l yL_fire wsL_fire ({ frames := 8, cells := 1, slots := 6, locals := 127 }) (va_Pc [.ref (G.2.2.2.1 0), .int x1, .int x2, .int x3, .ref oa] (hy_preX (cw G σ ++ hy_ex G oa f) G sz)) (hy_QX (cw G σ ++ hy_ex G oa f) (cw G o.1 ++ hy_ex G oa f) G sz 3) 1 6 (va_A (cw G σ ++ hy_ex G oa f) sz) := by
  refine va_MetW (cc := cL_fire) (maxL := 6) (ret := some .int) (hh := [(0, 12, 15, 20), (0, 12, 19, 13), (0, 12, 23, 15)]) (by decide +kernel) rfl ?_
  intro p e s m args below meth c s₁ B hml hv
  obtain ⟨rfl, hsz, hP, hK, hD0, hN, hnp⟩ := hv
  have hx := B.exec
  have hb := B.bytes
  have hr := B.returns
  have hts := atoms_spec (ws := wsL_fire) B.pre
  have hown : s.vm.findClass RL = some m.cls := findClass_of_methodNamed B.named
  have hlocks := B.notSynchronized
  subst hsz
  have hD := hD0.self (sz := s.heap.size)
  have hA : ∀ q : Nat, s.heap.size ≤ q → va_A (cw G σ ++ hy_ex G oa f) s.heap.size q := fun q h => Or.inr h
  have hS : va_S (va_A (cw G σ ++ hy_ex G oa f) s.heap.size) s.heap s.heap [] := va_S.rf
  have hl := lv_entry ([.ref (G.2.2.2.1 0), .int x1, .int x2, .int x3, .ref oa]) (n := 6) (Nat.le_of_ble_eq_true rfl)
  rw [lg_entry_eq]
  generalize (lg_sl ([.ref (G.2.2.2.1 0), .int x1, .int x2, .int x3, .ref oa]) ++ List.replicate (6 - (lg_sl ([.ref (G.2.2.2.1 0), .int x1, .int x2, .int x3, .ref oa])).length) Slot.unset).toArray = ls at hl ⊢
  have hl : lv_has ls 6 [(0, .ref (G.2.2.2.1 0)), (1, .int x1), (2, .int x2), (3, .int x3), (4, .ref oa)] := hl
  have hB : hy_B RL cL_fire 6 wsL_fire G (va_A (cw G σ ++ hy_ex G oa f) s.heap.size) p s m _ c := ⟨⟨hx, hb, hml, hown, hts⟩, hK, hN⟩
  have w : hy_wx (cw G σ ++ hy_ex G oa f) G (va_A (cw G σ ++ hy_ex G oa f) s.heap.size) s s.heap [] := ⟨hP, hD, hS⟩
  refine lv_aload hx hb dL_fire_0 (lv_at hl 4 rfl) ?_
  refine lv_iconst (v := 0) hx hb dL_fire_2 (by decide) ?_
  refine lv_aload_n hx hb dL_fire_3 rfl (lv_at hl 0 rfl) ?_
  refine lv_iload_n hx hb dL_fire_4 rfl (lv_at hl 1 rfl) ?_
  refine lv_iload_n hx hb dL_fire_5 rfl (lv_at hl 2 rfl) ?_
  refine lv_iload_n hx hb dL_fire_6 rfl (lv_at hl 3 rfl) ?_
  refine hy_ft (ex := hy_ex G oa f) (As := [.int x1, .int x2, .int x3]) (rest := [.int 0, .ref oa]) (o := o) cw_fix hA hB w (fun sz => tX9_fire l hlt G sz σ x1 x2 x3 o hf (by rw [ho]; decide)) (cwV 3 hts gL_fire_X9_fire rfl rfl rfl (by decide +kernel) ⟨Nat.le_of_ble_eq_true rfl, Nat.le_of_ble_eq_true rfl⟩) rfl (cwq_0 G σ) rfl hl.1 rfl (Nat.le_of_ble_eq_true rfl) dL_fire_7 ⟨Nat.le_of_ble_eq_true rfl, Nat.le_of_ble_eq_true rfl⟩ (fun ce q9 H locs w h1 h2 h3 => ?_)
  rw [ho] at h3
  have htab := vx_table (x := yL_fire) B (hts (.codeWith yL_fire cL_fire 6 (some .int) [(0, 12, 15, 20), (0, 12, 19, 13), (0, 12, 23, 15)]) List.mem_cons_self)
  refine hx_catch (own := RL) (name := "java/lang/UnsupportedOperationException") (E := "java/lang/UnsupportedOperationException") hown [⟨0, 12, 15, 20⟩, ⟨0, 12, 19, 13⟩] ⟨0, 12, 23, 15⟩ [] htab (fun z hz => by
    simp only [List.mem_cons, List.not_mem_nil, or_false] at hz
    rcases hz with rfl | rfl
    · exact ⟨by decide, by decide, "java/lang/IndexOutOfBoundsException", hts (.classLink RL 20 "java/lang/IndexOutOfBoundsException") (by decide +kernel), hnp ("java/lang/UnsupportedOperationException", "java/lang/IndexOutOfBoundsException") (by decide +kernel)⟩
    · exact ⟨by decide, by decide, "java/lang/IllegalArgumentException", hts (.classLink RL 13 "java/lang/IllegalArgumentException") (by decide +kernel), hnp ("java/lang/UnsupportedOperationException", "java/lang/IllegalArgumentException") (by decide +kernel)⟩) (by decide) (by decide) (hts (.classLink RL 15 "java/lang/UnsupportedOperationException") (by decide +kernel)) (va_Nw.use rfl (hB.2.2.1.2.1.2.2.2.1 "java/lang/UnsupportedOperationException" (by decide +kernel))) h1 h2 h3 ?_
  refine lv_astore (lv' := [(5, .ref q9), (0, .ref (G.2.2.2.1 0)), (1, .int x1), (2, .int x2), (3, .int x3), (4, .ref oa)]) hx hb dL_fire_23 hl (by decide) rfl (fun ls hl => ?_)
  refine lv_iconst (v := 3) hx hb dL_fire_25 (by decide) ?_
  exact W.iret hx hb hr (fun t ht hW => ⟨⟨3, (), rfl, rfl, by show va_P _ _ _ t.heap; rw [ht]; exact w.1⟩, w.2.2.F ht⟩) w.2.2.2.2 dL_fire_26
set_option maxHeartbeats 4000000 in
set_option maxRecDepth 100000 in
theorem rL_fill (l : Launch) (G : hy_G) (oa sz : Nat) (σ : hy_S) (f : Nat → Int64) (x1 : Int32) (x2 : Int32) (o : hy_S × Int32 × Nat) (hf : fX9_fill σ x1 x2 = some o) (ho : o.2.2 = 0) : Met l yL_fill wsL_fill ({ frames := 8, cells := 0, slots := 0, locals := 126 }) (va_Pc [.ref (G.2.2.2.1 0), .int x1, .int x2, .ref oa] (hy_preX (cw G σ ++ hy_ex G oa f) G sz)) (hy_QX (cw G σ ++ hy_ex G oa f) (cw G o.1 ++ hy_ex G oa (vp_updL f (Int32.toNatClampNeg 0) o.2.1.toInt64)) G sz 0) 0 0 (va_A (cw G σ ++ hy_ex G oa f) sz) := by
  refine va_MetW (cc := cL_fill) (maxL := 5) (ret := some .int) (hh := [(0, 10, 13, 20), (0, 10, 17, 13)]) (by decide +kernel) rfl ?_
  intro p e s m args below meth c s₁ B hml hv
  obtain ⟨rfl, hsz, hP, hK, hD0, hN, hnp⟩ := hv
  have hx := B.exec
  have hb := B.bytes
  have hr := B.returns
  have hts := atoms_spec (ws := wsL_fill) B.pre
  have hown : s.vm.findClass RL = some m.cls := findClass_of_methodNamed B.named
  have hlocks := B.notSynchronized
  subst hsz
  have hD := hD0.self (sz := s.heap.size)
  have hA : ∀ q : Nat, s.heap.size ≤ q → va_A (cw G σ ++ hy_ex G oa f) s.heap.size q := fun q h => Or.inr h
  have hS : va_S (va_A (cw G σ ++ hy_ex G oa f) s.heap.size) s.heap s.heap [] := va_S.rf
  have hl := lv_entry ([.ref (G.2.2.2.1 0), .int x1, .int x2, .ref oa]) (n := 5) (Nat.le_of_ble_eq_true rfl)
  rw [lg_entry_eq]
  generalize (lg_sl ([.ref (G.2.2.2.1 0), .int x1, .int x2, .ref oa]) ++ List.replicate (5 - (lg_sl ([.ref (G.2.2.2.1 0), .int x1, .int x2, .ref oa])).length) Slot.unset).toArray = ls at hl ⊢
  have hl : lv_has ls 5 [(0, .ref (G.2.2.2.1 0)), (1, .int x1), (2, .int x2), (3, .ref oa)] := hl
  have hB : hy_B RL cL_fill 5 wsL_fill G (va_A (cw G σ ++ hy_ex G oa f) s.heap.size) p s m _ c := ⟨⟨hx, hb, hml, hown, hts⟩, hK, hN⟩
  have w : hy_wx (cw G σ ++ hy_ex G oa f) G (va_A (cw G σ ++ hy_ex G oa f) s.heap.size) s s.heap [] := ⟨hP, hD, hS⟩
  refine lv_aload_n hx hb dL_fill_0 rfl (lv_at hl 3 rfl) ?_
  refine lv_iconst (v := 0) hx hb dL_fill_1 (by decide) ?_
  refine lv_aload_n hx hb dL_fill_2 rfl (lv_at hl 0 rfl) ?_
  refine lv_iload_n hx hb dL_fill_3 rfl (lv_at hl 1 rfl) ?_
  refine lv_iload_n hx hb dL_fill_4 rfl (lv_at hl 2 rfl) ?_
  refine hy_fv (ex := hy_ex G oa f) (As := [.int x1, .int x2]) (rest := [.int 0, .ref oa]) (o := (o.1, o.2.1)) cw_fix hA hB w (fun sz => mX9_fill l G sz σ x1 x2 o hf ho) (cwV 2 hts gL_fill_X9_fill rfl rfl rfl (by decide +kernel) ⟨Nat.le_of_ble_eq_true rfl, Nat.le_of_ble_eq_true rfl⟩) rfl (cwq_0 G σ) rfl hl.1 rfl (Nat.le_of_ble_eq_true rfl) dL_fill_5 ⟨Nat.zero_le _, Nat.zero_le _⟩ (fun H locs w => ?_)
  refine lv_i2l (v := o.2.1.toInt64) hx hb dL_fill_8 rfl ?_
  refine va_last (x := o.2.1.toInt64) hx hb hB.2.1 w.1 w.2.1 w.2.2 40 3 rfl rfl (by unfold vp_in; decide) dL_fill_9 (fun H locs hP hD hS => ?_)
  refine lv_goto (tgt := 21) hx hb dL_fill_10 (by decide) ?_
  refine lv_iconst (v := 0) hx hb dL_fill_21 (by decide) ?_
  exact W.iret hx hb hr (fun t ht hW => ⟨⟨0, (), rfl, rfl, by show va_P _ _ _ t.heap; rw [ht]; exact hP⟩, hS.F ht⟩) hS.2.2 dL_fill_22
set_option maxHeartbeats 4000000 in
set_option maxRecDepth 100000 in
theorem qL_fill_1 (l : Launch) (hlt : l.stackTraces = false) (G : hy_G) (oa sz : Nat) (σ : hy_S) (f : Nat → Int64) (x1 : Int32) (x2 : Int32) (o : hy_S × Int32 × Nat) (hf : fX9_fill σ x1 x2 = some o) (ho : o.2.2 = 1) : Met l yL_fill wsL_fill ({ frames := 8, cells := 1, slots := 6, locals := 126 }) (va_Pc [.ref (G.2.2.2.1 0), .int x1, .int x2, .ref oa] (hy_preX (cw G σ ++ hy_ex G oa f) G sz)) (hy_QX (cw G σ ++ hy_ex G oa f) (cw G o.1 ++ hy_ex G oa f) G sz 1) 1 6 (va_A (cw G σ ++ hy_ex G oa f) sz) := by
  refine va_MetW (cc := cL_fill) (maxL := 5) (ret := some .int) (hh := [(0, 10, 13, 20), (0, 10, 17, 13)]) (by decide +kernel) rfl ?_
  intro p e s m args below meth c s₁ B hml hv
  obtain ⟨rfl, hsz, hP, hK, hD0, hN, hnp⟩ := hv
  have hx := B.exec
  have hb := B.bytes
  have hr := B.returns
  have hts := atoms_spec (ws := wsL_fill) B.pre
  have hown : s.vm.findClass RL = some m.cls := findClass_of_methodNamed B.named
  have hlocks := B.notSynchronized
  subst hsz
  have hD := hD0.self (sz := s.heap.size)
  have hA : ∀ q : Nat, s.heap.size ≤ q → va_A (cw G σ ++ hy_ex G oa f) s.heap.size q := fun q h => Or.inr h
  have hS : va_S (va_A (cw G σ ++ hy_ex G oa f) s.heap.size) s.heap s.heap [] := va_S.rf
  have hl := lv_entry ([.ref (G.2.2.2.1 0), .int x1, .int x2, .ref oa]) (n := 5) (Nat.le_of_ble_eq_true rfl)
  rw [lg_entry_eq]
  generalize (lg_sl ([.ref (G.2.2.2.1 0), .int x1, .int x2, .ref oa]) ++ List.replicate (5 - (lg_sl ([.ref (G.2.2.2.1 0), .int x1, .int x2, .ref oa])).length) Slot.unset).toArray = ls at hl ⊢
  have hl : lv_has ls 5 [(0, .ref (G.2.2.2.1 0)), (1, .int x1), (2, .int x2), (3, .ref oa)] := hl
  have hB : hy_B RL cL_fill 5 wsL_fill G (va_A (cw G σ ++ hy_ex G oa f) s.heap.size) p s m _ c := ⟨⟨hx, hb, hml, hown, hts⟩, hK, hN⟩
  have w : hy_wx (cw G σ ++ hy_ex G oa f) G (va_A (cw G σ ++ hy_ex G oa f) s.heap.size) s s.heap [] := ⟨hP, hD, hS⟩
  refine lv_aload_n hx hb dL_fill_0 rfl (lv_at hl 3 rfl) ?_
  refine lv_iconst (v := 0) hx hb dL_fill_1 (by decide) ?_
  refine lv_aload_n hx hb dL_fill_2 rfl (lv_at hl 0 rfl) ?_
  refine lv_iload_n hx hb dL_fill_3 rfl (lv_at hl 1 rfl) ?_
  refine lv_iload_n hx hb dL_fill_4 rfl (lv_at hl 2 rfl) ?_
  refine hy_ft (ex := hy_ex G oa f) (As := [.int x1, .int x2]) (rest := [.int 0, .ref oa]) (o := o) cw_fix hA hB w (fun sz => tX9_fill l hlt G sz σ x1 x2 o hf (by rw [ho]; decide)) (cwV 2 hts gL_fill_X9_fill rfl rfl rfl (by decide +kernel) ⟨Nat.le_of_ble_eq_true rfl, Nat.le_of_ble_eq_true rfl⟩) rfl (cwq_0 G σ) rfl hl.1 rfl (Nat.le_of_ble_eq_true rfl) dL_fill_5 ⟨Nat.le_of_ble_eq_true rfl, Nat.le_of_ble_eq_true rfl⟩ (fun ce q9 H locs w h1 h2 h3 => ?_)
  rw [ho] at h3
  have htab := vx_table (x := yL_fill) B (hts (.codeWith yL_fill cL_fill 5 (some .int) [(0, 10, 13, 20), (0, 10, 17, 13)]) List.mem_cons_self)
  refine hx_catch (own := RL) (name := "java/lang/IndexOutOfBoundsException") (E := "java/lang/IndexOutOfBoundsException") hown [] ⟨0, 10, 13, 20⟩ [⟨0, 10, 17, 13⟩] htab (fun z hz => by cases hz) (by decide) (by decide) (hts (.classLink RL 20 "java/lang/IndexOutOfBoundsException") (by decide +kernel)) (va_Nw.use rfl (hB.2.2.1.2.1.2.2.2.1 "java/lang/IndexOutOfBoundsException" (by decide +kernel))) h1 h2 h3 ?_
  refine lv_astore (lv' := [(4, .ref q9), (0, .ref (G.2.2.2.1 0)), (1, .int x1), (2, .int x2), (3, .ref oa)]) hx hb dL_fill_13 hl (by decide) rfl (fun ls hl => ?_)
  refine lv_iconst (v := 1) hx hb dL_fill_15 (by decide) ?_
  exact W.iret hx hb hr (fun t ht hW => ⟨⟨1, (), rfl, rfl, by show va_P _ _ _ t.heap; rw [ht]; exact w.1⟩, w.2.2.F ht⟩) w.2.2.2.2 dL_fill_16
set_option maxHeartbeats 4000000 in
set_option maxRecDepth 100000 in
theorem qL_fill_2 (l : Launch) (hlt : l.stackTraces = false) (G : hy_G) (oa sz : Nat) (σ : hy_S) (f : Nat → Int64) (x1 : Int32) (x2 : Int32) (o : hy_S × Int32 × Nat) (hf : fX9_fill σ x1 x2 = some o) (ho : o.2.2 = 2) : Met l yL_fill wsL_fill ({ frames := 8, cells := 1, slots := 6, locals := 126 }) (va_Pc [.ref (G.2.2.2.1 0), .int x1, .int x2, .ref oa] (hy_preX (cw G σ ++ hy_ex G oa f) G sz)) (hy_QX (cw G σ ++ hy_ex G oa f) (cw G o.1 ++ hy_ex G oa f) G sz 2) 1 6 (va_A (cw G σ ++ hy_ex G oa f) sz) := by
  refine va_MetW (cc := cL_fill) (maxL := 5) (ret := some .int) (hh := [(0, 10, 13, 20), (0, 10, 17, 13)]) (by decide +kernel) rfl ?_
  intro p e s m args below meth c s₁ B hml hv
  obtain ⟨rfl, hsz, hP, hK, hD0, hN, hnp⟩ := hv
  have hx := B.exec
  have hb := B.bytes
  have hr := B.returns
  have hts := atoms_spec (ws := wsL_fill) B.pre
  have hown : s.vm.findClass RL = some m.cls := findClass_of_methodNamed B.named
  have hlocks := B.notSynchronized
  subst hsz
  have hD := hD0.self (sz := s.heap.size)
  have hA : ∀ q : Nat, s.heap.size ≤ q → va_A (cw G σ ++ hy_ex G oa f) s.heap.size q := fun q h => Or.inr h
  have hS : va_S (va_A (cw G σ ++ hy_ex G oa f) s.heap.size) s.heap s.heap [] := va_S.rf
  have hl := lv_entry ([.ref (G.2.2.2.1 0), .int x1, .int x2, .ref oa]) (n := 5) (Nat.le_of_ble_eq_true rfl)
  rw [lg_entry_eq]
  generalize (lg_sl ([.ref (G.2.2.2.1 0), .int x1, .int x2, .ref oa]) ++ List.replicate (5 - (lg_sl ([.ref (G.2.2.2.1 0), .int x1, .int x2, .ref oa])).length) Slot.unset).toArray = ls at hl ⊢
  have hl : lv_has ls 5 [(0, .ref (G.2.2.2.1 0)), (1, .int x1), (2, .int x2), (3, .ref oa)] := hl
  have hB : hy_B RL cL_fill 5 wsL_fill G (va_A (cw G σ ++ hy_ex G oa f) s.heap.size) p s m _ c := ⟨⟨hx, hb, hml, hown, hts⟩, hK, hN⟩
  have w : hy_wx (cw G σ ++ hy_ex G oa f) G (va_A (cw G σ ++ hy_ex G oa f) s.heap.size) s s.heap [] := ⟨hP, hD, hS⟩
  refine lv_aload_n hx hb dL_fill_0 rfl (lv_at hl 3 rfl) ?_
  refine lv_iconst (v := 0) hx hb dL_fill_1 (by decide) ?_
  refine lv_aload_n hx hb dL_fill_2 rfl (lv_at hl 0 rfl) ?_
  refine lv_iload_n hx hb dL_fill_3 rfl (lv_at hl 1 rfl) ?_
  refine lv_iload_n hx hb dL_fill_4 rfl (lv_at hl 2 rfl) ?_
  refine hy_ft (ex := hy_ex G oa f) (As := [.int x1, .int x2]) (rest := [.int 0, .ref oa]) (o := o) cw_fix hA hB w (fun sz => tX9_fill l hlt G sz σ x1 x2 o hf (by rw [ho]; decide)) (cwV 2 hts gL_fill_X9_fill rfl rfl rfl (by decide +kernel) ⟨Nat.le_of_ble_eq_true rfl, Nat.le_of_ble_eq_true rfl⟩) rfl (cwq_0 G σ) rfl hl.1 rfl (Nat.le_of_ble_eq_true rfl) dL_fill_5 ⟨Nat.le_of_ble_eq_true rfl, Nat.le_of_ble_eq_true rfl⟩ (fun ce q9 H locs w h1 h2 h3 => ?_)
  rw [ho] at h3
  have htab := vx_table (x := yL_fill) B (hts (.codeWith yL_fill cL_fill 5 (some .int) [(0, 10, 13, 20), (0, 10, 17, 13)]) List.mem_cons_self)
  refine hx_catch (own := RL) (name := "java/lang/IllegalArgumentException") (E := "java/lang/IllegalArgumentException") hown [⟨0, 10, 13, 20⟩] ⟨0, 10, 17, 13⟩ [] htab (fun z hz => by
    simp only [List.mem_cons, List.not_mem_nil, or_false] at hz
    rcases hz with rfl
    · exact ⟨by decide, by decide, "java/lang/IndexOutOfBoundsException", hts (.classLink RL 20 "java/lang/IndexOutOfBoundsException") (by decide +kernel), hnp ("java/lang/IllegalArgumentException", "java/lang/IndexOutOfBoundsException") (by decide +kernel)⟩) (by decide) (by decide) (hts (.classLink RL 13 "java/lang/IllegalArgumentException") (by decide +kernel)) (va_Nw.use rfl (hB.2.2.1.2.1.2.2.2.1 "java/lang/IllegalArgumentException" (by decide +kernel))) h1 h2 h3 ?_
  refine lv_astore (lv' := [(4, .ref q9), (0, .ref (G.2.2.2.1 0)), (1, .int x1), (2, .int x2), (3, .ref oa)]) hx hb dL_fill_17 hl (by decide) rfl (fun ls hl => ?_)
  refine lv_iconst (v := 2) hx hb dL_fill_19 (by decide) ?_
  exact W.iret hx hb hr (fun t ht hW => ⟨⟨2, (), rfl, rfl, by show va_P _ _ _ t.heap; rw [ht]; exact w.1⟩, w.2.2.F ht⟩) w.2.2.2.2 dL_fill_20
set_option maxHeartbeats 4000000 in
set_option maxRecDepth 100000 in
theorem rL_ship (l : Launch) (G : hy_G) (oa sz : Nat) (σ : hy_S) (f : Nat → Int64) (o : hy_S × Int32 × Nat) (hf : fX9_ship σ = some o) (ho : o.2.2 = 0) : Met l yL_ship wsL_ship ({ frames := 8, cells := 0, slots := 0, locals := 123 }) (va_Pc [.ref (G.2.2.2.1 0), .ref oa] (hy_preX (cw G σ ++ hy_ex G oa f) G sz)) (hy_QX (cw G σ ++ hy_ex G oa f) (cw G o.1 ++ hy_ex G oa (vp_updL f (Int32.toNatClampNeg 0) o.2.1.toInt64)) G sz 0) 0 0 (va_A (cw G σ ++ hy_ex G oa f) sz) := by
  refine va_MetW (cc := cL_ship) (maxL := 3) (ret := some .int) (hh := [(0, 8, 11, 15)]) (by decide +kernel) rfl ?_
  intro p e s m args below meth c s₁ B hml hv
  obtain ⟨rfl, hsz, hP, hK, hD0, hN, hnp⟩ := hv
  have hx := B.exec
  have hb := B.bytes
  have hr := B.returns
  have hts := atoms_spec (ws := wsL_ship) B.pre
  have hown : s.vm.findClass RL = some m.cls := findClass_of_methodNamed B.named
  have hlocks := B.notSynchronized
  subst hsz
  have hD := hD0.self (sz := s.heap.size)
  have hA : ∀ q : Nat, s.heap.size ≤ q → va_A (cw G σ ++ hy_ex G oa f) s.heap.size q := fun q h => Or.inr h
  have hS : va_S (va_A (cw G σ ++ hy_ex G oa f) s.heap.size) s.heap s.heap [] := va_S.rf
  have hl := lv_entry ([.ref (G.2.2.2.1 0), .ref oa]) (n := 3) (Nat.le_of_ble_eq_true rfl)
  rw [lg_entry_eq]
  generalize (lg_sl ([.ref (G.2.2.2.1 0), .ref oa]) ++ List.replicate (3 - (lg_sl ([.ref (G.2.2.2.1 0), .ref oa])).length) Slot.unset).toArray = ls at hl ⊢
  have hl : lv_has ls 3 [(0, .ref (G.2.2.2.1 0)), (1, .ref oa)] := hl
  have hB : hy_B RL cL_ship 3 wsL_ship G (va_A (cw G σ ++ hy_ex G oa f) s.heap.size) p s m _ c := ⟨⟨hx, hb, hml, hown, hts⟩, hK, hN⟩
  have w : hy_wx (cw G σ ++ hy_ex G oa f) G (va_A (cw G σ ++ hy_ex G oa f) s.heap.size) s s.heap [] := ⟨hP, hD, hS⟩
  refine lv_aload_n hx hb dL_ship_0 rfl (lv_at hl 1 rfl) ?_
  refine lv_iconst (v := 0) hx hb dL_ship_1 (by decide) ?_
  refine lv_aload_n hx hb dL_ship_2 rfl (lv_at hl 0 rfl) ?_
  refine hy_fv (ex := hy_ex G oa f) (As := []) (rest := [.int 0, .ref oa]) (o := (o.1, o.2.1)) cw_fix hA hB w (fun sz => mX9_ship l G sz σ o hf ho) (cwV 0 hts gL_ship_X9_ship rfl rfl rfl (by decide +kernel) ⟨Nat.le_of_ble_eq_true rfl, Nat.le_of_ble_eq_true rfl⟩) rfl (cwq_0 G σ) rfl hl.1 rfl (Nat.le_of_ble_eq_true rfl) dL_ship_3 ⟨Nat.zero_le _, Nat.zero_le _⟩ (fun H locs w => ?_)
  refine lv_i2l (v := o.2.1.toInt64) hx hb dL_ship_6 rfl ?_
  refine va_last (x := o.2.1.toInt64) hx hb hB.2.1 w.1 w.2.1 w.2.2 40 3 rfl rfl (by unfold vp_in; decide) dL_ship_7 (fun H locs hP hD hS => ?_)
  refine lv_goto (tgt := 14) hx hb dL_ship_8 (by decide) ?_
  refine lv_iconst (v := 0) hx hb dL_ship_14 (by decide) ?_
  exact W.iret hx hb hr (fun t ht hW => ⟨⟨0, (), rfl, rfl, by show va_P _ _ _ t.heap; rw [ht]; exact hP⟩, hS.F ht⟩) hS.2.2 dL_ship_15
set_option maxHeartbeats 4000000 in
set_option maxRecDepth 100000 in
theorem qL_ship_1 (l : Launch) (hlt : l.stackTraces = false) (G : hy_G) (oa sz : Nat) (σ : hy_S) (f : Nat → Int64) (o : hy_S × Int32 × Nat) (hf : fX9_ship σ = some o) (ho : o.2.2 = 3) : Met l yL_ship wsL_ship ({ frames := 8, cells := 1, slots := 6, locals := 123 }) (va_Pc [.ref (G.2.2.2.1 0), .ref oa] (hy_preX (cw G σ ++ hy_ex G oa f) G sz)) (hy_QX (cw G σ ++ hy_ex G oa f) (cw G o.1 ++ hy_ex G oa f) G sz 1) 1 6 (va_A (cw G σ ++ hy_ex G oa f) sz) := by
  refine va_MetW (cc := cL_ship) (maxL := 3) (ret := some .int) (hh := [(0, 8, 11, 15)]) (by decide +kernel) rfl ?_
  intro p e s m args below meth c s₁ B hml hv
  obtain ⟨rfl, hsz, hP, hK, hD0, hN, hnp⟩ := hv
  have hx := B.exec
  have hb := B.bytes
  have hr := B.returns
  have hts := atoms_spec (ws := wsL_ship) B.pre
  have hown : s.vm.findClass RL = some m.cls := findClass_of_methodNamed B.named
  have hlocks := B.notSynchronized
  subst hsz
  have hD := hD0.self (sz := s.heap.size)
  have hA : ∀ q : Nat, s.heap.size ≤ q → va_A (cw G σ ++ hy_ex G oa f) s.heap.size q := fun q h => Or.inr h
  have hS : va_S (va_A (cw G σ ++ hy_ex G oa f) s.heap.size) s.heap s.heap [] := va_S.rf
  have hl := lv_entry ([.ref (G.2.2.2.1 0), .ref oa]) (n := 3) (Nat.le_of_ble_eq_true rfl)
  rw [lg_entry_eq]
  generalize (lg_sl ([.ref (G.2.2.2.1 0), .ref oa]) ++ List.replicate (3 - (lg_sl ([.ref (G.2.2.2.1 0), .ref oa])).length) Slot.unset).toArray = ls at hl ⊢
  have hl : lv_has ls 3 [(0, .ref (G.2.2.2.1 0)), (1, .ref oa)] := hl
  have hB : hy_B RL cL_ship 3 wsL_ship G (va_A (cw G σ ++ hy_ex G oa f) s.heap.size) p s m _ c := ⟨⟨hx, hb, hml, hown, hts⟩, hK, hN⟩
  have w : hy_wx (cw G σ ++ hy_ex G oa f) G (va_A (cw G σ ++ hy_ex G oa f) s.heap.size) s s.heap [] := ⟨hP, hD, hS⟩
  refine lv_aload_n hx hb dL_ship_0 rfl (lv_at hl 1 rfl) ?_
  refine lv_iconst (v := 0) hx hb dL_ship_1 (by decide) ?_
  refine lv_aload_n hx hb dL_ship_2 rfl (lv_at hl 0 rfl) ?_
  refine hy_ft (ex := hy_ex G oa f) (As := []) (rest := [.int 0, .ref oa]) (o := o) cw_fix hA hB w (fun sz => tX9_ship l hlt G sz σ o hf (by rw [ho]; decide)) (cwV 0 hts gL_ship_X9_ship rfl rfl rfl (by decide +kernel) ⟨Nat.le_of_ble_eq_true rfl, Nat.le_of_ble_eq_true rfl⟩) rfl (cwq_0 G σ) rfl hl.1 rfl (Nat.le_of_ble_eq_true rfl) dL_ship_3 ⟨Nat.le_of_ble_eq_true rfl, Nat.le_of_ble_eq_true rfl⟩ (fun ce q9 H locs w h1 h2 h3 => ?_)
  rw [ho] at h3
  have htab := vx_table (x := yL_ship) B (hts (.codeWith yL_ship cL_ship 3 (some .int) [(0, 8, 11, 15)]) List.mem_cons_self)
  refine hx_catch (own := RL) (name := "java/lang/UnsupportedOperationException") (E := "java/lang/UnsupportedOperationException") hown [] ⟨0, 8, 11, 15⟩ [] htab (fun z hz => by cases hz) (by decide) (by decide) (hts (.classLink RL 15 "java/lang/UnsupportedOperationException") (by decide +kernel)) (va_Nw.use rfl (hB.2.2.1.2.1.2.2.2.1 "java/lang/UnsupportedOperationException" (by decide +kernel))) h1 h2 h3 ?_
  refine lv_astore_n (lv' := [(2, .ref q9), (0, .ref (G.2.2.2.1 0)), (1, .ref oa)]) hx hb dL_ship_11 rfl hl (by decide) rfl (fun ls hl => ?_)
  refine lv_iconst (v := 1) hx hb dL_ship_12 (by decide) ?_
  exact W.iret hx hb hr (fun t ht hW => ⟨⟨1, (), rfl, rfl, by show va_P _ _ _ t.heap; rw [ht]; exact w.1⟩, w.2.2.F ht⟩) w.2.2.2.2 dL_ship_13
set_option maxHeartbeats 4000000 in
set_option maxRecDepth 100000 in
theorem rL_load (l : Launch) (G : hy_G) (oa sz : Nat) (σ : hy_S) (f : Nat → Int64) (x1 : Int32) (x2 : Int32) (x3 : Int32) (o : hy_S × Int32 × Nat) (hf : fX9_load σ x1 x2 x3 = some o) (ho : o.2.2 = 0) : Met l yL_load wsL_load ({ frames := 9, cells := 0, slots := 0, locals := 148 }) (va_Pc [.ref (G.2.2.2.1 0), .int x1, .int x2, .int x3, .ref oa] (hy_preX (cw G σ ++ hy_ex G oa f) G sz)) (hy_QX (cw G σ ++ hy_ex G oa f) (cw G o.1 ++ hy_ex G oa (vp_updL f (Int32.toNatClampNeg 0) (if o.2.1 = 0 then 0 else 1))) G sz 0) 0 0 (va_A (cw G σ ++ hy_ex G oa f) sz) := by
  refine va_MetW (cc := cL_load) (maxL := 6) (ret := some .int) (hh := [(0, 19, 22, 20)]) (by decide +kernel) rfl ?_
  intro p e s m args below meth c s₁ B hml hv
  obtain ⟨rfl, hsz, hP, hK, hD0, hN, hnp⟩ := hv
  have hx := B.exec
  have hb := B.bytes
  have hr := B.returns
  have hts := atoms_spec (ws := wsL_load) B.pre
  have hown : s.vm.findClass RL = some m.cls := findClass_of_methodNamed B.named
  have hlocks := B.notSynchronized
  subst hsz
  have hD := hD0.self (sz := s.heap.size)
  have hA : ∀ q : Nat, s.heap.size ≤ q → va_A (cw G σ ++ hy_ex G oa f) s.heap.size q := fun q h => Or.inr h
  have hS : va_S (va_A (cw G σ ++ hy_ex G oa f) s.heap.size) s.heap s.heap [] := va_S.rf
  have hl := lv_entry ([.ref (G.2.2.2.1 0), .int x1, .int x2, .int x3, .ref oa]) (n := 6) (Nat.le_of_ble_eq_true rfl)
  rw [lg_entry_eq]
  generalize (lg_sl ([.ref (G.2.2.2.1 0), .int x1, .int x2, .int x3, .ref oa]) ++ List.replicate (6 - (lg_sl ([.ref (G.2.2.2.1 0), .int x1, .int x2, .int x3, .ref oa])).length) Slot.unset).toArray = ls at hl ⊢
  have hl : lv_has ls 6 [(0, .ref (G.2.2.2.1 0)), (1, .int x1), (2, .int x2), (3, .int x3), (4, .ref oa)] := hl
  have hB : hy_B RL cL_load 6 wsL_load G (va_A (cw G σ ++ hy_ex G oa f) s.heap.size) p s m _ c := ⟨⟨hx, hb, hml, hown, hts⟩, hK, hN⟩
  have w : hy_wx (cw G σ ++ hy_ex G oa f) G (va_A (cw G σ ++ hy_ex G oa f) s.heap.size) s s.heap [] := ⟨hP, hD, hS⟩
  refine lv_aload hx hb dL_load_0 (lv_at hl 4 rfl) ?_
  refine lv_iconst (v := 0) hx hb dL_load_2 (by decide) ?_
  refine lv_aload_n hx hb dL_load_3 rfl (lv_at hl 0 rfl) ?_
  refine lv_iload_n hx hb dL_load_4 rfl (lv_at hl 1 rfl) ?_
  refine lv_iload_n hx hb dL_load_5 rfl (lv_at hl 2 rfl) ?_
  refine lv_iload_n hx hb dL_load_6 rfl (lv_at hl 3 rfl) ?_
  refine hy_fv (ex := hy_ex G oa f) (As := [.int x1, .int x2, .int x3]) (rest := [.int 0, .ref oa]) (o := (o.1, o.2.1)) cw_fix hA hB w (fun sz => mX9_load l G sz σ x1 x2 x3 o hf ho) (cwV 3 hts gL_load_X9_load rfl rfl rfl (by decide +kernel) ⟨Nat.le_of_ble_eq_true rfl, Nat.le_of_ble_eq_true rfl⟩) rfl (cwq_0 G σ) rfl hl.1 rfl (Nat.le_of_ble_eq_true rfl) dL_load_7 ⟨Nat.zero_le _, Nat.zero_le _⟩ (fun H locs w => ?_)
  refine lv_if_eq (tgt := 17) hx hb dL_load_10 (by decide) (fun c1 => ?_) (fun c1 => ?_)
  · rw [if_pos (show o.2.1 = 0 from c1)]
    refine lv_lconst (v := 0) hx hb dL_load_17 (by decide) ?_
    refine va_last (x := 0) hx hb hB.2.1 w.1 w.2.1 w.2.2 40 3 rfl rfl (by unfold vp_in; decide) dL_load_18 (fun H locs hP hD hS => ?_)
    refine lv_goto (tgt := 26) hx hb dL_load_19 (by decide) ?_
    refine lv_iconst (v := 0) hx hb dL_load_26 (by decide) ?_
    exact W.iret hx hb hr (fun t ht hW => ⟨⟨0, (), rfl, rfl, by show va_P _ _ _ t.heap; rw [ht]; exact hP⟩, hS.F ht⟩) hS.2.2 dL_load_27
  · rw [if_neg (show ¬ o.2.1 = 0 from c1)]
    refine lv_lconst (v := 1) hx hb dL_load_13 (by decide) ?_
    refine lv_goto (tgt := 18) hx hb dL_load_14 (by decide) ?_
    refine va_last (x := 1) hx hb hB.2.1 w.1 w.2.1 w.2.2 40 3 rfl rfl (by unfold vp_in; decide) dL_load_18 (fun H locs hP hD hS => ?_)
    refine lv_goto (tgt := 26) hx hb dL_load_19 (by decide) ?_
    refine lv_iconst (v := 0) hx hb dL_load_26 (by decide) ?_
    exact W.iret hx hb hr (fun t ht hW => ⟨⟨0, (), rfl, rfl, by show va_P _ _ _ t.heap; rw [ht]; exact hP⟩, hS.F ht⟩) hS.2.2 dL_load_27
set_option maxHeartbeats 4000000 in
set_option maxRecDepth 100000 in
theorem qL_load_1 (l : Launch) (hlt : l.stackTraces = false) (G : hy_G) (oa sz : Nat) (σ : hy_S) (f : Nat → Int64) (x1 : Int32) (x2 : Int32) (x3 : Int32) (o : hy_S × Int32 × Nat) (hf : fX9_load σ x1 x2 x3 = some o) (ho : o.2.2 = 1) : Met l yL_load wsL_load ({ frames := 9, cells := 1, slots := 6, locals := 148 }) (va_Pc [.ref (G.2.2.2.1 0), .int x1, .int x2, .int x3, .ref oa] (hy_preX (cw G σ ++ hy_ex G oa f) G sz)) (hy_QX (cw G σ ++ hy_ex G oa f) (cw G o.1 ++ hy_ex G oa f) G sz 1) 1 6 (va_A (cw G σ ++ hy_ex G oa f) sz) := by
  refine va_MetW (cc := cL_load) (maxL := 6) (ret := some .int) (hh := [(0, 19, 22, 20)]) (by decide +kernel) rfl ?_
  intro p e s m args below meth c s₁ B hml hv
  obtain ⟨rfl, hsz, hP, hK, hD0, hN, hnp⟩ := hv
  have hx := B.exec
  have hb := B.bytes
  have hr := B.returns
  have hts := atoms_spec (ws := wsL_load) B.pre
  have hown : s.vm.findClass RL = some m.cls := findClass_of_methodNamed B.named
  have hlocks := B.notSynchronized
  subst hsz
  have hD := hD0.self (sz := s.heap.size)
  have hA : ∀ q : Nat, s.heap.size ≤ q → va_A (cw G σ ++ hy_ex G oa f) s.heap.size q := fun q h => Or.inr h
  have hS : va_S (va_A (cw G σ ++ hy_ex G oa f) s.heap.size) s.heap s.heap [] := va_S.rf
  have hl := lv_entry ([.ref (G.2.2.2.1 0), .int x1, .int x2, .int x3, .ref oa]) (n := 6) (Nat.le_of_ble_eq_true rfl)
  rw [lg_entry_eq]
  generalize (lg_sl ([.ref (G.2.2.2.1 0), .int x1, .int x2, .int x3, .ref oa]) ++ List.replicate (6 - (lg_sl ([.ref (G.2.2.2.1 0), .int x1, .int x2, .int x3, .ref oa])).length) Slot.unset).toArray = ls at hl ⊢
  have hl : lv_has ls 6 [(0, .ref (G.2.2.2.1 0)), (1, .int x1), (2, .int x2), (3, .int x3), (4, .ref oa)] := hl
  have hB : hy_B RL cL_load 6 wsL_load G (va_A (cw G σ ++ hy_ex G oa f) s.heap.size) p s m _ c := ⟨⟨hx, hb, hml, hown, hts⟩, hK, hN⟩
  have w : hy_wx (cw G σ ++ hy_ex G oa f) G (va_A (cw G σ ++ hy_ex G oa f) s.heap.size) s s.heap [] := ⟨hP, hD, hS⟩
  refine lv_aload hx hb dL_load_0 (lv_at hl 4 rfl) ?_
  refine lv_iconst (v := 0) hx hb dL_load_2 (by decide) ?_
  refine lv_aload_n hx hb dL_load_3 rfl (lv_at hl 0 rfl) ?_
  refine lv_iload_n hx hb dL_load_4 rfl (lv_at hl 1 rfl) ?_
  refine lv_iload_n hx hb dL_load_5 rfl (lv_at hl 2 rfl) ?_
  refine lv_iload_n hx hb dL_load_6 rfl (lv_at hl 3 rfl) ?_
  refine hy_ft (ex := hy_ex G oa f) (As := [.int x1, .int x2, .int x3]) (rest := [.int 0, .ref oa]) (o := o) cw_fix hA hB w (fun sz => tX9_load l hlt G sz σ x1 x2 x3 o hf (by rw [ho]; decide)) (cwV 3 hts gL_load_X9_load rfl rfl rfl (by decide +kernel) ⟨Nat.le_of_ble_eq_true rfl, Nat.le_of_ble_eq_true rfl⟩) rfl (cwq_0 G σ) rfl hl.1 rfl (Nat.le_of_ble_eq_true rfl) dL_load_7 ⟨Nat.le_of_ble_eq_true rfl, Nat.le_of_ble_eq_true rfl⟩ (fun ce q9 H locs w h1 h2 h3 => ?_)
  rw [ho] at h3
  have htab := vx_table (x := yL_load) B (hts (.codeWith yL_load cL_load 6 (some .int) [(0, 19, 22, 20)]) List.mem_cons_self)
  refine hx_catch (own := RL) (name := "java/lang/IndexOutOfBoundsException") (E := "java/lang/IndexOutOfBoundsException") hown [] ⟨0, 19, 22, 20⟩ [] htab (fun z hz => by cases hz) (by decide) (by decide) (hts (.classLink RL 20 "java/lang/IndexOutOfBoundsException") (by decide +kernel)) (va_Nw.use rfl (hB.2.2.1.2.1.2.2.2.1 "java/lang/IndexOutOfBoundsException" (by decide +kernel))) h1 h2 h3 ?_
  refine lv_astore (lv' := [(5, .ref q9), (0, .ref (G.2.2.2.1 0)), (1, .int x1), (2, .int x2), (3, .int x3), (4, .ref oa)]) hx hb dL_load_22 hl (by decide) rfl (fun ls hl => ?_)
  refine lv_iconst (v := 1) hx hb dL_load_24 (by decide) ?_
  exact W.iret hx hb hr (fun t ht hW => ⟨⟨1, (), rfl, rfl, by show va_P _ _ _ t.heap; rw [ht]; exact w.1⟩, w.2.2.F ht⟩) w.2.2.2.2 dL_load_25
set_option maxHeartbeats 4000000 in
set_option maxRecDepth 100000 in
theorem rL_land (l : Launch) (G : hy_G) (oa sz : Nat) (σ : hy_S) (f : Nat → Int64) (x1 : Int32) (x2 : Int32) (o : hy_S × Int32 × Nat) (hf : fX9_land σ x1 x2 = some o) (ho : o.2.2 = 0) : Met l yL_land wsL_land ({ frames := 9, cells := 0, slots := 0, locals := 147 }) (va_Pc [.ref (G.2.2.2.1 0), .int x1, .int x2, .ref oa] (hy_preX (cw G σ ++ hy_ex G oa f) G sz)) (hy_QX (cw G σ ++ hy_ex G oa f) (cw G o.1 ++ hy_ex G oa (vp_updL f (Int32.toNatClampNeg 0) o.2.1.toInt64)) G sz 0) 0 0 (va_A (cw G σ ++ hy_ex G oa f) sz) := by
  refine va_MetW (cc := cL_land) (maxL := 5) (ret := some .int) (hh := [(0, 10, 13, 20)]) (by decide +kernel) rfl ?_
  intro p e s m args below meth c s₁ B hml hv
  obtain ⟨rfl, hsz, hP, hK, hD0, hN, hnp⟩ := hv
  have hx := B.exec
  have hb := B.bytes
  have hr := B.returns
  have hts := atoms_spec (ws := wsL_land) B.pre
  have hown : s.vm.findClass RL = some m.cls := findClass_of_methodNamed B.named
  have hlocks := B.notSynchronized
  subst hsz
  have hD := hD0.self (sz := s.heap.size)
  have hA : ∀ q : Nat, s.heap.size ≤ q → va_A (cw G σ ++ hy_ex G oa f) s.heap.size q := fun q h => Or.inr h
  have hS : va_S (va_A (cw G σ ++ hy_ex G oa f) s.heap.size) s.heap s.heap [] := va_S.rf
  have hl := lv_entry ([.ref (G.2.2.2.1 0), .int x1, .int x2, .ref oa]) (n := 5) (Nat.le_of_ble_eq_true rfl)
  rw [lg_entry_eq]
  generalize (lg_sl ([.ref (G.2.2.2.1 0), .int x1, .int x2, .ref oa]) ++ List.replicate (5 - (lg_sl ([.ref (G.2.2.2.1 0), .int x1, .int x2, .ref oa])).length) Slot.unset).toArray = ls at hl ⊢
  have hl : lv_has ls 5 [(0, .ref (G.2.2.2.1 0)), (1, .int x1), (2, .int x2), (3, .ref oa)] := hl
  have hB : hy_B RL cL_land 5 wsL_land G (va_A (cw G σ ++ hy_ex G oa f) s.heap.size) p s m _ c := ⟨⟨hx, hb, hml, hown, hts⟩, hK, hN⟩
  have w : hy_wx (cw G σ ++ hy_ex G oa f) G (va_A (cw G σ ++ hy_ex G oa f) s.heap.size) s s.heap [] := ⟨hP, hD, hS⟩
  refine lv_aload_n hx hb dL_land_0 rfl (lv_at hl 3 rfl) ?_
  refine lv_iconst (v := 0) hx hb dL_land_1 (by decide) ?_
  refine lv_aload_n hx hb dL_land_2 rfl (lv_at hl 0 rfl) ?_
  refine lv_iload_n hx hb dL_land_3 rfl (lv_at hl 1 rfl) ?_
  refine lv_iload_n hx hb dL_land_4 rfl (lv_at hl 2 rfl) ?_
  refine hy_fv (ex := hy_ex G oa f) (As := [.int x1, .int x2]) (rest := [.int 0, .ref oa]) (o := (o.1, o.2.1)) cw_fix hA hB w (fun sz => mX9_land l G sz σ x1 x2 o hf ho) (cwV 2 hts gL_land_X9_land rfl rfl rfl (by decide +kernel) ⟨Nat.le_of_ble_eq_true rfl, Nat.le_of_ble_eq_true rfl⟩) rfl (cwq_0 G σ) rfl hl.1 rfl (Nat.le_of_ble_eq_true rfl) dL_land_5 ⟨Nat.zero_le _, Nat.zero_le _⟩ (fun H locs w => ?_)
  refine lv_i2l (v := o.2.1.toInt64) hx hb dL_land_8 rfl ?_
  refine va_last (x := o.2.1.toInt64) hx hb hB.2.1 w.1 w.2.1 w.2.2 40 3 rfl rfl (by unfold vp_in; decide) dL_land_9 (fun H locs hP hD hS => ?_)
  refine lv_goto (tgt := 17) hx hb dL_land_10 (by decide) ?_
  refine lv_iconst (v := 0) hx hb dL_land_17 (by decide) ?_
  exact W.iret hx hb hr (fun t ht hW => ⟨⟨0, (), rfl, rfl, by show va_P _ _ _ t.heap; rw [ht]; exact hP⟩, hS.F ht⟩) hS.2.2 dL_land_18
set_option maxHeartbeats 4000000 in
set_option maxRecDepth 100000 in
theorem qL_land_1 (l : Launch) (hlt : l.stackTraces = false) (G : hy_G) (oa sz : Nat) (σ : hy_S) (f : Nat → Int64) (x1 : Int32) (x2 : Int32) (o : hy_S × Int32 × Nat) (hf : fX9_land σ x1 x2 = some o) (ho : o.2.2 = 1) : Met l yL_land wsL_land ({ frames := 9, cells := 1, slots := 6, locals := 147 }) (va_Pc [.ref (G.2.2.2.1 0), .int x1, .int x2, .ref oa] (hy_preX (cw G σ ++ hy_ex G oa f) G sz)) (hy_QX (cw G σ ++ hy_ex G oa f) (cw G o.1 ++ hy_ex G oa f) G sz 1) 1 6 (va_A (cw G σ ++ hy_ex G oa f) sz) := by
  refine va_MetW (cc := cL_land) (maxL := 5) (ret := some .int) (hh := [(0, 10, 13, 20)]) (by decide +kernel) rfl ?_
  intro p e s m args below meth c s₁ B hml hv
  obtain ⟨rfl, hsz, hP, hK, hD0, hN, hnp⟩ := hv
  have hx := B.exec
  have hb := B.bytes
  have hr := B.returns
  have hts := atoms_spec (ws := wsL_land) B.pre
  have hown : s.vm.findClass RL = some m.cls := findClass_of_methodNamed B.named
  have hlocks := B.notSynchronized
  subst hsz
  have hD := hD0.self (sz := s.heap.size)
  have hA : ∀ q : Nat, s.heap.size ≤ q → va_A (cw G σ ++ hy_ex G oa f) s.heap.size q := fun q h => Or.inr h
  have hS : va_S (va_A (cw G σ ++ hy_ex G oa f) s.heap.size) s.heap s.heap [] := va_S.rf
  have hl := lv_entry ([.ref (G.2.2.2.1 0), .int x1, .int x2, .ref oa]) (n := 5) (Nat.le_of_ble_eq_true rfl)
  rw [lg_entry_eq]
  generalize (lg_sl ([.ref (G.2.2.2.1 0), .int x1, .int x2, .ref oa]) ++ List.replicate (5 - (lg_sl ([.ref (G.2.2.2.1 0), .int x1, .int x2, .ref oa])).length) Slot.unset).toArray = ls at hl ⊢
  have hl : lv_has ls 5 [(0, .ref (G.2.2.2.1 0)), (1, .int x1), (2, .int x2), (3, .ref oa)] := hl
  have hB : hy_B RL cL_land 5 wsL_land G (va_A (cw G σ ++ hy_ex G oa f) s.heap.size) p s m _ c := ⟨⟨hx, hb, hml, hown, hts⟩, hK, hN⟩
  have w : hy_wx (cw G σ ++ hy_ex G oa f) G (va_A (cw G σ ++ hy_ex G oa f) s.heap.size) s s.heap [] := ⟨hP, hD, hS⟩
  refine lv_aload_n hx hb dL_land_0 rfl (lv_at hl 3 rfl) ?_
  refine lv_iconst (v := 0) hx hb dL_land_1 (by decide) ?_
  refine lv_aload_n hx hb dL_land_2 rfl (lv_at hl 0 rfl) ?_
  refine lv_iload_n hx hb dL_land_3 rfl (lv_at hl 1 rfl) ?_
  refine lv_iload_n hx hb dL_land_4 rfl (lv_at hl 2 rfl) ?_
  refine hy_ft (ex := hy_ex G oa f) (As := [.int x1, .int x2]) (rest := [.int 0, .ref oa]) (o := o) cw_fix hA hB w (fun sz => tX9_land l hlt G sz σ x1 x2 o hf (by rw [ho]; decide)) (cwV 2 hts gL_land_X9_land rfl rfl rfl (by decide +kernel) ⟨Nat.le_of_ble_eq_true rfl, Nat.le_of_ble_eq_true rfl⟩) rfl (cwq_0 G σ) rfl hl.1 rfl (Nat.le_of_ble_eq_true rfl) dL_land_5 ⟨Nat.le_of_ble_eq_true rfl, Nat.le_of_ble_eq_true rfl⟩ (fun ce q9 H locs w h1 h2 h3 => ?_)
  rw [ho] at h3
  have htab := vx_table (x := yL_land) B (hts (.codeWith yL_land cL_land 5 (some .int) [(0, 10, 13, 20)]) List.mem_cons_self)
  refine hx_catch (own := RL) (name := "java/lang/IndexOutOfBoundsException") (E := "java/lang/IndexOutOfBoundsException") hown [] ⟨0, 10, 13, 20⟩ [] htab (fun z hz => by cases hz) (by decide) (by decide) (hts (.classLink RL 20 "java/lang/IndexOutOfBoundsException") (by decide +kernel)) (va_Nw.use rfl (hB.2.2.1.2.1.2.2.2.1 "java/lang/IndexOutOfBoundsException" (by decide +kernel))) h1 h2 h3 ?_
  refine lv_astore (lv' := [(4, .ref q9), (0, .ref (G.2.2.2.1 0)), (1, .int x1), (2, .int x2), (3, .ref oa)]) hx hb dL_land_13 hl (by decide) rfl (fun ls hl => ?_)
  refine lv_iconst (v := 1) hx hb dL_land_15 (by decide) ?_
  exact W.iret hx hb hr (fun t ht hW => ⟨⟨1, (), rfl, rfl, by show va_P _ _ _ t.heap; rw [ht]; exact w.1⟩, w.2.2.F ht⟩) w.2.2.2.2 dL_land_16
set_option maxHeartbeats 4000000 in
set_option maxRecDepth 100000 in
theorem rL_storm (l : Launch) (G : hy_G) (oa sz : Nat) (σ : hy_S) (f : Nat → Int64) (x1 : Int32) (x2 : Int32) (o : hy_S × Int32 × Nat) (hf : fX9_storm σ x1 x2 = some o) (ho : o.2.2 = 0) : Met l yL_storm wsL_storm ({ frames := 8, cells := 0, slots := 0, locals := 126 }) (va_Pc [.ref (G.2.2.2.1 0), .int x1, .int x2, .ref oa] (hy_preX (cw G σ ++ hy_ex G oa f) G sz)) (hy_QX (cw G σ ++ hy_ex G oa f) (cw G o.1 ++ hy_ex G oa (vp_updL f (Int32.toNatClampNeg 0) o.2.1.toInt64)) G sz 0) 0 0 (va_A (cw G σ ++ hy_ex G oa f) sz) := by
  refine va_MetW (cc := cL_storm) (maxL := 5) (ret := some .int) (hh := [(0, 10, 13, 20), (0, 10, 17, 13)]) (by decide +kernel) rfl ?_
  intro p e s m args below meth c s₁ B hml hv
  obtain ⟨rfl, hsz, hP, hK, hD0, hN, hnp⟩ := hv
  have hx := B.exec
  have hb := B.bytes
  have hr := B.returns
  have hts := atoms_spec (ws := wsL_storm) B.pre
  have hown : s.vm.findClass RL = some m.cls := findClass_of_methodNamed B.named
  have hlocks := B.notSynchronized
  subst hsz
  have hD := hD0.self (sz := s.heap.size)
  have hA : ∀ q : Nat, s.heap.size ≤ q → va_A (cw G σ ++ hy_ex G oa f) s.heap.size q := fun q h => Or.inr h
  have hS : va_S (va_A (cw G σ ++ hy_ex G oa f) s.heap.size) s.heap s.heap [] := va_S.rf
  have hl := lv_entry ([.ref (G.2.2.2.1 0), .int x1, .int x2, .ref oa]) (n := 5) (Nat.le_of_ble_eq_true rfl)
  rw [lg_entry_eq]
  generalize (lg_sl ([.ref (G.2.2.2.1 0), .int x1, .int x2, .ref oa]) ++ List.replicate (5 - (lg_sl ([.ref (G.2.2.2.1 0), .int x1, .int x2, .ref oa])).length) Slot.unset).toArray = ls at hl ⊢
  have hl : lv_has ls 5 [(0, .ref (G.2.2.2.1 0)), (1, .int x1), (2, .int x2), (3, .ref oa)] := hl
  have hB : hy_B RL cL_storm 5 wsL_storm G (va_A (cw G σ ++ hy_ex G oa f) s.heap.size) p s m _ c := ⟨⟨hx, hb, hml, hown, hts⟩, hK, hN⟩
  have w : hy_wx (cw G σ ++ hy_ex G oa f) G (va_A (cw G σ ++ hy_ex G oa f) s.heap.size) s s.heap [] := ⟨hP, hD, hS⟩
  refine lv_aload_n hx hb dL_storm_0 rfl (lv_at hl 3 rfl) ?_
  refine lv_iconst (v := 0) hx hb dL_storm_1 (by decide) ?_
  refine lv_aload_n hx hb dL_storm_2 rfl (lv_at hl 0 rfl) ?_
  refine lv_iload_n hx hb dL_storm_3 rfl (lv_at hl 1 rfl) ?_
  refine lv_iload_n hx hb dL_storm_4 rfl (lv_at hl 2 rfl) ?_
  refine hy_fv (ex := hy_ex G oa f) (As := [.int x1, .int x2]) (rest := [.int 0, .ref oa]) (o := (o.1, o.2.1)) cw_fix hA hB w (fun sz => mX9_storm l G sz σ x1 x2 o hf ho) (cwV 2 hts gL_storm_X9_storm rfl rfl rfl (by decide +kernel) ⟨Nat.le_of_ble_eq_true rfl, Nat.le_of_ble_eq_true rfl⟩) rfl (cwq_0 G σ) rfl hl.1 rfl (Nat.le_of_ble_eq_true rfl) dL_storm_5 ⟨Nat.zero_le _, Nat.zero_le _⟩ (fun H locs w => ?_)
  refine lv_i2l (v := o.2.1.toInt64) hx hb dL_storm_8 rfl ?_
  refine va_last (x := o.2.1.toInt64) hx hb hB.2.1 w.1 w.2.1 w.2.2 40 3 rfl rfl (by unfold vp_in; decide) dL_storm_9 (fun H locs hP hD hS => ?_)
  refine lv_goto (tgt := 21) hx hb dL_storm_10 (by decide) ?_
  refine lv_iconst (v := 0) hx hb dL_storm_21 (by decide) ?_
  exact W.iret hx hb hr (fun t ht hW => ⟨⟨0, (), rfl, rfl, by show va_P _ _ _ t.heap; rw [ht]; exact hP⟩, hS.F ht⟩) hS.2.2 dL_storm_22
set_option maxHeartbeats 4000000 in
set_option maxRecDepth 100000 in
theorem qL_storm_1 (l : Launch) (hlt : l.stackTraces = false) (G : hy_G) (oa sz : Nat) (σ : hy_S) (f : Nat → Int64) (x1 : Int32) (x2 : Int32) (o : hy_S × Int32 × Nat) (hf : fX9_storm σ x1 x2 = some o) (ho : o.2.2 = 1) : Met l yL_storm wsL_storm ({ frames := 8, cells := 1, slots := 6, locals := 126 }) (va_Pc [.ref (G.2.2.2.1 0), .int x1, .int x2, .ref oa] (hy_preX (cw G σ ++ hy_ex G oa f) G sz)) (hy_QX (cw G σ ++ hy_ex G oa f) (cw G o.1 ++ hy_ex G oa f) G sz 1) 1 6 (va_A (cw G σ ++ hy_ex G oa f) sz) := by
  refine va_MetW (cc := cL_storm) (maxL := 5) (ret := some .int) (hh := [(0, 10, 13, 20), (0, 10, 17, 13)]) (by decide +kernel) rfl ?_
  intro p e s m args below meth c s₁ B hml hv
  obtain ⟨rfl, hsz, hP, hK, hD0, hN, hnp⟩ := hv
  have hx := B.exec
  have hb := B.bytes
  have hr := B.returns
  have hts := atoms_spec (ws := wsL_storm) B.pre
  have hown : s.vm.findClass RL = some m.cls := findClass_of_methodNamed B.named
  have hlocks := B.notSynchronized
  subst hsz
  have hD := hD0.self (sz := s.heap.size)
  have hA : ∀ q : Nat, s.heap.size ≤ q → va_A (cw G σ ++ hy_ex G oa f) s.heap.size q := fun q h => Or.inr h
  have hS : va_S (va_A (cw G σ ++ hy_ex G oa f) s.heap.size) s.heap s.heap [] := va_S.rf
  have hl := lv_entry ([.ref (G.2.2.2.1 0), .int x1, .int x2, .ref oa]) (n := 5) (Nat.le_of_ble_eq_true rfl)
  rw [lg_entry_eq]
  generalize (lg_sl ([.ref (G.2.2.2.1 0), .int x1, .int x2, .ref oa]) ++ List.replicate (5 - (lg_sl ([.ref (G.2.2.2.1 0), .int x1, .int x2, .ref oa])).length) Slot.unset).toArray = ls at hl ⊢
  have hl : lv_has ls 5 [(0, .ref (G.2.2.2.1 0)), (1, .int x1), (2, .int x2), (3, .ref oa)] := hl
  have hB : hy_B RL cL_storm 5 wsL_storm G (va_A (cw G σ ++ hy_ex G oa f) s.heap.size) p s m _ c := ⟨⟨hx, hb, hml, hown, hts⟩, hK, hN⟩
  have w : hy_wx (cw G σ ++ hy_ex G oa f) G (va_A (cw G σ ++ hy_ex G oa f) s.heap.size) s s.heap [] := ⟨hP, hD, hS⟩
  refine lv_aload_n hx hb dL_storm_0 rfl (lv_at hl 3 rfl) ?_
  refine lv_iconst (v := 0) hx hb dL_storm_1 (by decide) ?_
  refine lv_aload_n hx hb dL_storm_2 rfl (lv_at hl 0 rfl) ?_
  refine lv_iload_n hx hb dL_storm_3 rfl (lv_at hl 1 rfl) ?_
  refine lv_iload_n hx hb dL_storm_4 rfl (lv_at hl 2 rfl) ?_
  refine hy_ft (ex := hy_ex G oa f) (As := [.int x1, .int x2]) (rest := [.int 0, .ref oa]) (o := o) cw_fix hA hB w (fun sz => tX9_storm l hlt G sz σ x1 x2 o hf (by rw [ho]; decide)) (cwV 2 hts gL_storm_X9_storm rfl rfl rfl (by decide +kernel) ⟨Nat.le_of_ble_eq_true rfl, Nat.le_of_ble_eq_true rfl⟩) rfl (cwq_0 G σ) rfl hl.1 rfl (Nat.le_of_ble_eq_true rfl) dL_storm_5 ⟨Nat.le_of_ble_eq_true rfl, Nat.le_of_ble_eq_true rfl⟩ (fun ce q9 H locs w h1 h2 h3 => ?_)
  rw [ho] at h3
  have htab := vx_table (x := yL_storm) B (hts (.codeWith yL_storm cL_storm 5 (some .int) [(0, 10, 13, 20), (0, 10, 17, 13)]) List.mem_cons_self)
  refine hx_catch (own := RL) (name := "java/lang/IndexOutOfBoundsException") (E := "java/lang/IndexOutOfBoundsException") hown [] ⟨0, 10, 13, 20⟩ [⟨0, 10, 17, 13⟩] htab (fun z hz => by cases hz) (by decide) (by decide) (hts (.classLink RL 20 "java/lang/IndexOutOfBoundsException") (by decide +kernel)) (va_Nw.use rfl (hB.2.2.1.2.1.2.2.2.1 "java/lang/IndexOutOfBoundsException" (by decide +kernel))) h1 h2 h3 ?_
  refine lv_astore (lv' := [(4, .ref q9), (0, .ref (G.2.2.2.1 0)), (1, .int x1), (2, .int x2), (3, .ref oa)]) hx hb dL_storm_13 hl (by decide) rfl (fun ls hl => ?_)
  refine lv_iconst (v := 1) hx hb dL_storm_15 (by decide) ?_
  exact W.iret hx hb hr (fun t ht hW => ⟨⟨1, (), rfl, rfl, by show va_P _ _ _ t.heap; rw [ht]; exact w.1⟩, w.2.2.F ht⟩) w.2.2.2.2 dL_storm_16
set_option maxHeartbeats 4000000 in
set_option maxRecDepth 100000 in
theorem qL_storm_2 (l : Launch) (hlt : l.stackTraces = false) (G : hy_G) (oa sz : Nat) (σ : hy_S) (f : Nat → Int64) (x1 : Int32) (x2 : Int32) (o : hy_S × Int32 × Nat) (hf : fX9_storm σ x1 x2 = some o) (ho : o.2.2 = 2) : Met l yL_storm wsL_storm ({ frames := 8, cells := 1, slots := 6, locals := 126 }) (va_Pc [.ref (G.2.2.2.1 0), .int x1, .int x2, .ref oa] (hy_preX (cw G σ ++ hy_ex G oa f) G sz)) (hy_QX (cw G σ ++ hy_ex G oa f) (cw G o.1 ++ hy_ex G oa f) G sz 2) 1 6 (va_A (cw G σ ++ hy_ex G oa f) sz) := by
  refine va_MetW (cc := cL_storm) (maxL := 5) (ret := some .int) (hh := [(0, 10, 13, 20), (0, 10, 17, 13)]) (by decide +kernel) rfl ?_
  intro p e s m args below meth c s₁ B hml hv
  obtain ⟨rfl, hsz, hP, hK, hD0, hN, hnp⟩ := hv
  have hx := B.exec
  have hb := B.bytes
  have hr := B.returns
  have hts := atoms_spec (ws := wsL_storm) B.pre
  have hown : s.vm.findClass RL = some m.cls := findClass_of_methodNamed B.named
  have hlocks := B.notSynchronized
  subst hsz
  have hD := hD0.self (sz := s.heap.size)
  have hA : ∀ q : Nat, s.heap.size ≤ q → va_A (cw G σ ++ hy_ex G oa f) s.heap.size q := fun q h => Or.inr h
  have hS : va_S (va_A (cw G σ ++ hy_ex G oa f) s.heap.size) s.heap s.heap [] := va_S.rf
  have hl := lv_entry ([.ref (G.2.2.2.1 0), .int x1, .int x2, .ref oa]) (n := 5) (Nat.le_of_ble_eq_true rfl)
  rw [lg_entry_eq]
  generalize (lg_sl ([.ref (G.2.2.2.1 0), .int x1, .int x2, .ref oa]) ++ List.replicate (5 - (lg_sl ([.ref (G.2.2.2.1 0), .int x1, .int x2, .ref oa])).length) Slot.unset).toArray = ls at hl ⊢
  have hl : lv_has ls 5 [(0, .ref (G.2.2.2.1 0)), (1, .int x1), (2, .int x2), (3, .ref oa)] := hl
  have hB : hy_B RL cL_storm 5 wsL_storm G (va_A (cw G σ ++ hy_ex G oa f) s.heap.size) p s m _ c := ⟨⟨hx, hb, hml, hown, hts⟩, hK, hN⟩
  have w : hy_wx (cw G σ ++ hy_ex G oa f) G (va_A (cw G σ ++ hy_ex G oa f) s.heap.size) s s.heap [] := ⟨hP, hD, hS⟩
  refine lv_aload_n hx hb dL_storm_0 rfl (lv_at hl 3 rfl) ?_
  refine lv_iconst (v := 0) hx hb dL_storm_1 (by decide) ?_
  refine lv_aload_n hx hb dL_storm_2 rfl (lv_at hl 0 rfl) ?_
  refine lv_iload_n hx hb dL_storm_3 rfl (lv_at hl 1 rfl) ?_
  refine lv_iload_n hx hb dL_storm_4 rfl (lv_at hl 2 rfl) ?_
  refine hy_ft (ex := hy_ex G oa f) (As := [.int x1, .int x2]) (rest := [.int 0, .ref oa]) (o := o) cw_fix hA hB w (fun sz => tX9_storm l hlt G sz σ x1 x2 o hf (by rw [ho]; decide)) (cwV 2 hts gL_storm_X9_storm rfl rfl rfl (by decide +kernel) ⟨Nat.le_of_ble_eq_true rfl, Nat.le_of_ble_eq_true rfl⟩) rfl (cwq_0 G σ) rfl hl.1 rfl (Nat.le_of_ble_eq_true rfl) dL_storm_5 ⟨Nat.le_of_ble_eq_true rfl, Nat.le_of_ble_eq_true rfl⟩ (fun ce q9 H locs w h1 h2 h3 => ?_)
  rw [ho] at h3
  have htab := vx_table (x := yL_storm) B (hts (.codeWith yL_storm cL_storm 5 (some .int) [(0, 10, 13, 20), (0, 10, 17, 13)]) List.mem_cons_self)
  refine hx_catch (own := RL) (name := "java/lang/IllegalArgumentException") (E := "java/lang/IllegalArgumentException") hown [⟨0, 10, 13, 20⟩] ⟨0, 10, 17, 13⟩ [] htab (fun z hz => by
    simp only [List.mem_cons, List.not_mem_nil, or_false] at hz
    rcases hz with rfl
    · exact ⟨by decide, by decide, "java/lang/IndexOutOfBoundsException", hts (.classLink RL 20 "java/lang/IndexOutOfBoundsException") (by decide +kernel), hnp ("java/lang/IllegalArgumentException", "java/lang/IndexOutOfBoundsException") (by decide +kernel)⟩) (by decide) (by decide) (hts (.classLink RL 13 "java/lang/IllegalArgumentException") (by decide +kernel)) (va_Nw.use rfl (hB.2.2.1.2.1.2.2.2.1 "java/lang/IllegalArgumentException" (by decide +kernel))) h1 h2 h3 ?_
  refine lv_astore (lv' := [(4, .ref q9), (0, .ref (G.2.2.2.1 0)), (1, .int x1), (2, .int x2), (3, .ref oa)]) hx hb dL_storm_17 hl (by decide) rfl (fun ls hl => ?_)
  refine lv_iconst (v := 2) hx hb dL_storm_19 (by decide) ?_
  exact W.iret hx hb hr (fun t ht hW => ⟨⟨2, (), rfl, rfl, by show va_P _ _ _ t.heap; rw [ht]; exact w.1⟩, w.2.2.F ht⟩) w.2.2.2.2 dL_storm_20
