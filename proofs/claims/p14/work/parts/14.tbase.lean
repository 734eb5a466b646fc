
abbrev hy_O : Type := hy_S × Int32 × Nat
def hy_bt {α : Type} (x : Option hy_O) (r : hy_O → Option α) (k : hy_S → Int32 → Option α) : Option α := match x with
  | some o => if o.2.2 = 0 then k o.1 o.2.1 else r o
  | none => none
theorem hy_bt_some {x : Option hy_O} {k : hy_S → Int32 → Option hy_O} {o : hy_O} (h : hy_bt x some k = some o) : (∃ τ v, x = some (τ, v, 0) ∧ k τ v = some o) ∨ (x = some o ∧ ¬ o.2.2 = 0) := by
  cases x with
  | none => cases h
  | some q =>
    unfold hy_bt at h
    by_cases c : q.2.2 = 0
    · rw [show (match some q with | some o => if o.2.2 = 0 then k o.1 o.2.1 else some o | none => none) = (if q.2.2 = 0 then k q.1 q.2.1 else some q) from rfl, if_pos c] at h
      exact Or.inl ⟨q.1, q.2.1, by rw [← c], h⟩
    · rw [show (match some q with | some o => if o.2.2 = 0 then k o.1 o.2.1 else some o | none => none) = (if q.2.2 = 0 then k q.1 q.2.1 else some q) from rfl, if_neg c] at h
      cases h
      exact Or.inr ⟨rfl, c⟩
def hy_en (k : Nat) : String := match k with
  | 1 => "java/lang/IndexOutOfBoundsException"
  | 2 => "java/lang/IllegalArgumentException"
  | 3 => "java/lang/UnsupportedOperationException"
  | _ => "java/util/NoSuchElementException"
def hy_cl : List String := ["java/lang/IndexOutOfBoundsException", "java/lang/IllegalArgumentException", "java/lang/UnsupportedOperationException", "java/util/NoSuchElementException"]
def hy_dc : List MethodName := [Bundle.initS "java/lang/RuntimeException", Bundle.initS "java/lang/Exception", Bundle.initS Bundle.tN]
abbrev hy_nx : List String := ["java/lang/RuntimeException", "java/lang/Exception"]
def hy_ts : List (String × Nat × String) := [(RX9, 169, "what is 0 to 8"), (RX9, 195, "the text is no note"), (RX9, 236, "what is 0 to 2"), (RX9, 238, "the two stamps are one"), (RX9, 254, "the tellings do not agree"), (RX9, 260, "there is no such bound"), (RX9, 273, "there is no such thing"), (RX9, 276, "the number is too small or too great"), (RX9, 280, "there are as many as there may be")]
def hy_thr (G : hy_G) (U : State) : Prop := vx_Zq Bundle.tN "UNASSIGNED_STACK" Bundle.steD (fun q => G.2.2.1 ≤ q) U U.heap ∧ vx_Zq Bundle.tN "SUPPRESSED_SENTINEL" Bundle.listD (fun q => G.2.2.1 ≤ q) U U.heap ∧ (∀ q ∈ hy_ts, ∃ a, vk_R q.1 q.2.1 q.2.2 a U) ∧ (∀ X ∈ hy_cl, va_Nw (.castable X X) U) ∧ ∀ y ∈ hy_dc, va_Nw (.declares y) U
def hy_preT (wf : hy_G → hy_S → va_W) (G : hy_G) (σ : hy_S) (sz : Nat) (U : State) : Prop := hy_pre wf G σ sz U ∧ hy_thr G U ∧ ∀ q, va_A (wf G σ) sz q → G.2.2.1 ≤ q
def hy_X (wf : hy_G → hy_S → va_W) (G : hy_G) (o : hy_O) (A : Nat → Prop) : String → State → State → Prop := vx_X (fun _ : Unit => True) (fun E _ t => E = hy_en o.2.2 ∧ va_P G.1 vwCl (wf G o.1) t.heap) A
abbrev hy_MT (l : Launch) (y : MethodName) (ws : List Cond) (rm : Room) (wf : hy_G → hy_S → va_W) (G : hy_G) (σ : hy_S) (sz : Nat) (av : List Value) (o : hy_O) : Prop := vx_Met l y ws rm (va_Pc av (hy_preT wf G σ sz)) (va_Qi (fun _ (_ : Unit) => False) (fun _ _ => True) (va_A (wf G σ) sz)) (hy_X wf G o (va_A (wf G σ) sz)) 1 6 (va_A (wf G σ) sz)
abbrev hy_MTv (l : Launch) (y : MethodName) (ws : List Cond) (rm : Room) (wf : hy_G → hy_S → va_W) (G : hy_G) (σ : hy_S) (sz : Nat) (av : List Value) (o : hy_O) : Prop := vx_Met l y ws rm (va_Pc av (hy_preT wf G σ sz)) (va_Qv (fun _ : Unit => False) (fun _ _ => True) (va_A (wf G σ) sz)) (hy_X wf G o (va_A (wf G σ) sz)) 1 6 (va_A (wf G σ) sz)
theorem hy_thr.kept {G : hy_G} {s U : State} {H : Heap} {locs : List Loc} {A : Nat → Prop} (hz : ∀ q, A q → G.2.2.1 ≤ q) (hS : va_S A s.heap H locs) (hU : U.heap = H) (hW : s.WarmedH U.vm) (h : hy_thr G s) : hy_thr G U := by
  obtain ⟨h1, h2, h3, h4, h5⟩ := h
  have hk : ∀ a : Nat, a < s.heap.size → ¬ (G.2.2.1 ≤ a) → U.heap[a]? = s.heap[a]? := fun a ha hn => by rw [hU]; exact hS.2.1 a ha (fun z => hn (hz a z))
  refine ⟨(vx_Zq.kept h1 hk).moved hW.alike, (vx_Zq.kept h2 hk).moved hW.alike, fun q hq => ?_, fun X hX => va_Nw.warmC hW (h4 X hX), fun y hy => va_tabs rfl (rfl : (s.setVm U.vm).vm = U.vm) (by rw [Cond.declares_setVm hW.alike]; exact h5 y hy)⟩
  obtain ⟨a, ha⟩ := h3 q hq
  exact ⟨a, ha.warm hW⟩
theorem hy_blindT {wf : hy_G → hy_S → va_W} {G : hy_G} {σ : hy_S} {sz : Nat} {av : List Value} : FrameBlind (va_Pc av (hy_preT wf G σ sz)) := by
  intro a U g mk q
  obtain ⟨q0, q1, ⟨h1, h2, h3, h4, h5⟩, q3⟩ := q
  have hb := hy_blind a U g mk (⟨q0, q1⟩ : va_Pc av (hy_pre wf G σ sz) a U)
  refine ⟨hb.1, hb.2, ⟨vx_Zq.moved (u := U) (U := U.calling g mk a) (Vm.Alike.refl U.vm) h1, vx_Zq.moved (u := U) (U := U.calling g mk a) (Vm.Alike.refl U.vm) h2, fun q hq => ?_, fun X hX => va_Nw.same rfl (rfl : U.vm = (U.calling g mk a).vm) (h4 X hX), fun y hy => va_Nw.same rfl (rfl : U.vm = (U.calling g mk a).vm) (h5 y hy)⟩, q3⟩
  obtain ⟨b, hb⟩ := h3 q hq
  exact ⟨b, vk_R.same (u := U) (U := U.calling g mk a) rfl hb⟩
section HYT
variable {p : Program} {l : Launch} {e : Env} {R : Room} {s : State} {m : MethodId} {args : Array Value} {below : List Frame} {meth : Method} {c : Code} {H : Heap} {locs : List Loc} {cells slots : Nat} {Q : State → Prop} {cc : ByteArray} {pc : Nat} {ls : Array Slot} {rest : List Value} {G : hy_G} {A : Nat → Prop} {own : String} {nL : Nat} {Ts : List Cond} {wf : hy_G → hy_S → va_W} {σ : hy_S} {Qc : Array Value → State → Outcome → State → Prop}
/-- what a body that throws stands on -/
def hy_TC (G : hy_G) (A : Nat → Prop) (l : Launch) (R : Room) (s : State) (meth : Method) (c : Code) : Prop := hy_thr G s ∧ (∀ q, A q → G.2.2.1 ≤ q) ∧ l.stackTraces = false ∧ meth.locks = false ∧ (∀ x ∈ c.exceptionTable.toList, False) ∧ 1 ≤ R.cells ∧ 6 ≤ R.slots
theorem hy_atT (B : hy_B own cc nL Ts G p s m args c) (hT : hy_TC G A l R s meth c) (hA : ∀ q : Nat, s.heap.size ≤ q → A q) (w : hy_w wf G A s σ H locs) (av : List Value) : ∀ U : State, U.heap = H → s.WarmedH U.vm → va_Pc av (hy_preT wf G σ H.size) av.toArray U := fun U hU hW => ⟨rfl, (hy_preAt B w av U hU hW).2, hT.1.kept hT.2.1 w.2.2 hU hW, fun q h => hT.2.1 q (hy_freeA hA w q h)⟩
theorem hy_XofS {τ : hy_S} {k : Nat} {v : Int32} (w : hy_w wf G A s τ H locs) : ∀ t : State, s.vm.Alike t.vm → H.size ≤ t.heap.size → (∀ q : Nat, q < H.size → t.heap[q]? = H[q]?) → hy_X wf G (τ, v, k) A (hy_en k) s t := fun t _ hz hk => ⟨(), trivial, ⟨rfl, w.1.kept (fun j q hj => hk q.1 (w.1 j q hj).lt)⟩, ⟨Nat.le_trans w.2.2.1 hz, fun q h1 h2 => by rw [hk q (Nat.lt_of_lt_of_le h1 w.2.2.1)]; exact w.2.2.2.1 q h1 h2⟩⟩
theorem hy_throwS (B : hy_B own cc nL Ts G p s m args c) (w : hy_w wf G A s σ H locs) (hT : hy_TC G A l R s meth c) {ik is ic k : Nat} {text : String} {v : Int32} (hR : 6 ≤ R.frames ∧ 82 ≤ R.locals) (h1 : Cond.classLink own ik (hy_en k) ∈ Ts) (h2 : Cond.initialized (hy_en k) ∈ Ts) (hg : ∀ w ∈ (vx_atS own ic (hy_en k) hy_nx).filter goodWord, w ∈ Ts) (hng : ∀ w ∈ (vx_atS own ic (hy_en k) hy_nx).filter (fun w => !goodWord w), w ∈ Cond.castable (hy_en k) (hy_en k) :: hy_dc.map Cond.declares) (hot : ∀ w ∈ Cond.classLink own ik (hy_en k) :: Cond.initialized (hy_en k) :: vx_atS own ic (hy_en k) hy_nx, vx_ot w = true) (hfit : Bundle.fit (hy_en k) = true) (hs : (own, is, text) ∈ hy_ts) (hcl : hy_en k ∈ hy_cl) (hsz : ls.size = nL) (d0 : decode cc pc = .ok (.new ik, 3)) (d3 : decode cc (pc + 3) = .ok (.dup, 1)) (d4 : decode cc (pc + 4) = .ok (.ldc is, 2)) (d6 : decode cc (pc + 6) = .ok (.invokespecial ic, 3)) (d9 : decode cc (pc + 9) = .ok (.athrow, 1)) : W p l e R s m args below meth c H locs 0 0 (vx_MQ below Qc (hy_X wf G (σ, v, k) A) args s 1 6 A) (F0 m pc ls []) := by
  obtain ⟨a, ha⟩ := hT.1.2.2.1 _ hs
  refine vx_throwS (names := hy_nx) (text := text) (sa := a) (A := A) (ik := ik) (is := is) (ic := ic) B.1.1 B.1.2.1 hT.2.2.1 B.1.2.2.2.1 hfit (by decide +kernel) (B.1.2.2.2.2 _ h1) (B.1.2.2.2.2 _ h2) ha (vx_hat (fun w h => B.1.2.2.2.2 w (hg w h)) hng (vx_c (va_Nw.use rfl (hT.1.2.2.2.1 _ hcl)) (fun w h => by
    obtain ⟨y, hy, rfl⟩ := List.mem_map.mp h
    exact va_Nw.use rfl (hT.1.2.2.2.2 y hy)))) hot (hT.1.1.narrow hT.2.1) (hT.1.2.1.narrow hT.2.1) w.2.2 (hsz.trans B.1.2.2.1.symm) d0 d3 d4 d6 d9 (fun x hx => (hT.2.2.2.2.1 x hx).elim) (by have := hR.1; show 2 + 3 < _; omega) (by have := hR.2; show 0 + (13 * 3 + 43) ≤ _; omega) (by have := hT.2.2.2.2.2.1; omega) (by have := hT.2.2.2.2.2.2; omega) hT.2.2.2.1 (hy_XofS w) w.2.2.2.2 (Nat.le_refl _) (Nat.le_refl _)
theorem hy_throwW (B : hy_B own cc nL Ts G p s m args c) (w : hy_w wf G A s σ H locs) (hT : hy_TC G A l R s meth c) {ik is ic k : Nat} {text : String} {v : Int32} (hR : 6 ≤ R.frames ∧ 82 ≤ R.locals) (h1 : Cond.classLink own ik (hy_en k) ∈ Ts) (h2 : Cond.initialized (hy_en k) ∈ Ts) (hg : ∀ w ∈ (vx_atS own ic (hy_en k) hy_nx).filter goodWord, w ∈ Ts) (hng : ∀ w ∈ (vx_atS own ic (hy_en k) hy_nx).filter (fun w => !goodWord w), w ∈ Cond.castable (hy_en k) (hy_en k) :: hy_dc.map Cond.declares) (hot : ∀ w ∈ Cond.classLink own ik (hy_en k) :: Cond.initialized (hy_en k) :: vx_atS own ic (hy_en k) hy_nx, vx_ot w = true) (hfit : Bundle.fit (hy_en k) = true) (hs : (own, is, text) ∈ hy_ts) (hcl : hy_en k ∈ hy_cl) (hsz : ls.size = nL) (d0 : decode cc pc = .ok (.new ik, 3)) (d3 : decode cc (pc + 3) = .ok (.dup, 1)) (d4 : decode cc (pc + 4) = .ok (.ldc_w is, 3)) (d6 : decode cc (pc + 7) = .ok (.invokespecial ic, 3)) (d9 : decode cc (pc + 10) = .ok (.athrow, 1)) : W p l e R s m args below meth c H locs 0 0 (vx_MQ below Qc (hy_X wf G (σ, v, k) A) args s 1 6 A) (F0 m pc ls []) := by
  obtain ⟨a, ha⟩ := hT.1.2.2.1 _ hs
  refine vx_throwSW (names := hy_nx) (text := text) (sa := a) (A := A) (ik := ik) (is := is) (ic := ic) B.1.1 B.1.2.1 hT.2.2.1 B.1.2.2.2.1 hfit (by decide +kernel) (B.1.2.2.2.2 _ h1) (B.1.2.2.2.2 _ h2) ha (vx_hat (fun w h => B.1.2.2.2.2 w (hg w h)) hng (vx_c (va_Nw.use rfl (hT.1.2.2.2.1 _ hcl)) (fun w h => by
    obtain ⟨y, hy, rfl⟩ := List.mem_map.mp h
    exact va_Nw.use rfl (hT.1.2.2.2.2 y hy)))) hot (hT.1.1.narrow hT.2.1) (hT.1.2.1.narrow hT.2.1) w.2.2 (hsz.trans B.1.2.2.1.symm) d0 d3 d4 d6 d9 (fun x hx => (hT.2.2.2.2.1 x hx).elim) (by have := hR.1; show 2 + 3 < _; omega) (by have := hR.2; show 0 + (13 * 3 + 43) ≤ _; omega) (by have := hT.2.2.2.2.2.1; omega) (by have := hT.2.2.2.2.2.2; omega) hT.2.2.2.1 (hy_XofS w) w.2.2.2.2 (Nat.le_refl _) (Nat.le_refl _)
/-- a callee's throw goes on to the caller -/
theorem hy_outT {o : hy_O} {pcx : Nat} {H1 : Heap} {locs1 : List Loc} {t : State} {E : String} {ce : Cell} {q9 : Addr} {st : List Value} (hT : hy_TC G A l R s meth c) (ht : t.heap = H1) (hB : E = hy_en o.2.2 ∧ va_P G.1 vwCl (wf G o.1) t.heap) (hS : va_S A s.heap H1 locs1) (h1 : H1[q9]? = some ce) (h2 : ce.vm = .none) (h3 : s.vm.findClass E = some ce.cls) : vx_W p l e R s m args below meth c H1 locs1 (0 + 1) (0 + 6) (vx_MQ below Qc (hy_X wf G o A) args s 1 6 A) (F0 m pcx ls st) q9 :=
  vx_out (fun x hx => (hT.2.2.2.2.1 x hx).elim) hT.2.2.2.1 h1 h2 h3 (fun u hu _ => ⟨(), trivial, ⟨hB.1, by rw [hu, ← ht]; exact hB.2⟩, hS.F hu⟩) hS.2.2 (Nat.le_refl _) (Nat.le_refl _)
theorem hy_tsv (hA : ∀ q : Nat, s.heap.size ≤ q → A q) (B : hy_B own cc nL Ts G p s m args c) (w : hy_w wf G A s σ H locs) (hT : hy_TC G A l R s meth c) {y : MethodName} {bytes : ByteArray} {maxL n idx : Nat} {ret : Option FieldType} {ws : List Cond} {rm : Room} {As : List Value} {o : hy_O} {st0 : List Value}
    (hM : ∀ sz, hy_MTv l y ws rm wf G σ sz As o) (cw : CallB R s args own idx y bytes maxL ret ws rm 1 6 n ∧ (Cond.static y).before args s = true) (hn : As.length = n) (hsz : ls.size = nL) (hst : st0 = As.reverse ++ rest) (hW : (rest.map fun v => v.category).sum ≤ 8) (d : decode cc pc = .ok (.invokestatic idx, 3)) : W p l e R s m args below meth c H locs 0 0 (vx_MQ below Qc (hy_X wf G o A) args s 1 6 A) (F0 m pc ls st0) := by
  have hF := hy_freeA hA w
  refine vx_callv (vx_runS (As := As) (rest := rest) B.1 (hM H.size) cw ⟨hy_blindT, hy_atT B hT hA w As⟩ rfl hn hsz hst (lv_room hW) d ⟨by have := hT.2.2.2.2.2.1; omega, by have := hT.2.2.2.2.2.2; omega⟩) w.2.2 (fun q _ h => hF q h) hF (fun q _ h => hF q h) (fun E ce q9 u t H1 locs1 ht hvm hp hB hz hk hS h1 h2 h3 => hy_outT hT ht hB hS h1 h2 h3) (fun u t H1 locs1 ht hvm hw hB hz hk hS => hw.elim)
theorem hy_tvv (hA : ∀ q : Nat, s.heap.size ≤ q → A q) (B : hy_B own cc nL Ts G p s m args c) (w : hy_w wf G A s σ H locs) (hT : hy_TC G A l R s meth c) {y : MethodName} {bytes : ByteArray} {maxL n idx a q0 ci : Nat} {ret : Option FieldType} {ws : List Cond} {rm : Room} {cq : vw_C} {fs : List Value} {As : List Value} {o : hy_O} {st0 : List Value}
    (hM : ∀ sz, hy_MTv l y ws rm wf G σ sz (.ref a :: As) o) (cw : CallW R s args own cq.1 idx y bytes maxL ret ws rm 1 6 n) (hc : vwCl[ci]? = some cq) (he : (wf G σ)[q0]? = some (a, .inr (ci, fs))) (hn : As.length = n) (hsz : ls.size = nL) (hst : st0 = As.reverse ++ .ref a :: rest) (hW : (rest.map fun v => v.category).sum ≤ 8) (d : decode cc pc = .ok (.invokevirtual idx, 3)) : W p l e R s m args below meth c H locs 0 0 (vx_MQ below Qc (hy_X wf G o A) args s 1 6 A) (F0 m pc ls st0) := by
  have hF := hy_freeA hA w
  refine vx_callv (vx_runV (As := As) (rest := rest) B.1 (hM H.size) cw ⟨hy_blindT, va_recv B.2.1 w.1 hc he, hy_atT B hT hA w (.ref a :: As)⟩ rfl hn hsz hst (lv_room hW) d ⟨by have := hT.2.2.2.2.2.1; omega, by have := hT.2.2.2.2.2.2; omega⟩) w.2.2 (fun q _ h => hF q h) hF (fun q _ h => hF q h) (fun E ce q9 u t H1 locs1 ht hvm hp hB hz hk hS h1 h2 h3 => hy_outT hT ht hB hS h1 h2 h3) (fun u t H1 locs1 ht hvm hw hB hz hk hS => hw.elim)
end HYT
