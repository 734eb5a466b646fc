/-! Calls of either side's methods where other cells stand beside that side's world. -/
noncomputable def hy_wx (ws : va_W) (G : hy_G) (A : Nat → Prop) (s : State) (H : Heap) (locs : List Loc) : Prop := va_P G.1 vwCl ws H ∧ va_D A ws ∧ va_S A s.heap H locs
theorem hy_Pl {D : va_G} {cl : List vw_C} {a b : va_W} {H : Heap} (h : va_P D cl (a ++ b) H) : va_P D cl a H := fun k q hk => h k q (by rw [List.getElem?_append_left (List.getElem?_eq_some_iff.mp hk).1]; exact hk)
theorem hy_Pr {D : va_G} {cl : List vw_C} {a b : va_W} {H : Heap} (h : va_P D cl (a ++ b) H) : va_P D cl b H := fun k q hk => h (a.length + k) q (by rw [List.getElem?_append_right (Nat.le_add_right _ _), Nat.add_sub_cancel_left]; exact hk)
theorem hy_Dl {A : Nat → Prop} {a b : va_W} (h : va_D A (a ++ b)) : va_D A a := by
  have up : ∀ (k : Nat) (q : Nat × va_E), a[k]? = some q → (a ++ b)[k]? = some q := fun k q hk => by rw [List.getElem?_append_left (List.getElem?_eq_some_iff.mp hk).1]; exact hk
  exact ⟨fun i j x y hi hj => h.1 i j x y (up i x hi) (up j y hj), fun k q hk => h.2 k q (up k q hk)⟩
theorem hy_Dr {A : Nat → Prop} {a b : va_W} (h : va_D A (a ++ b)) : va_D A b := by
  have up : ∀ (k : Nat) (q : Nat × va_E), b[k]? = some q → (a ++ b)[a.length + k]? = some q := fun k q hk => by rw [List.getElem?_append_right (Nat.le_add_right _ _), Nat.add_sub_cancel_left]; exact hk
  exact ⟨fun i j x y hi hj hxy => Nat.add_left_cancel (h.1 _ _ x y (up i x hi) (up j y hj) hxy), fun k q hk => h.2 _ q (up k q hk)⟩
theorem hy_Dx {A : Nat → Prop} {a b : va_W} (h : va_D A (a ++ b)) : ∀ (i j : Nat) (p q : Nat × va_E), a[i]? = some p → b[j]? = some q → p.1 ≠ q.1 := by
  intro i j p q hi hj e
  have li := (List.getElem?_eq_some_iff.mp hi).1
  have := h.1 i (a.length + j) p q (by rw [List.getElem?_append_left li]; exact hi) (by rw [List.getElem?_append_right (Nat.le_add_right _ _), Nat.add_sub_cancel_left]; exact hj) e
  omega
theorem hy_swap {ws1 ws2 : va_W} {G : hy_G} {A : Nat → Prop} {s : State} {H : Heap} {locs : List Loc} (h : hy_wx (ws1 ++ ws2) G A s H locs) : hy_wx (ws2 ++ ws1) G A s H locs :=
  ⟨va_P.app (hy_Pr h.1) (hy_Pl h.1), va_D.app (hy_Dr h.2.1) (hy_Dl h.2.1) (fun i j p q hi hj e => hy_Dx h.2.1 j i q p hj hi e.symm), h.2.2⟩
/-- what a callee over wf leaves of the cells beside it -/
theorem hy_beside {wf : hy_G → hy_S → va_W} (hfix : hy_fix wf) {G : hy_G} {σ τ : hy_S} {ex : va_W} {A : Nat → Prop} {s : State} {H H1 : Heap} {locs locs1 : List Loc} (w : hy_wx (wf G σ ++ ex) G A s H locs) (hB : va_P G.1 vwCl (wf G τ) H1) (hk : ∀ q : Nat, q < H.size → ¬ va_A (wf G σ) H.size q → H1[q]? = H[q]?) (hS : va_S A s.heap H1 locs1) : hy_wx (wf G τ ++ ex) G A s H1 locs1 := by
  have hx := hy_Dx w.2.1
  have hP2 : va_P G.1 vwCl ex H1 := by
    intro k q hq
    have hat := hy_Pr w.1 k q hq
    refine hat.kept (hk q.1 hat.lt (fun z => ?_))
    rcases z with ⟨j, e, hj⟩ | hz
    · exact hx j k (q.1, e) q hj hq rfl
    · exact absurd hat.lt (Nat.not_lt.mpr hz)
  refine ⟨va_P.app hB hP2, va_D.app (hfix.D (hy_Dl w.2.1)) (hy_Dr w.2.1) (fun i j p q hi hj e => ?_), hS⟩
  obtain ⟨p', h1, e1⟩ := hfix.at (τ := σ) hi
  exact hx i j p' q h1 hj (e1.trans e)
section HYF
variable {p : Program} {l : Launch} {e : Env} {R : Room} {s : State} {m : MethodId} {args : Array Value} {below : List Frame} {meth : Method} {c : Code} {H : Heap} {locs : List Loc} {cells slots : Nat} {Q : State → Prop} {cc : ByteArray} {pc : Nat} {ls : Array Slot} {rest : List Value} {G : hy_G} {A : Nat → Prop} {own : String} {nL : Nat} {Ts : List Cond} {wf : hy_G → hy_S → va_W} {σ : hy_S} {ex : va_W}
theorem hy_wl0 (w : hy_wx (wf G σ ++ ex) G A s H locs) : hy_w wf G A s σ H locs := ⟨hy_Pl w.1, hy_Dl w.2.1, w.2.2⟩
theorem hy_fv (hfix : hy_fix wf) (hA : ∀ q : Nat, s.heap.size ≤ q → A q) (B : hy_B own cc nL Ts G A p s m args c) (w : hy_wx (wf G σ ++ ex) G A s H locs) {y : MethodName} {bytes : ByteArray} {maxL n idx a q0 ci : Nat} {ret : Option FieldType} {ws : List Cond} {rm : Room} {cq : vw_C} {fs : List Value} {As : List Value} {o : hy_S × Int32} {st0 : List Value}
    (hM : ∀ sz, hy_M l y ws rm wf G σ sz (.ref a :: As) o) (cw : CallW R s args own cq.1 idx y bytes maxL ret ws rm 0 0 n) (hc : vwCl[ci]? = some cq) (he : (wf G σ)[q0]? = some (a, .inr (ci, fs))) (hn : As.length = n) (hsz : ls.size = nL) (hst : st0 = As.reverse ++ .ref a :: rest) (hW : (rest.map fun v => v.category).sum ≤ 8) (d : decode cc pc = .ok (.invokevirtual idx, 3)) (hcl : cells ≤ R.cells ∧ slots ≤ R.slots)
    (kk : ∀ (H1 : Heap) (locs1 : List Loc), hy_wx (wf G o.1 ++ ex) G A s H1 locs1 → W p l e R s m args below meth c H1 locs1 cells slots Q (F0 m (pc + 3) ls (.int o.2 :: rest))) : W p l e R s m args below meth c H locs cells slots Q (F0 m pc ls st0) := by
  have w0 := hy_wl0 w
  have hF := hy_freeA hA w0
  refine va_calli (va_runV (As := As) (rest := rest) B.1 (hM H.size) cw ⟨hy_blind, va_recv B.2.1 w0.1 hc he, hy_preAt hA B w0 (.ref a :: As)⟩ rfl hn hsz hst (lv_room hW) d hcl) w.2.2 (fun q _ h => hF q h) hF (fun r u t H1 locs1 ht hvm hw hB hz1 hk1 hS => ?_)
  obtain ⟨rfl, rfl⟩ := hw
  rw [ht] at hB
  exact kk H1 locs1 (hy_beside hfix w hB hk1 hS)
theorem hy_fvv (hfix : hy_fix wf) (hA : ∀ q : Nat, s.heap.size ≤ q → A q) (B : hy_B own cc nL Ts G A p s m args c) (w : hy_wx (wf G σ ++ ex) G A s H locs) {y : MethodName} {bytes : ByteArray} {maxL n idx a q0 ci : Nat} {ret : Option FieldType} {ws : List Cond} {rm : Room} {cq : vw_C} {fs : List Value} {As : List Value} {o : hy_S × Int32} {st0 : List Value}
    (hM : ∀ sz, hy_Mv l y ws rm wf G σ sz (.ref a :: As) o) (cw : CallW R s args own cq.1 idx y bytes maxL ret ws rm 0 0 n) (hc : vwCl[ci]? = some cq) (he : (wf G σ)[q0]? = some (a, .inr (ci, fs))) (hn : As.length = n) (hsz : ls.size = nL) (hst : st0 = As.reverse ++ .ref a :: rest) (hW : (rest.map fun v => v.category).sum ≤ 8) (d : decode cc pc = .ok (.invokevirtual idx, 3)) (hcl : cells ≤ R.cells ∧ slots ≤ R.slots)
    (kk : ∀ (H1 : Heap) (locs1 : List Loc), hy_wx (wf G o.1 ++ ex) G A s H1 locs1 → W p l e R s m args below meth c H1 locs1 cells slots Q (F0 m (pc + 3) ls rest)) : W p l e R s m args below meth c H locs cells slots Q (F0 m pc ls st0) := by
  have w0 := hy_wl0 w
  have hF := hy_freeA hA w0
  refine va_callv (va_runV (As := As) (rest := rest) B.1 (hM H.size) cw ⟨hy_blind, va_recv B.2.1 w0.1 hc he, hy_preAt hA B w0 (.ref a :: As)⟩ rfl hn hsz hst (lv_room hW) d hcl) w.2.2 (fun q _ h => hF q h) hF (fun u t H1 locs1 ht hvm hw hB hz1 hk1 hS => ?_)
  obtain rfl := hw
  rw [ht] at hB
  exact kk H1 locs1 (hy_beside hfix w hB hk1 hS)
/-- .. that throws: what is left to show is how this method's own table meets it -/
theorem hy_ft (hfix : hy_fix wf) (hA : ∀ q : Nat, s.heap.size ≤ q → A q) (B : hy_B own cc nL Ts G A p s m args c) (w : hy_wx (wf G σ ++ ex) G A s H locs) {y : MethodName} {bytes : ByteArray} {maxL n idx a q0 ci : Nat} {ret : Option FieldType} {ws : List Cond} {rm : Room} {cq : vw_C} {fs : List Value} {As : List Value} {o : hy_O} {st0 : List Value}
    (hM : ∀ sz, hy_MT l y ws rm wf G σ sz (.ref a :: As) o) (cw : CallW R s args own cq.1 idx y bytes maxL ret ws rm 1 6 n) (hc : vwCl[ci]? = some cq) (he : (wf G σ)[q0]? = some (a, .inr (ci, fs))) (hn : As.length = n) (hsz : ls.size = nL) (hst : st0 = As.reverse ++ .ref a :: rest) (hW : (rest.map fun v => v.category).sum ≤ 8) (d : decode cc pc = .ok (.invokevirtual idx, 3)) (hcl : cells + 1 ≤ R.cells ∧ slots + 6 ≤ R.slots)
    (kx : ∀ (ce : Cell) (q9 : Addr) (H1 : Heap) (locs1 : List Loc), hy_wx (wf G o.1 ++ ex) G A s H1 locs1 → H1[q9]? = some ce → ce.vm = .none → s.vm.findClass (hy_en o.2.2) = some ce.cls → vx_W p l e R s m args below meth c H1 locs1 (cells + 1) (slots + 6) Q (F0 m pc ls rest) q9) : W p l e R s m args below meth c H locs cells slots Q (F0 m pc ls st0) := by
  have w0 := hy_wl0 w
  have hF := hy_freeA hA w0
  refine vx_calli (vx_runV (As := As) (rest := rest) B.1 (hM H.size) cw ⟨hy_blind, va_recv B.2.1 w0.1 hc he, hy_preAt hA B w0 (.ref a :: As)⟩ rfl hn hsz hst (lv_room hW) d hcl) w.2.2 (fun q _ h => hF q h) hF (fun q _ h => hF q h) (fun E ce q9 u t H1 locs1 ht hvm hp hB hz hk hS h1 h2 h3 => ?_) (fun r u t H1 locs1 ht hvm hw hB hz hk hS => hw.elim)
  obtain ⟨rfl, hB⟩ := hB
  rw [ht] at hB
  exact kx ce q9 H1 locs1 (hy_beside hfix w hB hk hS) h1 h2 h3
theorem hy_ftv (hfix : hy_fix wf) (hA : ∀ q : Nat, s.heap.size ≤ q → A q) (B : hy_B own cc nL Ts G A p s m args c) (w : hy_wx (wf G σ ++ ex) G A s H locs) {y : MethodName} {bytes : ByteArray} {maxL n idx a q0 ci : Nat} {ret : Option FieldType} {ws : List Cond} {rm : Room} {cq : vw_C} {fs : List Value} {As : List Value} {o : hy_O} {st0 : List Value}
    (hM : ∀ sz, hy_MTv l y ws rm wf G σ sz (.ref a :: As) o) (cw : CallW R s args own cq.1 idx y bytes maxL ret ws rm 1 6 n) (hc : vwCl[ci]? = some cq) (he : (wf G σ)[q0]? = some (a, .inr (ci, fs))) (hn : As.length = n) (hsz : ls.size = nL) (hst : st0 = As.reverse ++ .ref a :: rest) (hW : (rest.map fun v => v.category).sum ≤ 8) (d : decode cc pc = .ok (.invokevirtual idx, 3)) (hcl : cells + 1 ≤ R.cells ∧ slots + 6 ≤ R.slots)
    (kx : ∀ (ce : Cell) (q9 : Addr) (H1 : Heap) (locs1 : List Loc), hy_wx (wf G o.1 ++ ex) G A s H1 locs1 → H1[q9]? = some ce → ce.vm = .none → s.vm.findClass (hy_en o.2.2) = some ce.cls → vx_W p l e R s m args below meth c H1 locs1 (cells + 1) (slots + 6) Q (F0 m pc ls rest) q9) : W p l e R s m args below meth c H locs cells slots Q (F0 m pc ls st0) := by
  have w0 := hy_wl0 w
  have hF := hy_freeA hA w0
  refine vx_callv (vx_runV (As := As) (rest := rest) B.1 (hM H.size) cw ⟨hy_blind, va_recv B.2.1 w0.1 hc he, hy_preAt hA B w0 (.ref a :: As)⟩ rfl hn hsz hst (lv_room hW) d hcl) w.2.2 (fun q _ h => hF q h) hF (fun q _ h => hF q h) (fun E ce q9 u t H1 locs1 ht hvm hp hB hz hk hS h1 h2 h3 => ?_) (fun u t H1 locs1 ht hvm hw hB hz hk hS => hw.elim)
  obtain ⟨rfl, hB⟩ := hB
  rw [ht] at hB
  exact kx ce q9 H1 locs1 (hy_beside hfix w hB hk hS) h1 h2 h3
end HYF
