
/-! The law's loop: what stays through it, and the calls that its cases make. -/
noncomputable def hz_C (p : Program) (s : State) (m : MethodId) (c : Code) (b L : Nat) (xs : Nat → Int32) (G : hy_G) : Prop := hy_B RL cL_law 7 wsL_law G (fun q : Nat => s.heap.size ≤ q) p s m #[Value.ref b] c ∧ va_X b L xs s s.heap ∧ b < s.heap.size ∧ (∀ q ∈ hy_np, va_Nc q.1 q.2 s) ∧ L ≤ 3072
noncomputable abbrev hz_lv (b : Nat) (G : hy_G) (oa i : Nat) : List (Nat × Value) := [(0, .ref b), (1, .ref (G.2.2.2.1 0)), (2, .ref (G.2.2.2.2.1 0)), (3, .ref oa), (4, .int (nI i))]
noncomputable abbrev hz_w (G : hy_G) (oa : Nat) (s : State) (σ : hy_S) (f : Nat → Int64) (μ : hy_S) (H : Heap) (locs : List Loc) : Prop := hy_wx (cw G σ ++ hy_ex G oa f ++ mw G μ) G (fun q : Nat => s.heap.size ≤ q) s H locs
theorem hz_atm {w0 w1 : va_W} (hm : w0.map (fun q => q.1) = w1.map (fun q => q.1)) {k : Nat} {q : Nat × va_E} (h : w1[k]? = some q) : ∃ q', w0[k]? = some q' ∧ q'.1 = q.1 := by
  have e : (w1.map (fun q => q.1))[k]? = (w0.map (fun q => q.1))[k]? := by rw [hm]
  rw [List.getElem?_map, List.getElem?_map, h] at e
  cases h2 : w0[k]? with
  | none => rw [h2] at e; cases e
  | some q' => rw [h2] at e; exact ⟨q', rfl, (Option.some.inj e).symm⟩
theorem hz_beside {w0 w1 ex : va_W} (hm : w0.map (fun q => q.1) = w1.map (fun q => q.1)) {G : hy_G} {A : Nat → Prop} {s : State} {H H1 : Heap} {locs locs1 : List Loc} (w : hy_wx (w0 ++ ex) G A s H locs) (hB : va_P G.1 vwCl w1 H1) (hk : ∀ q : Nat, q < H.size → ¬ va_A w0 H.size q → H1[q]? = H[q]?) (hS : va_S A s.heap H1 locs1) : hy_wx (w1 ++ ex) G A s H1 locs1 := by
  have hx := hy_Dx w.2.1
  have hP2 : va_P G.1 vwCl ex H1 := by
    intro k q hq
    have hat := hy_Pr w.1 k q hq
    refine hat.kept (hk q.1 hat.lt (fun z => ?_))
    rcases z with ⟨j, e, hj⟩ | hz
    · exact hx j k (q.1, e) q hj hq rfl
    · exact absurd hat.lt (Nat.not_lt.mpr hz)
  have hD0 := hy_Dl w.2.1
  have hD1 : va_D A w1 := by
    refine ⟨fun i j x y hi hj hxy => ?_, fun k q hk => ?_⟩
    · obtain ⟨x', h1, e1⟩ := hz_atm hm hi
      obtain ⟨y', h2, e2⟩ := hz_atm hm hj
      exact hD0.1 i j x' y' h1 h2 (by rw [e1, e2]; exact hxy)
    · obtain ⟨q', h1, e1⟩ := hz_atm hm hk
      rw [← e1]
      exact hD0.2 k q' h1
  refine ⟨va_P.app hB hP2, va_D.app hD1 (hy_Dr w.2.1) (fun i j p q hi hj e => ?_), hS⟩
  obtain ⟨p', h1, e1⟩ := hz_atm hm hi
  exact hx i j p' q h1 hj (e1.trans e)
theorem hz_map {G : hy_G} {oa : Nat} {σ τ : hy_S} {f g : Nat → Int64} : (cw G σ ++ hy_ex G oa f).map (fun q => q.1) = (cw G τ ++ hy_ex G oa g).map (fun q => q.1) := by
  rw [List.map_append, List.map_append, cw_fix G σ τ]
  rfl
theorem hz_blind {ws : va_W} {G : hy_G} {sz : Nat} {av : List Value} : FrameBlind (va_Pc av (hy_preX ws G sz)) := by
  intro a U g mk q
  obtain ⟨q0, q1, qP, qK, qD, ⟨qN, qA⟩, qC⟩ := q
  exact ⟨q0, q1, qP, va_K.moved (u := U) (U := U.calling g mk a) (Vm.Alike.refl U.vm) qK, qD, ⟨qN.calling, qA⟩, fun z hz => (qC z hz).moved (u := U) (U := U.calling g mk a) (Vm.Alike.refl U.vm)⟩
section HZ
variable {p : Program} {l : Launch} {e : Env} {s : State} {m : MethodId} {below : List Frame} {meth : Method} {c : Code} {H : Heap} {locs : List Loc} {cells slots : Nat} {Q : State → Prop} {pc : Nat} {ls : Array Slot} {rest st : List Value} {G : hy_G} {b L oa i : Nat} {xs : Nat → Int32} {σ μ : hy_S} {f : Nat → Int64}
theorem hz_ld (C : hz_C p s m c b L xs G) (hl : lv_has ls 7 (hz_lv b G oa i)) (hS : va_S (fun q : Nat => s.heap.size ≤ q) s.heap H locs) (k : Nat) {kz : Int} (hk : i + k < L) (hkz : Int32.ofInt kz = nI k) (d0 : decode cL_law pc = .ok (.aload_n 0, 1)) (d1 : decode cL_law (pc + 1) = .ok (.iload 4, 2)) (d3 : decode cL_law (pc + 1 + 2) = .ok (.iconst kz, 1)) (d4 : decode cL_law (pc + 1 + 2 + 1) = .ok (.iadd, 1)) (d5 : decode cL_law (pc + 1 + 2 + 1 + 1) = .ok (.iaload, 1))
    (kk : W p l e room_1 s m #[Value.ref b] below meth c H locs cells slots Q (F0 m (pc + 1 + 2 + 1 + 1 + 1) ls (.int (xs (i + k)) :: st))) : W p l e room_1 s m #[Value.ref b] below meth c H locs cells slots Q (F0 m pc ls st) := by
  have hL := C.2.2.2.2
  refine lv_aload_n C.1.1.1 C.1.1.2.1 d0 rfl (lv_at hl 0 rfl) ?_
  refine lv_iload C.1.1.1 C.1.1.2.1 d1 (lv_at hl 4 rfl) ?_
  refine lv_iconst (v := nI k) C.1.1.1 C.1.1.2.1 d3 hkz ?_
  refine lv_iadd C.1.1.1 C.1.1.2.1 d4 ?_
  rw [nI_add]
  refine va_sld C.1.1.1 C.1.1.2.1 C.2.1 C.2.2.1 (Nat.not_le.mpr C.2.2.1) hS (vp_in_nI hk (by omega)) d5 ?_
  rw [nI_clamp (by omega)]
  exact kk
theorem hz_nz (C : hz_C p s m c b L xs G) {v : Int32} {t1 t2 : Nat} (d0 : decode cL_law pc = .ok (.ifCond .eq 7, 3)) (d1 : decode cL_law (pc + 3) = .ok (.iconst 1, 1)) (d2 : decode cL_law (pc + 3 + 1) = .ok (.goto 4, 3)) (h1 : pc + 7 = t1) (d3 : decode cL_law t1 = .ok (.iconst 0, 1)) (h2 : t1 + 1 = t2)
    (kk : W p l e room_1 s m #[Value.ref b] below meth c H locs cells slots Q (F0 m t2 ls (.int (if v = 0 then 0 else 1) :: st))) : W p l e room_1 s m #[Value.ref b] below meth c H locs cells slots Q (F0 m pc ls (.int v :: st)) := by
  subst h2
  refine lv_if_eq (tgt := t1) C.1.1.1 C.1.1.2.1 d0 (by omega) (fun h => ?_) (fun h => ?_)
  · rw [if_pos h] at kk
    exact lv_iconst (v := 0) C.1.1.1 C.1.1.2.1 d3 (by decide) kk
  · rw [if_neg h] at kk
    refine lv_iconst (v := 1) C.1.1.1 C.1.1.2.1 d1 (by decide) ?_
    exact lv_goto (tgt := t1 + 1) C.1.1.1 C.1.1.2.1 d2 (by omega) kk
theorem hz_sc (C : hz_C p s m c b L xs G) (w : hz_w G oa s σ f μ H locs) {τ : hy_S} {f2 : Nat → Int64} {k : Int32} {y : MethodName} {bytes : ByteArray} {maxL idx n mc ms : Nat} {ret : Option FieldType} {hh : List (Nat × Nat × Nat × Nat)} {ws : List Cond} {rm : Room} {As st0 : List Value}
    (hM : ∀ sz, Met l y ws rm (va_Pc As (hy_preX (cw G σ ++ hy_ex G oa f) G sz)) (hy_QX (cw G σ ++ hy_ex G oa f) (cw G τ ++ hy_ex G oa f2) G sz k) mc ms (va_A (cw G σ ++ hy_ex G oa f) sz)) (cw9 : vx_CSW room_1 s #[Value.ref b] RL idx y bytes maxL ret hh ws rm mc ms n) (hn : As.length = n) (hsz : ls.size = 7) (hst : st0 = As.reverse ++ rest) (hW : (rest.map fun v => v.category).sum ≤ 8) (d : decode cL_law pc = .ok (.invokestatic idx, 3)) (hcl : cells + mc ≤ room_1.cells ∧ slots + ms ≤ room_1.slots)
    (kk : ∀ (H1 : Heap) (locs1 : List Loc), hz_w G oa s τ f2 μ H1 locs1 → W p l e room_1 s m #[Value.ref b] below meth c H1 locs1 (cells + mc) (slots + ms) Q (F0 m (pc + 3) ls (.int k :: rest))) : W p l e room_1 s m #[Value.ref b] below meth c H locs cells slots Q (F0 m pc ls st0) := by
  have hP0 := hy_Pl w.1
  have hD0 := hy_Dl w.2.1
  have hF : ∀ q, va_A (cw G σ ++ hy_ex G oa f) H.size q → s.heap.size ≤ q := by
    intro q h
    rcases h with ⟨k, e, h⟩ | h
    · exact hD0.2 k (q, e) h
    · exact Nat.le_trans w.2.2.1 h
  refine va_calli (vx_runSW (As := As) (rest := rest) C.1.1 (hM H.size) cw9 ⟨hz_blind, fun U hU hW => ⟨rfl, by rw [hU], by rw [hU]; exact hP0, va_K.moved hW.alike C.1.2.1, hD0.weaken (fun _ _ _ _ => trivial), ⟨C.1.2.2.1.kept C.1.2.2.2 w.2.2 hU hW, fun q h => C.1.2.2.2 q (hF q h)⟩, fun q hq => (C.2.2.2.1 q hq).moved hW.alike⟩⟩ rfl hn hsz hst (lv_room hW) d hcl) w.2.2 (fun q _ h => hF q h) hF (fun r u t H1 locs1 ht hvm hw hB hz1 hk1 hS => ?_)
  obtain rfl := hw
  rw [ht] at hB
  exact kk H1 locs1 (hz_beside hz_map w hB hk1 hS)
theorem hz_as (w : hz_w G oa s σ f μ H locs) : hy_wx (cw G σ ++ (hy_ex G oa f ++ mw G μ)) G (fun q : Nat => s.heap.size ≤ q) s H locs := by
  rw [← List.append_assoc]
  exact w
theorem hz_sa (w : hy_wx (cw G σ ++ (hy_ex G oa f ++ mw G μ)) G (fun q : Nat => s.heap.size ≤ q) s H locs) : hz_w G oa s σ f μ H locs := by
  show hy_wx (cw G σ ++ hy_ex G oa f ++ mw G μ) G (fun q : Nat => s.heap.size ≤ q) s H locs
  rw [List.append_assoc]
  exact w
theorem hz_xc (C : hz_C p s m c b L xs G) (w : hz_w G oa s σ f μ H locs) {y : MethodName} {bytes : ByteArray} {maxL n idx : Nat} {ret : Option FieldType} {ws : List Cond} {rm : Room} {cq : vw_C} {As : List Value} {o : hy_S × Int32} {st0 : List Value}
    (hM : ∀ sz, hy_M l y ws rm cw G σ sz (.ref (G.2.2.2.1 0) :: As) o) (cw9 : CallW room_1 s #[Value.ref b] RL cq.1 idx y bytes maxL ret ws rm 0 0 n) (hc : vwCl[9]? = some cq) (hn : As.length = n) (hsz : ls.size = 7) (hst : st0 = As.reverse ++ .ref (G.2.2.2.1 0) :: rest) (hW : (rest.map fun v => v.category).sum ≤ 8) (d : decode cL_law pc = .ok (.invokevirtual idx, 3)) (hcl : cells ≤ room_1.cells ∧ slots ≤ room_1.slots)
    (kk : ∀ (H1 : Heap) (locs1 : List Loc), hz_w G oa s o.1 f μ H1 locs1 → W p l e room_1 s m #[Value.ref b] below meth c H1 locs1 cells slots Q (F0 m (pc + 3) ls (.int o.2 :: rest))) : W p l e room_1 s m #[Value.ref b] below meth c H locs cells slots Q (F0 m pc ls st0) :=
  hy_fv (ex := hy_ex G oa f ++ mw G μ) cw_fix (fun _ h => h) C.1 (hz_as w) hM cw9 hc (cwq_0 G σ) hn hsz hst hW d hcl (fun H1 locs1 w1 => kk H1 locs1 (hz_sa w1))
theorem hz_mc (C : hz_C p s m c b L xs G) (w : hz_w G oa s σ f μ H locs) {y : MethodName} {bytes : ByteArray} {maxL n idx : Nat} {ret : Option FieldType} {ws : List Cond} {rm : Room} {cq : vw_C} {As : List Value} {o : hy_S × Int32} {st0 : List Value}
    (hM : ∀ sz, hy_M l y ws rm mw G μ sz (.ref (G.2.2.2.2.1 0) :: As) o) (cw9 : CallW room_1 s #[Value.ref b] RL cq.1 idx y bytes maxL ret ws rm 0 0 n) (hc : vwCl[10]? = some cq) (hn : As.length = n) (hsz : ls.size = 7) (hst : st0 = As.reverse ++ .ref (G.2.2.2.2.1 0) :: rest) (hW : (rest.map fun v => v.category).sum ≤ 8) (d : decode cL_law pc = .ok (.invokevirtual idx, 3)) (hcl : cells ≤ room_1.cells ∧ slots ≤ room_1.slots)
    (kk : ∀ (H1 : Heap) (locs1 : List Loc), hz_w G oa s σ f o.1 H1 locs1 → W p l e room_1 s m #[Value.ref b] below meth c H1 locs1 cells slots Q (F0 m (pc + 3) ls (.int o.2 :: rest))) : W p l e room_1 s m #[Value.ref b] below meth c H locs cells slots Q (F0 m pc ls st0) :=
  hy_fv (ex := cw G σ ++ hy_ex G oa f) mw_fix (fun _ h => h) C.1 (hy_swap w) hM cw9 hc (mwq_0 G μ) hn hsz hst hW d hcl (fun H1 locs1 w1 => kk H1 locs1 (hy_swap w1))
theorem hz_mcv (C : hz_C p s m c b L xs G) (w : hz_w G oa s σ f μ H locs) {y : MethodName} {bytes : ByteArray} {maxL n idx : Nat} {ret : Option FieldType} {ws : List Cond} {rm : Room} {cq : vw_C} {As : List Value} {o : hy_S × Int32} {st0 : List Value}
    (hM : ∀ sz, hy_Mv l y ws rm mw G μ sz (.ref (G.2.2.2.2.1 0) :: As) o) (cw9 : CallW room_1 s #[Value.ref b] RL cq.1 idx y bytes maxL ret ws rm 0 0 n) (hc : vwCl[10]? = some cq) (hn : As.length = n) (hsz : ls.size = 7) (hst : st0 = As.reverse ++ .ref (G.2.2.2.2.1 0) :: rest) (hW : (rest.map fun v => v.category).sum ≤ 8) (d : decode cL_law pc = .ok (.invokevirtual idx, 3)) (hcl : cells ≤ room_1.cells ∧ slots ≤ room_1.slots)
    (kk : ∀ (H1 : Heap) (locs1 : List Loc), hz_w G oa s σ f o.1 H1 locs1 → W p l e room_1 s m #[Value.ref b] below meth c H1 locs1 cells slots Q (F0 m (pc + 3) ls rest)) : W p l e room_1 s m #[Value.ref b] below meth c H locs cells slots Q (F0 m pc ls st0) :=
  hy_fvv (ex := cw G σ ++ hy_ex G oa f) mw_fix (fun _ h => h) C.1 (hy_swap w) hM cw9 hc (mwq_0 G μ) hn hsz hst hW d hcl (fun H1 locs1 w1 => kk H1 locs1 (hy_swap w1))
end HZ
theorem hz_cmp {x : Int64} : lg_cmp x x = 0 := by
  unfold lg_cmp
  simp
theorem hz_upd {f : Nat → Int64} {k : Nat} {x : Int64} : vp_updL f k x k = x := by
  unfold vp_updL
  rw [if_pos rfl]
