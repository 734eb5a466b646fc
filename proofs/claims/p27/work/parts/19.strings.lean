noncomputable def hy_len (k : Nat) : Int32 := Int32.ofNat (hy_sl.getD k 0) >>> ((0 : Int32) &&& 31)
noncomputable def hy_chr (k : Nat) (i : Int32) : Int32 := ((((hy_sb.getD k []).getD i.toNatClampNeg 0) &&& 255).toUInt32 % 65536).toInt32
noncomputable def hy_Qr (wf : hy_G → hy_S → va_W) (G : hy_G) (σ : hy_S) (sz : Nat) (o : hy_S × Int32) : Array Value → State → Outcome → State → Prop := va_Qr (fun u => u = o.1) (fun u a t => a = G.2.2.2.2.2.1 (Int32.toNatClampNeg o.2) ∧ va_P G.1 vwCl (wf G u) t.heap) (va_A (wf G σ) sz)
noncomputable abbrev hy_Mr (l : Launch) (y : MethodName) (ws : List Cond) (rm : Room) (wf : hy_G → hy_S → va_W) (G : hy_G) (σ : hy_S) (sz : Nat) (av : List Value) (o : hy_S × Int32) : Prop := Met l y ws rm (va_Pc av (hy_pre wf G σ sz)) (hy_Qr wf G σ sz o) 0 0 (va_A (wf G σ) sz)
section HYS
variable {p : Program} {l : Launch} {e : Env} {R : Room} {s : State} {m : MethodId} {args : Array Value} {below : List Frame} {meth : Method} {c : Code} {H : Heap} {locs : List Loc} {cells slots : Nat} {Q : State → Prop} {cc : ByteArray} {pc : Nat} {ls : Array Slot} {rest : List Value} {G : hy_G} {A : Nat → Prop} {own : String} {nL : Nat} {Ts : List Cond} {wf : hy_G → hy_S → va_W} {σ : hy_S}
theorem hy_S1 (B : hy_B own cc nL Ts G A p s m args c) : vk_S 5 hy_sl hy_sb G.2.2.2.2.2.1 G.2.2.2.2.2.2 A s s.heap := B.2.2.1.2.2.1.narrow B.2.2.2
/-- a call of a method of a String constant -/
theorem hy_cvR (hfix : hy_fix wf) (hA : ∀ q : Nat, s.heap.size ≤ q → A q) (B : hy_B own cc nL Ts G A p s m args c) (w : hy_w wf G A s σ H locs) {y : MethodName} {bytes : ByteArray} {maxL n idx k : Nat} {ret : Option FieldType} {ws : List Cond} {rm : Room} {As : List Value} {o : hy_S × Int32} {st0 : List Value} (hk : k < 5)
    (hM : ∀ sz, hy_M l y ws rm wf G σ sz (.ref (G.2.2.2.2.2.1 k) :: As) o) (cw : CallW R s args own "java/lang/String" idx y bytes maxL ret ws rm 0 0 n) (hn : As.length = n) (hsz : ls.size = nL) (hst : st0 = As.reverse ++ .ref (G.2.2.2.2.2.1 k) :: rest) (hW : (rest.map fun v => v.category).sum ≤ 8) (d : decode cc pc = .ok (.invokevirtual idx, 3)) (hcl : cells ≤ R.cells ∧ slots ≤ R.slots)
    (kk : ∀ (H1 : Heap) (locs1 : List Loc), hy_w wf G A s o.1 H1 locs1 → W p l e R s m args below meth c H1 locs1 cells slots Q (F0 m (pc + 3) ls (.int o.2 :: rest))) : W p l e R s m args below meth c H locs cells slots Q (F0 m pc ls st0) := by
  have hF := hy_freeA hA w
  refine va_calli (va_runV (As := As) (rest := rest) B.1 (hM H.size) cw ⟨hy_blind, vk_recv (hy_S1 B) hk w.2.2, hy_preAt hA B w (.ref (G.2.2.2.2.2.1 k) :: As)⟩ rfl hn hsz hst (lv_room hW) d hcl) w.2.2 (fun q _ h => hF q h) hF (fun r u t H1 locs1 ht hvm hw hB hz1 hk1 hS => ?_)
  obtain ⟨rfl, rfl⟩ := hw
  rw [ht] at hB
  exact kk H1 locs1 ⟨hB, hfix.D w.2.1, hS⟩
/-- a static call that gives a String constant back -/
theorem hy_csr (hfix : hy_fix wf) (hA : ∀ q : Nat, s.heap.size ≤ q → A q) (B : hy_B own cc nL Ts G A p s m args c) (w : hy_w wf G A s σ H locs) {y : MethodName} {bytes : ByteArray} {maxL n idx : Nat} {ret : Option FieldType} {ws : List Cond} {rm : Room} {As : List Value} {o : hy_S × Int32} {st0 : List Value}
    (hM : ∀ sz, hy_Mr l y ws rm wf G σ sz As o) (cw : CallB R s args own idx y bytes maxL ret ws rm 0 0 n ∧ (Cond.static y).before args s = true) (hn : As.length = n) (hsz : ls.size = nL) (hst : st0 = As.reverse ++ rest) (hW : (rest.map fun v => v.category).sum ≤ 8) (d : decode cc pc = .ok (.invokestatic idx, 3)) (hcl : cells ≤ R.cells ∧ slots ≤ R.slots)
    (kk : ∀ (H1 : Heap) (locs1 : List Loc), hy_w wf G A s o.1 H1 locs1 → W p l e R s m args below meth c H1 locs1 cells slots Q (F0 m (pc + 3) ls (.ref (G.2.2.2.2.2.1 (Int32.toNatClampNeg o.2)) :: rest))) : W p l e R s m args below meth c H locs cells slots Q (F0 m pc ls st0) := by
  have hF := hy_freeA hA w
  refine va_callr (va_runS (As := As) (rest := rest) B.1 (hM H.size) cw ⟨hy_blind, hy_preAt hA B w As⟩ rfl hn hsz hst (lv_room hW) d hcl) w.2.2 (fun q _ h => hF q h) hF (fun u ra t H1 locs1 ht hvm hw hB hz1 hk1 hS => ?_)
  obtain rfl := hw
  obtain ⟨rfl, hB⟩ := hB
  rw [ht] at hB
  exact kk H1 locs1 ⟨hB, hfix.D w.2.1, hS⟩
end HYS
set_option maxHeartbeats 4000000 in
set_option maxRecDepth 100000 in
theorem mJ_coder (l : Launch) (wf : hy_G → hy_S → va_W) (hfix : hy_fix wf) (G : hy_G) (sz : Nat) (σ : hy_S) (k : Nat) (hk : k < 5) : hy_M l yJ0_coder_7d493 wsJ0_coder_7d493 ({ frames := 0, cells := 0, slots := 0, locals := 0 }) wf G σ sz [.ref (G.2.2.2.2.2.1 k)] (σ, 0) := by
  refine Met.ofW (cc := cJ0_coder_7d493) (maxL := 1) (ret := (some .byte)) (by decide +kernel) rfl ?_
  intro p e s m args below meth c s₁ B hml hv
  obtain ⟨rfl, hsz, hP, hK, hD0, hN⟩ := hv
  have hx := B.exec
  have hb := B.bytes
  have hr := B.returns
  have hts := atoms_spec (ws := wsJ0_coder_7d493) B.pre
  have hown : s.vm.findClass RJ0 = some m.cls := findClass_of_methodNamed B.named
  have hlocks := B.notSynchronized
  subst hsz
  have hD := hD0.self (sz := s.heap.size)
  have hA : ∀ q : Nat, s.heap.size ≤ q → va_A (wf G σ) s.heap.size q := fun q h => Or.inr h
  have hS : va_S (va_A (wf G σ) s.heap.size) s.heap s.heap [] := va_S.rf
  have hl := lv_entry ([.ref (G.2.2.2.2.2.1 k)]) (n := 1) (Nat.le_of_ble_eq_true rfl)
  rw [lg_entry_eq]
  generalize (lg_sl ([.ref (G.2.2.2.2.2.1 k)]) ++ List.replicate (1 - (lg_sl ([.ref (G.2.2.2.2.2.1 k)])).length) Slot.unset).toArray = ls at hl ⊢
  have hl : lv_has ls 1 [(0, .ref (G.2.2.2.2.2.1 k))] := hl
  have hB : hy_B RJ0 cJ0_coder_7d493 1 wsJ0_coder_7d493 G (va_A (wf G σ) s.heap.size) p s m _ c := ⟨⟨hx, hb, hml, hown, hts⟩, hK, hN⟩
  have w : hy_w wf G (va_A (wf G σ) s.heap.size) s σ s.heap [] := ⟨hP, hD, hS⟩
  refine va_gets hx hb (hB.2.2.1.2.2.2.1.narrow hB.2.2.2) w.2.2 hown (hts (.fieldLink RJ0 38 "java/lang/String" "COMPACT_STRINGS" "Z") (by decide +kernel)) (fun _ h => h) dJ0_coder_7d493_0 ?_
  refine lv_if_eq (tgt := 13) hx hb dJ0_coder_7d493_3 (by decide) (fun c1 => absurd c1 (by decide)) (fun _ => ?_)
  refine lv_aload_n hx hb dJ0_coder_7d493_6 rfl (lv_at hl 0 rfl) ?_
  refine vk_getf hx hb ((hy_S1 hB).1 k hk).2.1 w.2.2 hown (hts (.fieldLink RJ0 15 "java/lang/String" "coder" "B") (by decide +kernel)) (fun _ h => h) dJ0_coder_7d493_7 ?_
  refine lv_goto (tgt := 14) hx hb dJ0_coder_7d493_10 (by decide) ?_
  exact W.zret hx hb hr rfl (fun t ht hW => ⟨⟨_, σ, rfl, ⟨rfl, rfl⟩, by have h9 := w.1; rw [← ht] at h9; exact h9⟩, w.2.2.F ht⟩) w.2.2.2.2 dJ0_coder_7d493_14
set_option maxHeartbeats 4000000 in
set_option maxRecDepth 100000 in
theorem mJ_isLatin1 (l : Launch) (wf : hy_G → hy_S → va_W) (hfix : hy_fix wf) (G : hy_G) (sz : Nat) (σ : hy_S) (k : Nat) (hk : k < 5) : hy_M l yJ0_isLatin1_aae02 wsJ0_isLatin1_aae02 ({ frames := 0, cells := 0, slots := 0, locals := 0 }) wf G σ sz [.ref (G.2.2.2.2.2.1 k)] (σ, 1) := by
  refine Met.ofW (cc := cJ0_isLatin1_aae02) (maxL := 1) (ret := (some .boolean)) (by decide +kernel) rfl ?_
  intro p e s m args below meth c s₁ B hml hv
  obtain ⟨rfl, hsz, hP, hK, hD0, hN⟩ := hv
  have hx := B.exec
  have hb := B.bytes
  have hr := B.returns
  have hts := atoms_spec (ws := wsJ0_isLatin1_aae02) B.pre
  have hown : s.vm.findClass RJ0 = some m.cls := findClass_of_methodNamed B.named
  have hlocks := B.notSynchronized
  subst hsz
  have hD := hD0.self (sz := s.heap.size)
  have hA : ∀ q : Nat, s.heap.size ≤ q → va_A (wf G σ) s.heap.size q := fun q h => Or.inr h
  have hS : va_S (va_A (wf G σ) s.heap.size) s.heap s.heap [] := va_S.rf
  have hl := lv_entry ([.ref (G.2.2.2.2.2.1 k)]) (n := 1) (Nat.le_of_ble_eq_true rfl)
  rw [lg_entry_eq]
  generalize (lg_sl ([.ref (G.2.2.2.2.2.1 k)]) ++ List.replicate (1 - (lg_sl ([.ref (G.2.2.2.2.2.1 k)])).length) Slot.unset).toArray = ls at hl ⊢
  have hl : lv_has ls 1 [(0, .ref (G.2.2.2.2.2.1 k))] := hl
  have hB : hy_B RJ0 cJ0_isLatin1_aae02 1 wsJ0_isLatin1_aae02 G (va_A (wf G σ) s.heap.size) p s m _ c := ⟨⟨hx, hb, hml, hown, hts⟩, hK, hN⟩
  have w : hy_w wf G (va_A (wf G σ) s.heap.size) s σ s.heap [] := ⟨hP, hD, hS⟩
  refine va_gets hx hb (hB.2.2.1.2.2.2.1.narrow hB.2.2.2) w.2.2 hown (hts (.fieldLink RJ0 38 "java/lang/String" "COMPACT_STRINGS" "Z") (by decide +kernel)) (fun _ h => h) dJ0_isLatin1_aae02_0 ?_
  refine lv_if_eq (tgt := 17) hx hb dJ0_isLatin1_aae02_3 (by decide) (fun c1 => absurd c1 (by decide)) (fun _ => ?_)
  refine lv_aload_n hx hb dJ0_isLatin1_aae02_6 rfl (lv_at hl 0 rfl) ?_
  refine vk_getf hx hb ((hy_S1 hB).1 k hk).2.1 w.2.2 hown (hts (.fieldLink RJ0 15 "java/lang/String" "coder" "B") (by decide +kernel)) (fun _ h => h) dJ0_isLatin1_aae02_7 ?_
  refine lv_if_ne (tgt := 17) hx hb dJ0_isLatin1_aae02_10 (by decide) (fun c1 => absurd rfl c1) (fun _ => ?_)
  refine lv_iconst (v := 1) hx hb dJ0_isLatin1_aae02_13 (by decide) ?_
  refine lv_goto (tgt := 18) hx hb dJ0_isLatin1_aae02_14 (by decide) ?_
  exact W.zret hx hb hr rfl (fun t ht hW => ⟨⟨_, σ, rfl, ⟨rfl, rfl⟩, by have h9 := w.1; rw [← ht] at h9; exact h9⟩, w.2.2.F ht⟩) w.2.2.2.2 dJ0_isLatin1_aae02_18
set_option maxHeartbeats 4000000 in
set_option maxRecDepth 100000 in
theorem mJ_length (l : Launch) (wf : hy_G → hy_S → va_W) (hfix : hy_fix wf) (G : hy_G) (sz : Nat) (σ : hy_S) (k : Nat) (hk : k < 5) : hy_M l yJ0_length_8abf5 wsJ0_length_8abf5 ({ frames := 1, cells := 0, slots := 0, locals := 20 }) wf G σ sz [.ref (G.2.2.2.2.2.1 k)] (σ, hy_len k) := by
  refine Met.ofW (cc := cJ0_length_8abf5) (maxL := 1) (ret := (some .int)) (by decide +kernel) rfl ?_
  intro p e s m args below meth c s₁ B hml hv
  obtain ⟨rfl, hsz, hP, hK, hD0, hN⟩ := hv
  have hx := B.exec
  have hb := B.bytes
  have hr := B.returns
  have hts := atoms_spec (ws := wsJ0_length_8abf5) B.pre
  have hown : s.vm.findClass RJ0 = some m.cls := findClass_of_methodNamed B.named
  have hlocks := B.notSynchronized
  subst hsz
  have hD := hD0.self (sz := s.heap.size)
  have hA : ∀ q : Nat, s.heap.size ≤ q → va_A (wf G σ) s.heap.size q := fun q h => Or.inr h
  have hS : va_S (va_A (wf G σ) s.heap.size) s.heap s.heap [] := va_S.rf
  have hl := lv_entry ([.ref (G.2.2.2.2.2.1 k)]) (n := 1) (Nat.le_of_ble_eq_true rfl)
  rw [lg_entry_eq]
  generalize (lg_sl ([.ref (G.2.2.2.2.2.1 k)]) ++ List.replicate (1 - (lg_sl ([.ref (G.2.2.2.2.2.1 k)])).length) Slot.unset).toArray = ls at hl ⊢
  have hl : lv_has ls 1 [(0, .ref (G.2.2.2.2.2.1 k))] := hl
  have hB : hy_B RJ0 cJ0_length_8abf5 1 wsJ0_length_8abf5 G (va_A (wf G σ) s.heap.size) p s m _ c := ⟨⟨hx, hb, hml, hown, hts⟩, hK, hN⟩
  have w : hy_w wf G (va_A (wf G σ) s.heap.size) s σ s.heap [] := ⟨hP, hD, hS⟩
  refine lv_aload_n hx hb dJ0_length_8abf5_0 rfl (lv_at hl 0 rfl) ?_
  refine vk_getf hx hb ((hy_S1 hB).1 k hk).2.2.1 w.2.2 hown (hts (.fieldLink RJ0 9 "java/lang/String" "value" "[B") (by decide +kernel)) (fun _ h => h) dJ0_length_8abf5_1 ?_
  refine va_tlen (v := Int32.ofNat (hy_sl.getD k 0)) hx hb ((hy_S1 hB).1 k hk).2.2.2 w.2.2 rfl dJ0_length_8abf5_4 ?_
  refine lv_aload_n hx hb dJ0_length_8abf5_5 rfl (lv_at hl 0 rfl) ?_
  refine hy_cvR (As := []) (rest := [.int (Int32.ofNat (hy_sl.getD k 0))]) (o := (σ, 0)) hfix hA hB w hk (fun sz => mJ_coder l wf hfix G sz σ k hk) (cwV 0 hts gJ0_length_8abf5_J0_coder_7d493 rfl rfl rfl (by decide +kernel) ⟨Nat.le_of_ble_eq_true rfl, Nat.le_of_ble_eq_true rfl⟩) rfl hl.1 rfl (Nat.le_of_ble_eq_true rfl) dJ0_length_8abf5_6 ⟨Nat.zero_le _, Nat.zero_le _⟩ (fun H locs w => ?_)
  refine lv_ishr hx hb dJ0_length_8abf5_9 ?_
  exact W.iret hx hb hr (fun t ht hW => ⟨⟨_, σ, rfl, ⟨rfl, rfl⟩, by have h9 := w.1; rw [← ht] at h9; exact h9⟩, w.2.2.F ht⟩) w.2.2.2.2 dJ0_length_8abf5_10
set_option maxHeartbeats 4000000 in
set_option maxRecDepth 100000 in
theorem mJ_check3N (l : Launch) (wf : hy_G → hy_S → va_W) (hfix : hy_fix wf) (G : hy_G) (sz : Nat) (σ : hy_S) (i n : Int32) (h0 : ¬ i < 0) (h1 : i < n) : hy_M l yJ3_checkIndex_8e157 wsJ3_checkIndex_8e157 ({ frames := 0, cells := 0, slots := 0, locals := 0 }) wf G σ sz [.int i, .int n, .null] (σ, i) := by
  refine Met.ofW (cc := cJ3_checkIndex_8e157) (maxL := 3) (ret := (some .int)) (by decide +kernel) rfl ?_
  intro p e s m args below meth c s₁ B hml hv
  obtain ⟨rfl, hsz, hP, hK, hD0, hN⟩ := hv
  have hx := B.exec
  have hb := B.bytes
  have hr := B.returns
  have hts := atoms_spec (ws := wsJ3_checkIndex_8e157) B.pre
  have hown : s.vm.findClass RJ3 = some m.cls := findClass_of_methodNamed B.named
  have hlocks := B.notSynchronized
  subst hsz
  have hD := hD0.self (sz := s.heap.size)
  have hA : ∀ q : Nat, s.heap.size ≤ q → va_A (wf G σ) s.heap.size q := fun q h => Or.inr h
  have hS : va_S (va_A (wf G σ) s.heap.size) s.heap s.heap [] := va_S.rf
  have hl := lv_entry ([.int i, .int n, .null]) (n := 3) (Nat.le_of_ble_eq_true rfl)
  rw [lg_entry_eq]
  generalize (lg_sl ([.int i, .int n, .null]) ++ List.replicate (3 - (lg_sl ([.int i, .int n, .null])).length) Slot.unset).toArray = ls at hl ⊢
  have hl : lv_has ls 3 [(0, .int i), (1, .int n), (2, .null)] := hl
  have hB : hy_B RJ3 cJ3_checkIndex_8e157 3 wsJ3_checkIndex_8e157 G (va_A (wf G σ) s.heap.size) p s m _ c := ⟨⟨hx, hb, hml, hown, hts⟩, hK, hN⟩
  have w : hy_w wf G (va_A (wf G σ) s.heap.size) s σ s.heap [] := ⟨hP, hD, hS⟩
  refine lv_iload_n hx hb dJ3_checkIndex_8e157_0 rfl (lv_at hl 0 rfl) ?_
  refine lv_if_lt (tgt := 9) hx hb dJ3_checkIndex_8e157_1 (by decide) (fun c1 => absurd c1 h0) (fun _ => ?_)
  refine lv_iload_n hx hb dJ3_checkIndex_8e157_4 rfl (lv_at hl 0 rfl) ?_
  refine lv_iload_n hx hb dJ3_checkIndex_8e157_5 rfl (lv_at hl 1 rfl) ?_
  refine lv_icmp_lt (tgt := 16) hx hb dJ3_checkIndex_8e157_6 (by decide) (fun _ => ?_) (fun c1 => absurd h1 c1)
  refine lv_iload_n hx hb dJ3_checkIndex_8e157_16 rfl (lv_at hl 0 rfl) ?_
  exact W.iret hx hb hr (fun t ht hW => ⟨⟨_, σ, rfl, ⟨rfl, rfl⟩, by have h9 := w.1; rw [← ht] at h9; exact h9⟩, w.2.2.F ht⟩) w.2.2.2.2 dJ3_checkIndex_8e157_17
set_option maxHeartbeats 4000000 in
set_option maxRecDepth 100000 in
theorem mJ_check3R (l : Launch) (wf : hy_G → hy_S → va_W) (hfix : hy_fix wf) (G : hy_G) (sz : Nat) (σ : hy_S) (t : Nat) (i n : Int32) (h0 : ¬ i < 0) (h1 : i < n) : hy_M l yJ3_checkIndex_8e157 wsJ3_checkIndex_8e157 ({ frames := 0, cells := 0, slots := 0, locals := 0 }) wf G σ sz [.int i, .int n, .ref t] (σ, i) := by
  refine Met.ofW (cc := cJ3_checkIndex_8e157) (maxL := 3) (ret := (some .int)) (by decide +kernel) rfl ?_
  intro p e s m args below meth c s₁ B hml hv
  obtain ⟨rfl, hsz, hP, hK, hD0, hN⟩ := hv
  have hx := B.exec
  have hb := B.bytes
  have hr := B.returns
  have hts := atoms_spec (ws := wsJ3_checkIndex_8e157) B.pre
  have hown : s.vm.findClass RJ3 = some m.cls := findClass_of_methodNamed B.named
  have hlocks := B.notSynchronized
  subst hsz
  have hD := hD0.self (sz := s.heap.size)
  have hA : ∀ q : Nat, s.heap.size ≤ q → va_A (wf G σ) s.heap.size q := fun q h => Or.inr h
  have hS : va_S (va_A (wf G σ) s.heap.size) s.heap s.heap [] := va_S.rf
  have hl := lv_entry ([.int i, .int n, .ref t]) (n := 3) (Nat.le_of_ble_eq_true rfl)
  rw [lg_entry_eq]
  generalize (lg_sl ([.int i, .int n, .ref t]) ++ List.replicate (3 - (lg_sl ([.int i, .int n, .ref t])).length) Slot.unset).toArray = ls at hl ⊢
  have hl : lv_has ls 3 [(0, .int i), (1, .int n), (2, .ref t)] := hl
  have hB : hy_B RJ3 cJ3_checkIndex_8e157 3 wsJ3_checkIndex_8e157 G (va_A (wf G σ) s.heap.size) p s m _ c := ⟨⟨hx, hb, hml, hown, hts⟩, hK, hN⟩
  have w : hy_w wf G (va_A (wf G σ) s.heap.size) s σ s.heap [] := ⟨hP, hD, hS⟩
  refine lv_iload_n hx hb dJ3_checkIndex_8e157_0 rfl (lv_at hl 0 rfl) ?_
  refine lv_if_lt (tgt := 9) hx hb dJ3_checkIndex_8e157_1 (by decide) (fun c1 => absurd c1 h0) (fun _ => ?_)
  refine lv_iload_n hx hb dJ3_checkIndex_8e157_4 rfl (lv_at hl 0 rfl) ?_
  refine lv_iload_n hx hb dJ3_checkIndex_8e157_5 rfl (lv_at hl 1 rfl) ?_
  refine lv_icmp_lt (tgt := 16) hx hb dJ3_checkIndex_8e157_6 (by decide) (fun _ => ?_) (fun c1 => absurd h1 c1)
  refine lv_iload_n hx hb dJ3_checkIndex_8e157_16 rfl (lv_at hl 0 rfl) ?_
  exact W.iret hx hb hr (fun t ht hW => ⟨⟨_, σ, rfl, ⟨rfl, rfl⟩, by have h9 := w.1; rw [← ht] at h9; exact h9⟩, w.2.2.F ht⟩) w.2.2.2.2 dJ3_checkIndex_8e157_17
set_option maxHeartbeats 4000000 in
set_option maxRecDepth 100000 in
theorem mJ_check0 (l : Launch) (wf : hy_G → hy_S → va_W) (hfix : hy_fix wf) (G : hy_G) (sz : Nat) (σ : hy_S) (i n : Int32) (h0 : ¬ i < 0) (h1 : i < n) : hy_Mv l yJ0_checkIndex_df160 wsJ0_checkIndex_df160 ({ frames := 1, cells := 0, slots := 0, locals := 22 }) wf G σ sz [.int i, .int n] (σ, 0) := by
  refine Met.ofW (cc := cJ0_checkIndex_df160) (maxL := 2) (ret := none) (by decide +kernel) rfl ?_
  intro p e s m args below meth c s₁ B hml hv
  obtain ⟨rfl, hsz, hP, hK, hD0, hN⟩ := hv
  have hx := B.exec
  have hb := B.bytes
  have hr := B.returns
  have hts := atoms_spec (ws := wsJ0_checkIndex_df160) B.pre
  have hown : s.vm.findClass RJ0 = some m.cls := findClass_of_methodNamed B.named
  have hlocks := B.notSynchronized
  subst hsz
  have hD := hD0.self (sz := s.heap.size)
  have hA : ∀ q : Nat, s.heap.size ≤ q → va_A (wf G σ) s.heap.size q := fun q h => Or.inr h
  have hS : va_S (va_A (wf G σ) s.heap.size) s.heap s.heap [] := va_S.rf
  have hl := lv_entry ([.int i, .int n]) (n := 2) (Nat.le_of_ble_eq_true rfl)
  rw [lg_entry_eq]
  generalize (lg_sl ([.int i, .int n]) ++ List.replicate (2 - (lg_sl ([.int i, .int n])).length) Slot.unset).toArray = ls at hl ⊢
  have hl : lv_has ls 2 [(0, .int i), (1, .int n)] := hl
  have hB : hy_B RJ0 cJ0_checkIndex_df160 2 wsJ0_checkIndex_df160 G (va_A (wf G σ) s.heap.size) p s m _ c := ⟨⟨hx, hb, hml, hown, hts⟩, hK, hN⟩
  have w : hy_w wf G (va_A (wf G σ) s.heap.size) s σ s.heap [] := ⟨hP, hD, hS⟩
  refine lv_iload_n hx hb dJ0_checkIndex_df160_0 rfl (lv_at hl 0 rfl) ?_
  refine lv_iload_n hx hb dJ0_checkIndex_df160_1 rfl (lv_at hl 1 rfl) ?_
  rcases hB.2.2.1.2.2.2.2.1.narrow hB.2.2.2 with hZ | ⟨t, hZ⟩
  · refine va_gets hx hb hZ w.2.2 hown (hts (.fieldLink RJ0 1053 "jdk/internal/util/Preconditions" "SIOOBE_FORMATTER" "Ljava/util/function/BiFunction;") (by decide +kernel)) (fun _ h => h) dJ0_checkIndex_df160_2 ?_
    refine hy_cs (As := [.int i, .int n, .null]) (rest := []) (o := (σ, i)) hfix hA hB w (fun sz => mJ_check3N l wf hfix G sz σ i n h0 h1) (va_cwS 3 hts gJ0_checkIndex_df160_J3_checkIndex_8e157 rfl rfl rfl (by decide +kernel) ⟨Nat.le_of_ble_eq_true rfl, Nat.le_of_ble_eq_true rfl⟩) rfl hl.1 rfl (Nat.le_of_ble_eq_true rfl) dJ0_checkIndex_df160_5 ⟨Nat.zero_le _, Nat.zero_le _⟩ (fun H locs w => ?_)
    refine lv_pop hx hb dJ0_checkIndex_df160_8 rfl ?_
    exact W.vret hx hb hr (fun t ht hW => ⟨⟨σ, rfl, rfl, by have h9 := w.1; rw [← ht] at h9; exact h9⟩, w.2.2.F ht⟩) w.2.2.2.2 dJ0_checkIndex_df160_9
  · refine va_gets hx hb hZ w.2.2 hown (hts (.fieldLink RJ0 1053 "jdk/internal/util/Preconditions" "SIOOBE_FORMATTER" "Ljava/util/function/BiFunction;") (by decide +kernel)) (fun _ h => h) dJ0_checkIndex_df160_2 ?_
    refine hy_cs (As := [.int i, .int n, .ref t]) (rest := []) (o := (σ, i)) hfix hA hB w (fun sz => mJ_check3R l wf hfix G sz σ t i n h0 h1) (va_cwS 3 hts gJ0_checkIndex_df160_J3_checkIndex_8e157 rfl rfl rfl (by decide +kernel) ⟨Nat.le_of_ble_eq_true rfl, Nat.le_of_ble_eq_true rfl⟩) rfl hl.1 rfl (Nat.le_of_ble_eq_true rfl) dJ0_checkIndex_df160_5 ⟨Nat.zero_le _, Nat.zero_le _⟩ (fun H locs w => ?_)
    refine lv_pop hx hb dJ0_checkIndex_df160_8 rfl ?_
    exact W.vret hx hb hr (fun t ht hW => ⟨⟨σ, rfl, rfl, by have h9 := w.1; rw [← ht] at h9; exact h9⟩, w.2.2.F ht⟩) w.2.2.2.2 dJ0_checkIndex_df160_9
theorem hy_ixlt {i : Int32} {k : Nat} (hk : k < 5) (h : vp_in i (hy_sl.getD k 0)) : ¬ i < 0 ∧ i < Int32.ofNat (hy_sl.getD k 0) := by
  have hb : hy_sl.getD k 0 < 2 ^ 31 := by
    rcases (show k = 0 ∨ k = 1 ∨ k = 2 ∨ k = 3 ∨ k = 4 by omega) with rfl | rfl | rfl | rfl | rfl <;> decide
  obtain ⟨j, hj, rfl⟩ := vp_in_of h hb
  exact ⟨nI_pos (by omega), nI_lt hj hb⟩
theorem hy_chnar (k : Nat) (i : Int32) : narrow .char (.int (hy_chr k i)) = .int (hy_chr k i) := pk_nc _
set_option maxHeartbeats 4000000 in
set_option maxRecDepth 100000 in
theorem mJ_char1 (l : Launch) (wf : hy_G → hy_S → va_W) (hfix : hy_fix wf) (G : hy_G) (sz : Nat) (σ : hy_S) (k : Nat) (hk : k < 5) (i : Int32) (hi : vp_in i (hy_sl.getD k 0)) : hy_M l yJ1_charAt_3b067 wsJ1_charAt_3b067 ({ frames := 2, cells := 0, slots := 0, locals := 43 }) wf G σ sz [.ref (G.2.2.2.2.2.2 k), .int i] (σ, hy_chr k i) := by
  refine Met.ofW (cc := cJ1_charAt_3b067) (maxL := 2) (ret := (some .char)) (by decide +kernel) rfl ?_
  intro p e s m args below meth c s₁ B hml hv
  obtain ⟨rfl, hsz, hP, hK, hD0, hN⟩ := hv
  have hx := B.exec
  have hb := B.bytes
  have hr := B.returns
  have hts := atoms_spec (ws := wsJ1_charAt_3b067) B.pre
  have hown : s.vm.findClass RJ1 = some m.cls := findClass_of_methodNamed B.named
  have hlocks := B.notSynchronized
  subst hsz
  have hD := hD0.self (sz := s.heap.size)
  have hA : ∀ q : Nat, s.heap.size ≤ q → va_A (wf G σ) s.heap.size q := fun q h => Or.inr h
  have hS : va_S (va_A (wf G σ) s.heap.size) s.heap s.heap [] := va_S.rf
  have hl := lv_entry ([.ref (G.2.2.2.2.2.2 k), .int i]) (n := 2) (Nat.le_of_ble_eq_true rfl)
  rw [lg_entry_eq]
  generalize (lg_sl ([.ref (G.2.2.2.2.2.2 k), .int i]) ++ List.replicate (2 - (lg_sl ([.ref (G.2.2.2.2.2.2 k), .int i])).length) Slot.unset).toArray = ls at hl ⊢
  have hl : lv_has ls 2 [(0, .ref (G.2.2.2.2.2.2 k)), (1, .int i)] := hl
  have hB : hy_B RJ1 cJ1_charAt_3b067 2 wsJ1_charAt_3b067 G (va_A (wf G σ) s.heap.size) p s m _ c := ⟨⟨hx, hb, hml, hown, hts⟩, hK, hN⟩
  have w : hy_w wf G (va_A (wf G σ) s.heap.size) s σ s.heap [] := ⟨hP, hD, hS⟩
  obtain ⟨h0, h1⟩ := hy_ixlt hk hi
  refine lv_iload_n hx hb dJ1_charAt_3b067_0 rfl (lv_at hl 1 rfl) ?_
  refine lv_aload_n hx hb dJ1_charAt_3b067_1 rfl (lv_at hl 0 rfl) ?_
  refine va_tlen (v := Int32.ofNat (hy_sl.getD k 0)) hx hb ((hy_S1 hB).1 k hk).2.2.2 w.2.2 rfl dJ1_charAt_3b067_2 ?_
  refine hy_csv (As := [.int i, .int (Int32.ofNat (hy_sl.getD k 0))]) (rest := []) (o := (σ, 0)) hfix hA hB w (fun sz => mJ_check0 l wf hfix G sz σ i _ h0 h1) (va_cwS 2 hts gJ1_charAt_3b067_J0_checkIndex_df160 rfl rfl rfl (by decide +kernel) ⟨Nat.le_of_ble_eq_true rfl, Nat.le_of_ble_eq_true rfl⟩) rfl hl.1 rfl (Nat.le_of_ble_eq_true rfl) dJ1_charAt_3b067_3 ⟨Nat.zero_le _, Nat.zero_le _⟩ (fun H locs w => ?_)
  refine lv_aload_n hx hb dJ1_charAt_3b067_6 rfl (lv_at hl 0 rfl) ?_
  refine lv_iload_n hx hb dJ1_charAt_3b067_7 rfl (lv_at hl 1 rfl) ?_
  refine va_tb (v := .int ((hy_sb.getD k []).getD i.toNatClampNeg 0)) hx hb ((hy_S1 hB).1 k hk).2.2.2 w.2.2 hi rfl dJ1_charAt_3b067_8 ?_
  refine lv_sipush (v := 255) hx hb dJ1_charAt_3b067_9 (by decide) ?_
  refine lv_iand hx hb dJ1_charAt_3b067_12 ?_
  refine lv_i2c (v := hy_chr k i) hx hb dJ1_charAt_3b067_13 rfl ?_
  exact W.zret hx hb hr (hy_chnar k i) (fun t ht hW => ⟨⟨_, σ, rfl, ⟨rfl, rfl⟩, by have h9 := w.1; rw [← ht] at h9; exact h9⟩, w.2.2.F ht⟩) w.2.2.2.2 dJ1_charAt_3b067_14
set_option maxHeartbeats 4000000 in
set_option maxRecDepth 100000 in
theorem mJ_charAt (l : Launch) (wf : hy_G → hy_S → va_W) (hfix : hy_fix wf) (G : hy_G) (sz : Nat) (σ : hy_S) (k : Nat) (hk : k < 5) (i : Int32) (hi : vp_in i (hy_sl.getD k 0)) : hy_M l yJ0_charAt_5068e wsJ0_charAt_5068e ({ frames := 3, cells := 0, slots := 0, locals := 64 }) wf G σ sz [.ref (G.2.2.2.2.2.1 k), .int i] (σ, hy_chr k i) := by
  refine Met.ofW (cc := cJ0_charAt_5068e) (maxL := 2) (ret := (some .char)) (by decide +kernel) rfl ?_
  intro p e s m args below meth c s₁ B hml hv
  obtain ⟨rfl, hsz, hP, hK, hD0, hN⟩ := hv
  have hx := B.exec
  have hb := B.bytes
  have hr := B.returns
  have hts := atoms_spec (ws := wsJ0_charAt_5068e) B.pre
  have hown : s.vm.findClass RJ0 = some m.cls := findClass_of_methodNamed B.named
  have hlocks := B.notSynchronized
  subst hsz
  have hD := hD0.self (sz := s.heap.size)
  have hA : ∀ q : Nat, s.heap.size ≤ q → va_A (wf G σ) s.heap.size q := fun q h => Or.inr h
  have hS : va_S (va_A (wf G σ) s.heap.size) s.heap s.heap [] := va_S.rf
  have hl := lv_entry ([.ref (G.2.2.2.2.2.1 k), .int i]) (n := 2) (Nat.le_of_ble_eq_true rfl)
  rw [lg_entry_eq]
  generalize (lg_sl ([.ref (G.2.2.2.2.2.1 k), .int i]) ++ List.replicate (2 - (lg_sl ([.ref (G.2.2.2.2.2.1 k), .int i])).length) Slot.unset).toArray = ls at hl ⊢
  have hl : lv_has ls 2 [(0, .ref (G.2.2.2.2.2.1 k)), (1, .int i)] := hl
  have hB : hy_B RJ0 cJ0_charAt_5068e 2 wsJ0_charAt_5068e G (va_A (wf G σ) s.heap.size) p s m _ c := ⟨⟨hx, hb, hml, hown, hts⟩, hK, hN⟩
  have w : hy_w wf G (va_A (wf G σ) s.heap.size) s σ s.heap [] := ⟨hP, hD, hS⟩
  refine lv_aload_n hx hb dJ0_charAt_5068e_0 rfl (lv_at hl 0 rfl) ?_
  refine hy_cvR (As := []) (rest := []) (o := (σ, 1)) hfix hA hB w hk (fun sz => mJ_isLatin1 l wf hfix G sz σ k hk) (cwV 0 hts gJ0_charAt_5068e_J0_isLatin1_aae02 rfl rfl rfl (by decide +kernel) ⟨Nat.le_of_ble_eq_true rfl, Nat.le_of_ble_eq_true rfl⟩) rfl hl.1 rfl (Nat.le_of_ble_eq_true rfl) dJ0_charAt_5068e_1 ⟨Nat.zero_le _, Nat.zero_le _⟩ (fun H locs w => ?_)
  refine lv_if_eq (tgt := 16) hx hb dJ0_charAt_5068e_4 (by decide) (fun c1 => absurd c1 (by show ¬ (1 : Int32) = 0; decide)) (fun _ => ?_)
  refine lv_aload_n hx hb dJ0_charAt_5068e_7 rfl (lv_at hl 0 rfl) ?_
  refine vk_getf hx hb ((hy_S1 hB).1 k hk).2.2.1 w.2.2 hown (hts (.fieldLink RJ0 9 "java/lang/String" "value" "[B") (by decide +kernel)) (fun _ h => h) dJ0_charAt_5068e_8 ?_
  refine lv_iload_n hx hb dJ0_charAt_5068e_11 rfl (lv_at hl 1 rfl) ?_
  refine hy_cs (As := [.ref (G.2.2.2.2.2.2 k), .int i]) (rest := []) (o := (σ, hy_chr k i)) hfix hA hB w (fun sz => mJ_char1 l wf hfix G sz σ k hk i hi) (va_cwS 2 hts gJ0_charAt_5068e_J1_charAt_3b067 rfl rfl rfl (by decide +kernel) ⟨Nat.le_of_ble_eq_true rfl, Nat.le_of_ble_eq_true rfl⟩) rfl hl.1 rfl (Nat.le_of_ble_eq_true rfl) dJ0_charAt_5068e_12 ⟨Nat.zero_le _, Nat.zero_le _⟩ (fun H locs w => ?_)
  exact W.zret hx hb hr (hy_chnar k i) (fun t ht hW => ⟨⟨_, σ, rfl, ⟨rfl, rfl⟩, by have h9 := w.1; rw [← ht] at h9; exact h9⟩, w.2.2.F ht⟩) w.2.2.2.2 dJ0_charAt_5068e_15
