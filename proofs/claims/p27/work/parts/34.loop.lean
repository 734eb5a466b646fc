theorem hz_and (x : Int32) : ∃ k : Nat, k < 32 ∧ x &&& 31 = nI k := by
  refine ⟨x.toBitVec.toNat % 32, Nat.mod_lt _ (by decide), ?_⟩
  apply Int32.toBitVec_inj.mp
  rw [Int32.toBitVec_and]
  apply BitVec.eq_of_toNat_eq
  rw [BitVec.toNat_and]
  show x.toBitVec.toNat &&& (2 ^ 5 - 1) = (BitVec.ofNat 32 (x.toBitVec.toNat % 32)).toNat
  rw [BitVec.toNat_ofNat, Nat.and_two_pow_sub_one_eq_mod _ 5]
  omega
theorem hz_more {L i : Nat} (hL : L ≤ 3072) (hi : i ≤ 3072) (h : ¬ Int32.ofNat L - 6 < nI i) : i + 6 ≤ L := by
  have e : (Int32.ofNat L - 6).toInt = (L : Int) - 6 := by
    rw [Int32.toInt_sub, show (Int32.ofNat L).toInt = (L : Int) from nI_toInt (n := L) (by omega)]
    show ((L : Int) - 6).bmod 4294967296 = _
    exact Int.bmod_eq_of_le (by omega) (by omega)
  have h2 : ¬ (Int32.ofNat L - 6).toInt < (nI i).toInt := fun z => h (Int32.lt_iff_toInt_lt.mpr z)
  rw [e, nI_toInt (by omega)] at h2
  omega
noncomputable def hz_I_feed (I : Nat → hy_S → hy_S → Prop) : Prop := ∀ (n : Nat) (σ μ : hy_S) (x1 x2 x3 x4 x5 : Int32), n < 512 → I n σ μ → ∃ (o o2 : hy_S × Int32), fX9_feed σ x1 x2 x3 x4 x5 = some o ∧ fX10_feed μ x1 x2 x3 x4 x5 = some o2 ∧ I (n + 1) o.1 o2.1
noncomputable def hz_I_end (I : Nat → hy_S → hy_S → Prop) : Prop := ∀ (n : Nat) (σ μ : hy_S) (x1 : Int32), n < 512 → I n σ μ → ∃ (o o2 : hy_S × Int32), fX9_end σ x1 = some o ∧ fX10_end μ x1 = some o2 ∧ I (n + 1) o.1 o2.1
noncomputable def hz_I_kind (I : Nat → hy_S → hy_S → Prop) : Prop := ∀ (n : Nat) (σ μ : hy_S) (x1 x2 x3 : Int32), n < 512 → I n σ μ → ∃ (o : hy_O) (o2 : hy_S × Int32), fX9_kind σ x1 x2 x3 = some o ∧ fX10_kind μ x1 x2 x3 = some o2 ∧ (o.2.2 = 0 ∨ o.2.2 = 2 ∨ o.2.2 = 3) ∧ I (n + 1) o.1 o2.1
noncomputable def hz_I_fire (I : Nat → hy_S → hy_S → Prop) : Prop := ∀ (n : Nat) (σ μ : hy_S) (x1 x2 x3 : Int32), n < 512 → I n σ μ → ∃ (o : hy_O) (o2 : hy_S × Int32), fX9_fire σ x1 x2 x3 = some o ∧ fX10_fire μ x1 x2 x3 = some o2 ∧ (o.2.2 = 0 ∨ o.2.2 = 1 ∨ o.2.2 = 2 ∨ o.2.2 = 3) ∧ I (n + 1) o.1 o2.1
noncomputable def hz_I_fill (I : Nat → hy_S → hy_S → Prop) : Prop := ∀ (n : Nat) (σ μ : hy_S) (x1 x2 : Int32), n < 512 → I n σ μ → ∃ (o : hy_O) (o2 : hy_S × Int32), fX9_fill σ x1 x2 = some o ∧ fX10_fill μ x1 x2 = some o2 ∧ (o.2.2 = 0 ∨ o.2.2 = 1 ∨ o.2.2 = 2) ∧ I (n + 1) o.1 o2.1
noncomputable def hz_I_ship (I : Nat → hy_S → hy_S → Prop) : Prop := ∀ (n : Nat) (σ μ : hy_S), n < 512 → I n σ μ → ∃ (o : hy_O) (o2 : hy_S × Int32), fX9_ship σ = some o ∧ fX10_ship μ = some o2 ∧ (o.2.2 = 0 ∨ o.2.2 = 3) ∧ I (n + 1) o.1 o2.1
noncomputable def hz_I_load (I : Nat → hy_S → hy_S → Prop) : Prop := ∀ (n : Nat) (σ μ : hy_S) (x1 x2 x3 : Int32), n < 512 → I n σ μ → ∃ (o : hy_O) (o2 : hy_S × Int32), fX9_load σ x1 x2 x3 = some o ∧ fX10_load μ x1 x2 x3 = some o2 ∧ (o.2.2 = 0 ∨ o.2.2 = 1) ∧ I (n + 1) o.1 o2.1
noncomputable def hz_I_land (I : Nat → hy_S → hy_S → Prop) : Prop := ∀ (n : Nat) (σ μ : hy_S) (x1 x2 : Int32), n < 512 → I n σ μ → ∃ (o : hy_O) (o2 : hy_S × Int32), fX9_land σ x1 x2 = some o ∧ fX10_land μ x1 x2 = some o2 ∧ (o.2.2 = 0 ∨ o.2.2 = 1) ∧ I (n + 1) o.1 o2.1
noncomputable def hz_I_storm (I : Nat → hy_S → hy_S → Prop) : Prop := ∀ (n : Nat) (σ μ : hy_S) (x1 x2 : Int32), n < 512 → I n σ μ → ∃ (o : hy_O) (o2 : hy_S × Int32), fX9_storm σ x1 x2 = some o ∧ fX10_storm μ x1 x2 = some o2 ∧ (o.2.2 = 0 ∨ o.2.2 = 1 ∨ o.2.2 = 2) ∧ I (n + 1) o.1 o2.1
noncomputable def hz_I_look (I : Nat → hy_S → hy_S → Prop) : Prop := ∀ (n : Nat) (σ μ : hy_S) (x1 x2 : Int32), n < 512 → I n σ μ → ∃ (o : hy_O) (o2 : hy_S × Int32), fX9_look σ x1 x2 = some o ∧ fX10_look μ x1 x2 = some o2 ∧ (o.2.2 = 0 ∨ o.2.2 = 1 ∨ o.2.2 = 4) ∧ I (n + 1) o.1 o2.1
noncomputable def hz_I_stack (I : Nat → hy_S → hy_S → Prop) : Prop := ∀ (n : Nat) (σ μ : hy_S) (x1 x2 x3 : Int32), n < 512 → I n σ μ → ∃ (o : hy_O) (o2 : hy_S × Int32), fX9_stack σ x1 x2 x3 = some o ∧ fX10_stack μ x1 x2 x3 = some o2 ∧ (o.2.2 = 0 ∨ o.2.2 = 1) ∧ I (n + 1) o.1 o2.1
noncomputable def hz_I_tallest (I : Nat → hy_S → hy_S → Prop) : Prop := ∀ (n : Nat) (σ μ : hy_S) (x1 : Int32), n < 512 → I n σ μ → ∃ (o : hy_O) (o2 : hy_S × Int32), fX9_tallest σ x1 = some o ∧ fX10_tallest μ x1 = some o2 ∧ (o.2.2 = 0 ∨ o.2.2 = 2) ∧ I (n + 1) o.1 o2.1
noncomputable def hz_I_rate (I : Nat → hy_S → hy_S → Prop) : Prop := ∀ (n : Nat) (σ μ : hy_S) (x1 x2 : Int32), n < 512 → I n σ μ → ∃ (o : hy_O) (o2 : hy_S × Int32), fX9_rate σ x1 x2 = some o ∧ fX10_rate μ x1 x2 = some o2 ∧ (o.2.2 = 0 ∨ o.2.2 = 1 ∨ o.2.2 = 2) ∧ I (n + 1) o.1 o2.1
noncomputable def hz_I_check (I : Nat → hy_S → hy_S → Prop) : Prop := ∀ (n : Nat) (σ μ : hy_S) (x1 : Int32), n < 512 → I n σ μ → ∃ (o : hy_O) (o2 : hy_S × Int32), fX9_check σ x1 = some o ∧ fX10_check μ x1 = some o2 ∧ (o.2.2 = 0 ∨ o.2.2 = 1 ∨ o.2.2 = 2) ∧ I (n + 1) o.1 o2.1
noncomputable def hz_I_fault (I : Nat → hy_S → hy_S → Prop) : Prop := ∀ (n : Nat) (σ μ : hy_S), n < 512 → I n σ μ → ∃ (o o2 : hy_S × Int32), fX9_fault σ = some o ∧ fX10_fault μ = some o2 ∧ I (n + 1) o.1 o2.1
noncomputable def hz_I_notes (I : Nat → hy_S → hy_S → Prop) : Prop := ∀ (n : Nat) (σ μ : hy_S) (x1 x2 : Int32), n < 512 → I n σ μ → ∃ (o : hy_O) (o2 : hy_S × Int32), fX9_notes σ x1 (if x2 = 0 then 0 else 1) = some o ∧ fX10_notes μ x1 (if x2 = 0 then 0 else 1) = some o2 ∧ (o.2.2 = 0 ∨ o.2.2 = 1) ∧ I (n + 1) o.1 o2.1
noncomputable def hz_I_sherd (I : Nat → hy_S → hy_S → Prop) : Prop := ∀ (n : Nat) (σ μ : hy_S) (x1 x2 : Int32), n < 512 → I n σ μ → ∃ (o : hy_O) (o2 : hy_S × Int32), fX9_sherd σ x1 x2 = some o ∧ fX10_sherd μ x1 x2 = some o2 ∧ (o.2.2 = 0 ∨ o.2.2 = 1 ∨ o.2.2 = 2 ∨ o.2.2 = 3) ∧ I (n + 1) o.1 o2.1
noncomputable def hz_I_join (I : Nat → hy_S → hy_S → Prop) : Prop := ∀ (n : Nat) (σ μ : hy_S) (x1 x2 : Int32), n < 512 → I n σ μ → ∃ (o : hy_O) (o2 : hy_S × Int32), fX9_join σ x1 x2 = some o ∧ fX10_join μ x1 x2 = some o2 ∧ (o.2.2 = 0 ∨ o.2.2 = 1) ∧ I (n + 1) o.1 o2.1
noncomputable def hz_I_vessels (I : Nat → hy_S → hy_S → Prop) : Prop := ∀ (n : Nat) (σ μ : hy_S) (x1 : Int32), n < 512 → I n σ μ → ∃ (o : hy_O) (o2 : hy_S × Int32), fX9_vessels σ x1 = some o ∧ fX10_vessels μ x1 = some o2 ∧ (o.2.2 = 0 ∨ o.2.2 = 1) ∧ I (n + 1) o.1 o2.1
noncomputable def hz_I_vessel (I : Nat → hy_S → hy_S → Prop) : Prop := ∀ (n : Nat) (σ μ : hy_S) (x1 x2 : Int32), n < 512 → I n σ μ → ∃ (o : hy_O) (o2 : hy_S × Int32), fX9_vessel σ x1 x2 = some o ∧ fX10_vessel μ x1 x2 = some o2 ∧ (o.2.2 = 0 ∨ o.2.2 = 1 ∨ o.2.2 = 4) ∧ I (n + 1) o.1 o2.1
noncomputable def hz_I_tell (I : Nat → hy_S → hy_S → Prop) : Prop := ∀ (n : Nat) (σ μ : hy_S) (x1 x2 x3 : Int32), n < 512 → I n σ μ → ∃ (o : hy_O) (o2 : hy_S × Int32), fX9_tell σ x1 x2 x3 = some o ∧ fX10_tell μ x1 x2 x3 = some o2 ∧ (o.2.2 = 0 ∨ o.2.2 = 1 ∨ o.2.2 = 2 ∨ o.2.2 = 3) ∧ I (n + 1) o.1 o2.1
noncomputable def hz_I_bound (I : Nat → hy_S → hy_S → Prop) : Prop := ∀ (n : Nat) (σ μ : hy_S) (x1 x2 x3 : Int32), n < 512 → I n σ μ → ∃ (o : hy_O) (o2 : hy_S × Int32), fX9_bound σ x1 x2 (if x3 = 0 then 0 else 1) = some o ∧ fX10_bound μ x1 x2 (if x3 = 0 then 0 else 1) = some o2 ∧ (o.2.2 = 0 ∨ o.2.2 = 1 ∨ o.2.2 = 2 ∨ o.2.2 = 3) ∧ I (n + 1) o.1 o2.1
noncomputable def hz_I_undo (I : Nat → hy_S → hy_S → Prop) : Prop := ∀ (n : Nat) (σ μ : hy_S) (x1 : Int32), n < 512 → I n σ μ → ∃ (o : hy_O) (o2 : hy_S × Int32), fX9_undo σ x1 = some o ∧ fX10_undo μ x1 = some o2 ∧ (o.2.2 = 0 ∨ o.2.2 = 1) ∧ I (n + 1) o.1 o2.1
noncomputable def hz_I_days (I : Nat → hy_S → hy_S → Prop) : Prop := ∀ (n : Nat) (σ μ : hy_S) (x1 : Int32), n < 512 → I n σ μ → ∃ (o : hy_O) (o2 : hy_S × Int32), fX9_days σ x1 = some o ∧ fX10_days μ x1 = some o2 ∧ (o.2.2 = 0 ∨ o.2.2 = 2) ∧ I (n + 1) o.1 o2.1
noncomputable def hz_I_agree (I : Nat → hy_S → hy_S → Prop) : Prop := ∀ (n : Nat) (σ μ : hy_S) (x1 : Int32), n < 512 → I n σ μ → ∃ (o o2 : hy_S × Int32), fX9_agree σ x1 = some o ∧ fX10_agree μ x1 = some o2 ∧ I (n + 1) o.1 o2.1
noncomputable def hz_I_span (I : Nat → hy_S → hy_S → Prop) : Prop := ∀ (n : Nat) (σ μ : hy_S) (x1 x2 x3 : Int32), n < 512 → I n σ μ → ∃ (o : hy_O) (o2 o3 : hy_S × Int32), fX9_span σ x1 (if x2 = 0 then 0 else 1) x3 = some o ∧ fX10_span μ x1 (if x2 = 0 then 0 else 1) x3 = some o2 ∧ fX10_thrown o2.1 = some o3 ∧ ((o.2.2 = 0 ∧ o3.2 = 0) ∨ (o.2.2 = 1 ∧ o3.2 = 1) ∨ (o.2.2 = 4 ∧ o3.2 = 2)) ∧ (o.2.2 = 0 → o2.2 = o.2.1) ∧ I (n + 1) o.1 o3.1
noncomputable def hz_I_quarrel (I : Nat → hy_S → hy_S → Prop) : Prop := ∀ (n : Nat) (σ μ : hy_S) (x1 : Int32), n < 512 → I n σ μ → ∃ (o o2 : hy_S × Int32), fX9_quarrel σ x1 = some o ∧ fX10_quarrel μ x1 = some o2 ∧ I (n + 1) o.1 o2.1
noncomputable def hz_I_count (I : Nat → hy_S → hy_S → Prop) : Prop := ∀ (n : Nat) (σ μ : hy_S) (x1 : Int32), n < 512 → I n σ μ → ∃ (o o2 : hy_S × Int32), fX9_count σ x1 = some o ∧ fX10_count μ x1 = some o2 ∧ I (n + 1) o.1 o2.1
set_option maxHeartbeats 2000000 in
theorem hz_loop {p : Program} {l : Launch} {e : Env} {s : State} {m : MethodId} {below : List Frame} {meth : Method} {c : Code} {G : hy_G} {b L oa c0 s0 : Nat} {xs : Nat → Int32} (C : hz_C p s m c b L xs G) (hlt : l.stackTraces = false) (hr : meth.sig.returnType = ret) (hlocks : meth.locks = false) (hc0 : c0 + 512 ≤ 1106) (hs0 : s0 + 3072 ≤ 16273) {I : Nat → hy_S → hy_S → Prop} (h0 : hz_I_feed I) (h1 : hz_I_end I) (h2 : hz_I_kind I) (h3 : hz_I_fire I) (h4 : hz_I_fill I) (h5 : hz_I_ship I) (h6 : hz_I_load I) (h7 : hz_I_land I) (h8 : hz_I_storm I) (h9 : hz_I_look I) (h10 : hz_I_stack I) (h11 : hz_I_tallest I) (h12 : hz_I_rate I) (h13 : hz_I_check I) (h14 : hz_I_fault I) (h15 : hz_I_notes I) (h16 : hz_I_sherd I) (h17 : hz_I_join I) (h18 : hz_I_vessels I) (h19 : hz_I_vessel I) (h20 : hz_I_tell I) (h21 : hz_I_bound I) (h22 : hz_I_undo I) (h23 : hz_I_days I) (h24 : hz_I_agree I) (h25 : hz_I_span I) (h26 : hz_I_quarrel I) (h27 : hz_I_count I) (hd : ∀ (n : Nat) (σ μ : hy_S), n < 512 → I n σ μ → I (n + 1) σ μ) :
    ∀ (r n : Nat), L + 6 ≤ 6 * n + 6 * r → 6 * n ≤ L → ∀ (σ μ : hy_S) (f : Nat → Int64) (H : Heap) (locs : List Loc) (ls : Array Slot), I n σ μ → hz_w G oa s σ f μ H locs → lv_has ls 7 (hz_lv b G oa (6 * n)) → W p l e room_1 s m #[Value.ref b] below meth c H locs (c0 + n) (s0 + 6 * n) (lw_Z below #[Value.ref b] s) (F0 m 23 ls []) := by
  have hL := C.2.2.2.2
  intro r
  induction r with
  | zero =>
    intro n g1 g2
    exact absurd g1 (by omega)
  | succ r ih =>
    intro n g1 g2 σ μ f H locs ls hI w hl
    refine lv_iload C.1.1.1 C.1.1.2.1 dL_law_23 (lv_at hl 4 rfl) ?_
    refine lv_aload_n C.1.1.1 C.1.1.2.1 dL_law_25 rfl (lv_at hl 0 rfl) ?_
    refine va_slen C.1.1.1 C.1.1.2.1 C.2.1 C.2.2.1 (Nat.not_le.mpr C.2.2.1) w.2.2 dL_law_26 ?_
    refine lv_bipush (v := 6) C.1.1.1 C.1.1.2.1 dL_law_27 (by decide) ?_
    refine lv_isub C.1.1.1 C.1.1.2.1 dL_law_29 ?_
    refine lv_icmp_gt (tgt := 1313) C.1.1.1 C.1.1.2.1 dL_law_30 (by decide) (fun hc => ?_) (fun hc => ?_)
    · refine lv_iconst (v := 1) C.1.1.1 C.1.1.2.1 dL_law_1313 (by decide) ?_
      refine va_forget (fun q hq => w.2.2.2.2 q hq) ?_
      refine W.widen (k := 1106) (n := 16273) (by omega) (by omega) ?_
      exact lw_ret C.1.1.1 C.1.1.2.1 hr hlocks dL_law_1314
    · have hi : 6 * n + 6 ≤ L := hz_more hL (by omega) hc
      have hn : n < 512 := by omega
      have hcl : c0 + n + 1 ≤ 1106 ∧ s0 + 6 * n + 6 ≤ 16273 := ⟨by omega, by omega⟩
      have next : ∀ (σ μ : hy_S) (f : Nat → Int64) (H : Heap) (locs : List Loc) (ls : Array Slot), I (n + 1) σ μ → hz_w G oa s σ f μ H locs → lv_has ls 7 (hz_lv b G oa (6 * n)) → W p l e room_1 s m #[Value.ref b] below meth c H locs (c0 + n + 1) (s0 + 6 * n + 6) (lw_Z below #[Value.ref b] s) (F0 m 1307 ls []) := by
        intro σ μ f H locs ls hI w hl
        refine lv_iinc (v := nI (6 * (n + 1))) (lv' := [(4, .int (nI (6 * (n + 1)))), (0, .ref b), (1, .ref (G.2.2.2.1 0)), (2, .ref (G.2.2.2.2.1 0)), (3, .ref oa)]) C.1.1.1 C.1.1.2.1 dL_law_1307 hl (k := 4) rfl (nI_add (6 * n) 6) (by decide) rfl (fun ls hl => ?_)
        refine lv_goto (tgt := 23) C.1.1.1 C.1.1.2.1 dL_law_1310 (by decide) ?_
        exact ih (n + 1) (by omega) (by omega) σ μ f H locs ls hI w (lv_sub hl [1, 2, 3, 4, 0] rfl)
      refine lv_aload_n C.1.1.1 C.1.1.2.1 dL_law_33 rfl (lv_at hl 0 rfl) ?_
      refine lv_iload C.1.1.1 C.1.1.2.1 dL_law_34 (lv_at hl 4 rfl) ?_
      refine va_sld C.1.1.1 C.1.1.2.1 C.2.1 C.2.2.1 (Nat.not_le.mpr C.2.2.1) w.2.2 (vp_in_nI (by omega) (by omega)) dL_law_36 ?_
      refine lv_bipush (v := 31) C.1.1.1 C.1.1.2.1 dL_law_37 (by decide) ?_
      refine lv_iand C.1.1.1 C.1.1.2.1 dL_law_39 ?_
      obtain ⟨k, hk, ek⟩ := hz_and (xs (nI (6 * n)).toNatClampNeg)
      rw [ek]
      clear ek
      by_cases hk2 : k < 28
      · match k, hk2 with
        | 0, _ =>
          refine lv_tableIn (tgt := 168) C.1.1.1 C.1.1.2.1 dL_law_40 (by decide) (by decide) (by rfl) (by decide) ?_
          obtain ⟨o, o2, hf, hg, hI⟩ := h0 n σ μ (xs (6 * n + 1)) (xs (6 * n + 2)) (xs (6 * n + 3)) (xs (6 * n + 4)) (xs (6 * n + 5)) hn hI
          exact hz_feed C hlt hi hcl w hl hf hg (fun f2 H1 locs1 ls1 w1 hl1 => next _ _ f2 H1 locs1 ls1 hI w1 hl1)
        | 1, _ =>
          refine lv_tableIn (tgt := 241) C.1.1.1 C.1.1.2.1 dL_law_40 (by decide) (by decide) (by rfl) (by decide) ?_
          obtain ⟨o, o2, hf, hg, hI⟩ := h1 n σ μ (xs (6 * n + 1)) hn hI
          exact hz_end C hlt hi hcl w hl hf hg (fun f2 H1 locs1 ls1 w1 hl1 => next _ _ f2 H1 locs1 ls1 hI w1 hl1)
        | 2, _ =>
          refine lv_tableIn (tgt := 266) C.1.1.1 C.1.1.2.1 dL_law_40 (by decide) (by decide) (by rfl) (by decide) ?_
          obtain ⟨o, o2, hf, hg, ho, hI⟩ := h2 n σ μ (xs (6 * n + 1)) (xs (6 * n + 2)) (xs (6 * n + 3)) hn hI
          exact hz_kind C hlt hi hcl w hl hf hg ho (fun f2 H1 locs1 ls1 w1 hl1 => next _ _ f2 H1 locs1 ls1 hI w1 hl1)
        | 3, _ =>
          refine lv_tableIn (tgt := 318) C.1.1.1 C.1.1.2.1 dL_law_40 (by decide) (by decide) (by rfl) (by decide) ?_
          obtain ⟨o, o2, hf, hg, ho, hI⟩ := h3 n σ μ (xs (6 * n + 1)) (xs (6 * n + 2)) (xs (6 * n + 3)) hn hI
          exact hz_fire C hlt hi hcl w hl hf hg ho (fun f2 H1 locs1 ls1 w1 hl1 => next _ _ f2 H1 locs1 ls1 hI w1 hl1)
        | 4, _ =>
          refine lv_tableIn (tgt := 370) C.1.1.1 C.1.1.2.1 dL_law_40 (by decide) (by decide) (by rfl) (by decide) ?_
          obtain ⟨o, o2, hf, hg, ho, hI⟩ := h4 n σ μ (xs (6 * n + 1)) (xs (6 * n + 2)) hn hI
          exact hz_fill C hlt hi hcl w hl hf hg ho (fun f2 H1 locs1 ls1 w1 hl1 => next _ _ f2 H1 locs1 ls1 hI w1 hl1)
        | 5, _ =>
          refine lv_tableIn (tgt := 410) C.1.1.1 C.1.1.2.1 dL_law_40 (by decide) (by decide) (by rfl) (by decide) ?_
          obtain ⟨o, o2, hf, hg, ho, hI⟩ := h5 n σ μ hn hI
          exact hz_ship C hlt hi hcl w hl hf hg ho (fun f2 H1 locs1 ls1 w1 hl1 => next _ _ f2 H1 locs1 ls1 hI w1 hl1)
        | 6, _ =>
          refine lv_tableIn (tgt := 426) C.1.1.1 C.1.1.2.1 dL_law_40 (by decide) (by decide) (by rfl) (by decide) ?_
          obtain ⟨o, o2, hf, hg, ho, hI⟩ := h6 n σ μ (xs (6 * n + 1)) (xs (6 * n + 2)) (xs (6 * n + 3)) hn hI
          exact hz_load C hlt hi hcl w hl hf hg ho (fun f2 H1 locs1 ls1 w1 hl1 => next _ _ f2 H1 locs1 ls1 hI w1 hl1)
        | 7, _ =>
          refine lv_tableIn (tgt := 478) C.1.1.1 C.1.1.2.1 dL_law_40 (by decide) (by decide) (by rfl) (by decide) ?_
          obtain ⟨o, o2, hf, hg, ho, hI⟩ := h7 n σ μ (xs (6 * n + 1)) (xs (6 * n + 2)) hn hI
          exact hz_land C hlt hi hcl w hl hf hg ho (fun f2 H1 locs1 ls1 w1 hl1 => next _ _ f2 H1 locs1 ls1 hI w1 hl1)
        | 8, _ =>
          refine lv_tableIn (tgt := 518) C.1.1.1 C.1.1.2.1 dL_law_40 (by decide) (by decide) (by rfl) (by decide) ?_
          obtain ⟨o, o2, hf, hg, ho, hI⟩ := h8 n σ μ (xs (6 * n + 1)) (xs (6 * n + 2)) hn hI
          exact hz_storm C hlt hi hcl w hl hf hg ho (fun f2 H1 locs1 ls1 w1 hl1 => next _ _ f2 H1 locs1 ls1 hI w1 hl1)
        | 9, _ =>
          refine lv_tableIn (tgt := 558) C.1.1.1 C.1.1.2.1 dL_law_40 (by decide) (by decide) (by rfl) (by decide) ?_
          obtain ⟨o, o2, hf, hg, ho, hI⟩ := h9 n σ μ (xs (6 * n + 1)) (xs (6 * n + 2)) hn hI
          exact hz_look C hlt hi hcl w hl hf hg ho (fun f2 H1 locs1 ls1 w1 hl1 => next _ _ f2 H1 locs1 ls1 hI w1 hl1)
        | 10, _ =>
          refine lv_tableIn (tgt := 598) C.1.1.1 C.1.1.2.1 dL_law_40 (by decide) (by decide) (by rfl) (by decide) ?_
          obtain ⟨o, o2, hf, hg, ho, hI⟩ := h10 n σ μ (xs (6 * n + 1)) (xs (6 * n + 2)) (xs (6 * n + 3)) hn hI
          exact hz_stack C hlt hi hcl w hl hf hg ho (fun f2 H1 locs1 ls1 w1 hl1 => next _ _ f2 H1 locs1 ls1 hI w1 hl1)
        | 11, _ =>
          refine lv_tableIn (tgt := 650) C.1.1.1 C.1.1.2.1 dL_law_40 (by decide) (by decide) (by rfl) (by decide) ?_
          obtain ⟨o, o2, hf, hg, ho, hI⟩ := h11 n σ μ (xs (6 * n + 1)) hn hI
          exact hz_tallest C hlt hi hcl w hl hf hg ho (fun f2 H1 locs1 ls1 w1 hl1 => next _ _ f2 H1 locs1 ls1 hI w1 hl1)
        | 12, _ =>
          refine lv_tableIn (tgt := 678) C.1.1.1 C.1.1.2.1 dL_law_40 (by decide) (by decide) (by rfl) (by decide) ?_
          obtain ⟨o, o2, hf, hg, ho, hI⟩ := h12 n σ μ (xs (6 * n + 1)) (xs (6 * n + 2)) hn hI
          exact hz_rate C hlt hi hcl w hl hf hg ho (fun f2 H1 locs1 ls1 w1 hl1 => next _ _ f2 H1 locs1 ls1 hI w1 hl1)
        | 13, _ =>
          refine lv_tableIn (tgt := 715) C.1.1.1 C.1.1.2.1 dL_law_40 (by decide) (by decide) (by rfl) (by decide) ?_
          obtain ⟨o, o2, hf, hg, ho, hI⟩ := h13 n σ μ (xs (6 * n + 1)) hn hI
          exact hz_check C hlt hi hcl w hl hf hg ho (fun f2 H1 locs1 ls1 w1 hl1 => next _ _ f2 H1 locs1 ls1 hI w1 hl1)
        | 14, _ =>
          refine lv_tableIn (tgt := 743) C.1.1.1 C.1.1.2.1 dL_law_40 (by decide) (by decide) (by rfl) (by decide) ?_
          obtain ⟨o, o2, hf, hg, hI⟩ := h14 n σ μ hn hI
          exact hz_fault C hlt hi hcl w hl hf hg (fun f2 H1 locs1 ls1 w1 hl1 => next _ _ f2 H1 locs1 ls1 hI w1 hl1)
        | 15, _ =>
          refine lv_tableIn (tgt := 756) C.1.1.1 C.1.1.2.1 dL_law_40 (by decide) (by decide) (by rfl) (by decide) ?_
          obtain ⟨o, o2, hf, hg, ho, hI⟩ := h15 n σ μ (xs (6 * n + 1)) (xs (6 * n + 2)) hn hI
          exact hz_notes C hlt hi hcl w hl hf hg ho (fun f2 H1 locs1 ls1 w1 hl1 => next _ _ f2 H1 locs1 ls1 hI w1 hl1)
        | 16, _ =>
          refine lv_tableIn (tgt := 812) C.1.1.1 C.1.1.2.1 dL_law_40 (by decide) (by decide) (by rfl) (by decide) ?_
          obtain ⟨o, o2, hf, hg, ho, hI⟩ := h16 n σ μ (xs (6 * n + 1)) (xs (6 * n + 2)) hn hI
          exact hz_sherd C hlt hi hcl w hl hf hg ho (fun f2 H1 locs1 ls1 w1 hl1 => next _ _ f2 H1 locs1 ls1 hI w1 hl1)
        | 17, _ =>
          refine lv_tableIn (tgt := 852) C.1.1.1 C.1.1.2.1 dL_law_40 (by decide) (by decide) (by rfl) (by decide) ?_
          obtain ⟨o, o2, hf, hg, ho, hI⟩ := h17 n σ μ (xs (6 * n + 1)) (xs (6 * n + 2)) hn hI
          exact hz_join C hlt hi hcl w hl hf hg ho (fun f2 H1 locs1 ls1 w1 hl1 => next _ _ f2 H1 locs1 ls1 hI w1 hl1)
        | 18, _ =>
          refine lv_tableIn (tgt := 892) C.1.1.1 C.1.1.2.1 dL_law_40 (by decide) (by decide) (by rfl) (by decide) ?_
          obtain ⟨o, o2, hf, hg, ho, hI⟩ := h18 n σ μ (xs (6 * n + 1)) hn hI
          exact hz_vessels C hlt hi hcl w hl hf hg ho (fun f2 H1 locs1 ls1 w1 hl1 => next _ _ f2 H1 locs1 ls1 hI w1 hl1)
        | 19, _ =>
          refine lv_tableIn (tgt := 920) C.1.1.1 C.1.1.2.1 dL_law_40 (by decide) (by decide) (by rfl) (by decide) ?_
          obtain ⟨o, o2, hf, hg, ho, hI⟩ := h19 n σ μ (xs (6 * n + 1)) (xs (6 * n + 2)) hn hI
          exact hz_vessel C hlt hi hcl w hl hf hg ho (fun f2 H1 locs1 ls1 w1 hl1 => next _ _ f2 H1 locs1 ls1 hI w1 hl1)
        | 20, _ =>
          refine lv_tableIn (tgt := 960) C.1.1.1 C.1.1.2.1 dL_law_40 (by decide) (by decide) (by rfl) (by decide) ?_
          obtain ⟨o, o2, hf, hg, ho, hI⟩ := h20 n σ μ (xs (6 * n + 1)) (xs (6 * n + 2)) (xs (6 * n + 3)) hn hI
          exact hz_tell C hlt hi hcl w hl hf hg ho (fun f2 H1 locs1 ls1 w1 hl1 => next _ _ f2 H1 locs1 ls1 hI w1 hl1)
        | 21, _ =>
          refine lv_tableIn (tgt := 1012) C.1.1.1 C.1.1.2.1 dL_law_40 (by decide) (by decide) (by rfl) (by decide) ?_
          obtain ⟨o, o2, hf, hg, ho, hI⟩ := h21 n σ μ (xs (6 * n + 1)) (xs (6 * n + 2)) (xs (6 * n + 3)) hn hI
          exact hz_bound C hlt hi hcl w hl hf hg ho (fun f2 H1 locs1 ls1 w1 hl1 => next _ _ f2 H1 locs1 ls1 hI w1 hl1)
        | 22, _ =>
          refine lv_tableIn (tgt := 1080) C.1.1.1 C.1.1.2.1 dL_law_40 (by decide) (by decide) (by rfl) (by decide) ?_
          obtain ⟨o, o2, hf, hg, ho, hI⟩ := h22 n σ μ (xs (6 * n + 1)) hn hI
          exact hz_undo C hlt hi hcl w hl hf hg ho (fun f2 H1 locs1 ls1 w1 hl1 => next _ _ f2 H1 locs1 ls1 hI w1 hl1)
        | 23, _ =>
          refine lv_tableIn (tgt := 1108) C.1.1.1 C.1.1.2.1 dL_law_40 (by decide) (by decide) (by rfl) (by decide) ?_
          obtain ⟨o, o2, hf, hg, ho, hI⟩ := h23 n σ μ (xs (6 * n + 1)) hn hI
          exact hz_days C hlt hi hcl w hl hf hg ho (fun f2 H1 locs1 ls1 w1 hl1 => next _ _ f2 H1 locs1 ls1 hI w1 hl1)
        | 24, _ =>
          refine lv_tableIn (tgt := 1136) C.1.1.1 C.1.1.2.1 dL_law_40 (by decide) (by decide) (by rfl) (by decide) ?_
          obtain ⟨o, o2, hf, hg, hI⟩ := h24 n σ μ (xs (6 * n + 1)) hn hI
          exact hz_agree C hlt hi hcl w hl hf hg (fun f2 H1 locs1 ls1 w1 hl1 => next _ _ f2 H1 locs1 ls1 hI w1 hl1)
        | 25, _ =>
          refine lv_tableIn (tgt := 1161) C.1.1.1 C.1.1.2.1 dL_law_40 (by decide) (by decide) (by rfl) (by decide) ?_
          obtain ⟨o, o2, o3, hf, hg, hh, ho, hv, hI⟩ := h25 n σ μ (xs (6 * n + 1)) (xs (6 * n + 2)) (xs (6 * n + 3)) hn hI
          exact hz_span C hlt hi hcl w hl hf hg hh ho hv (fun f2 H1 locs1 ls1 w1 hl1 => next _ _ f2 H1 locs1 ls1 hI w1 hl1)
        | 26, _ =>
          refine lv_tableIn (tgt := 1257) C.1.1.1 C.1.1.2.1 dL_law_40 (by decide) (by decide) (by rfl) (by decide) ?_
          obtain ⟨o, o2, hf, hg, hI⟩ := h26 n σ μ (xs (6 * n + 1)) hn hI
          exact hz_quarrel C hlt hi hcl w hl hf hg (fun f2 H1 locs1 ls1 w1 hl1 => next _ _ f2 H1 locs1 ls1 hI w1 hl1)
        | 27, _ =>
          refine lv_tableIn (tgt := 1282) C.1.1.1 C.1.1.2.1 dL_law_40 (by decide) (by decide) (by rfl) (by decide) ?_
          obtain ⟨o, o2, hf, hg, hI⟩ := h27 n σ μ (xs (6 * n + 1)) hn hI
          exact hz_count C hlt hi hcl w hl hf hg (fun f2 H1 locs1 ls1 w1 hl1 => next _ _ f2 H1 locs1 ls1 hI w1 hl1)
        | k + 28, hk2 => exact absurd hk2 (by omega)
      · refine lv_tableOut (tgt := 1307) C.1.1.1 C.1.1.2.1 dL_law_40 (Or.inr (by rw [nI_toInt (by omega)]; omega)) (by decide) ?_
        exact W.widen (k := c0 + n + 1) (n := s0 + 6 * n + 6) (by omega) (by omega) (next σ μ f H locs ls (hd n σ μ hn hI) w hl)
