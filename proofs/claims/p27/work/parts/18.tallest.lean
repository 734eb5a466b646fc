section HM5
variable {p : Program} {l : Launch} {e : Env} {R : Room} {s : State} {m : MethodId} {args : Array Value} {below : List Frame} {meth : Method} {c : Code} {Q : State → Prop} {G : hy_G} {A : Nat → Prop} {Qc : Array Value → State → Outcome → State → Prop}
noncomputable def fJ6_bitCount_0f7a4 (σ : hy_S) (x0 : Int32) : Option (hy_S × Int32) := some (σ, ((((((((x0 - (((Int32.toUInt32 x0 >>> (Int32.toUInt32 1 &&& Int32.toUInt32 31)).toInt32) &&& 1431655765)) &&& 858993459) + (((Int32.toUInt32 (x0 - (((Int32.toUInt32 x0 >>> (Int32.toUInt32 1 &&& Int32.toUInt32 31)).toInt32) &&& 1431655765)) >>> (Int32.toUInt32 2 &&& Int32.toUInt32 31)).toInt32) &&& 858993459)) + ((Int32.toUInt32 (((x0 - (((Int32.toUInt32 x0 >>> (Int32.toUInt32 1 &&& Int32.toUInt32 31)).toInt32) &&& 1431655765)) &&& 858993459) + (((Int32.toUInt32 (x0 - (((Int32.toUInt32 x0 >>> (Int32.toUInt32 1 &&& Int32.toUInt32 31)).toInt32) &&& 1431655765)) >>> (Int32.toUInt32 2 &&& Int32.toUInt32 31)).toInt32) &&& 858993459)) >>> (Int32.toUInt32 4 &&& Int32.toUInt32 31)).toInt32)) &&& 252645135) + ((Int32.toUInt32 (((((x0 - (((Int32.toUInt32 x0 >>> (Int32.toUInt32 1 &&& Int32.toUInt32 31)).toInt32) &&& 1431655765)) &&& 858993459) + (((Int32.toUInt32 (x0 - (((Int32.toUInt32 x0 >>> (Int32.toUInt32 1 &&& Int32.toUInt32 31)).toInt32) &&& 1431655765)) >>> (Int32.toUInt32 2 &&& Int32.toUInt32 31)).toInt32) &&& 858993459)) + ((Int32.toUInt32 (((x0 - (((Int32.toUInt32 x0 >>> (Int32.toUInt32 1 &&& Int32.toUInt32 31)).toInt32) &&& 1431655765)) &&& 858993459) + (((Int32.toUInt32 (x0 - (((Int32.toUInt32 x0 >>> (Int32.toUInt32 1 &&& Int32.toUInt32 31)).toInt32) &&& 1431655765)) >>> (Int32.toUInt32 2 &&& Int32.toUInt32 31)).toInt32) &&& 858993459)) >>> (Int32.toUInt32 4 &&& Int32.toUInt32 31)).toInt32)) &&& 252645135) >>> (Int32.toUInt32 8 &&& Int32.toUInt32 31)).toInt32)) + ((Int32.toUInt32 ((((((x0 - (((Int32.toUInt32 x0 >>> (Int32.toUInt32 1 &&& Int32.toUInt32 31)).toInt32) &&& 1431655765)) &&& 858993459) + (((Int32.toUInt32 (x0 - (((Int32.toUInt32 x0 >>> (Int32.toUInt32 1 &&& Int32.toUInt32 31)).toInt32) &&& 1431655765)) >>> (Int32.toUInt32 2 &&& Int32.toUInt32 31)).toInt32) &&& 858993459)) + ((Int32.toUInt32 (((x0 - (((Int32.toUInt32 x0 >>> (Int32.toUInt32 1 &&& Int32.toUInt32 31)).toInt32) &&& 1431655765)) &&& 858993459) + (((Int32.toUInt32 (x0 - (((Int32.toUInt32 x0 >>> (Int32.toUInt32 1 &&& Int32.toUInt32 31)).toInt32) &&& 1431655765)) >>> (Int32.toUInt32 2 &&& Int32.toUInt32 31)).toInt32) &&& 858993459)) >>> (Int32.toUInt32 4 &&& Int32.toUInt32 31)).toInt32)) &&& 252645135) + ((Int32.toUInt32 (((((x0 - (((Int32.toUInt32 x0 >>> (Int32.toUInt32 1 &&& Int32.toUInt32 31)).toInt32) &&& 1431655765)) &&& 858993459) + (((Int32.toUInt32 (x0 - (((Int32.toUInt32 x0 >>> (Int32.toUInt32 1 &&& Int32.toUInt32 31)).toInt32) &&& 1431655765)) >>> (Int32.toUInt32 2 &&& Int32.toUInt32 31)).toInt32) &&& 858993459)) + ((Int32.toUInt32 (((x0 - (((Int32.toUInt32 x0 >>> (Int32.toUInt32 1 &&& Int32.toUInt32 31)).toInt32) &&& 1431655765)) &&& 858993459) + (((Int32.toUInt32 (x0 - (((Int32.toUInt32 x0 >>> (Int32.toUInt32 1 &&& Int32.toUInt32 31)).toInt32) &&& 1431655765)) >>> (Int32.toUInt32 2 &&& Int32.toUInt32 31)).toInt32) &&& 858993459)) >>> (Int32.toUInt32 4 &&& Int32.toUInt32 31)).toInt32)) &&& 252645135) >>> (Int32.toUInt32 8 &&& Int32.toUInt32 31)).toInt32)) >>> (Int32.toUInt32 16 &&& Int32.toUInt32 31)).toInt32)) &&& 63))
set_option maxHeartbeats 4000000 in
set_option maxRecDepth 100000 in
theorem bJ6_bitCount_0f7a4_0 (hA : ∀ q : Nat, s.heap.size ≤ q → A q) (B : hy_B RJ6 cJ6_bitCount_0f7a4 1 wsJ6_bitCount_0f7a4 G A p s m args c) (hR : 0 ≤ R.frames ∧ 0 ≤ R.locals) {o : hy_S × Int32}  (hret : ∀ (σ : hy_S) (v : Int32) (pc : Nat) (H : Heap) (locs : List Loc) (ls : Array Slot), o = (σ, v) → hy_w mw G A s σ H locs → decode cJ6_bitCount_0f7a4 pc = .ok (.ireturn, 1) → W p l e R s m args below meth c H locs 0 0 Q (F0 m pc ls [.int v])) (σ : hy_S) (x0 : Int32) (H : Heap) (locs : List Loc) (ls : Array Slot) (hf : fJ6_bitCount_0f7a4 σ x0 = some o) (w : hy_w mw G A s σ H locs) (hl : lv_has ls 1 [(0, .int x0)]) : W p l e R s m args below meth c H locs 0 0 Q (F0 m 0 ls []) := by
  unfold fJ6_bitCount_0f7a4 at hf
  refine lv_iload_n B.1.1 B.1.2.1 dJ6_bitCount_0f7a4_0 rfl (lv_at hl 0 rfl) ?_
  refine lv_iload_n B.1.1 B.1.2.1 dJ6_bitCount_0f7a4_1 rfl (lv_at hl 0 rfl) ?_
  refine lv_iconst (v := 1) B.1.1 B.1.2.1 dJ6_bitCount_0f7a4_2 (by decide) ?_
  refine lv_iushr (v := (Int32.toUInt32 x0 >>> (Int32.toUInt32 1 &&& Int32.toUInt32 31)).toInt32) B.1.1 B.1.2.1 dJ6_bitCount_0f7a4_3 rfl ?_
  refine lv_ldcw (v := 1431655765) B.1.1 B.1.2.1 B.1.2.2.2.1 (B.1.2.2.2.2 (.constant RJ6 265 (1431655765)) (by decide +kernel)) dJ6_bitCount_0f7a4_4 ?_
  refine lv_iand B.1.1 B.1.2.1 dJ6_bitCount_0f7a4_7 ?_
  refine lv_isub B.1.1 B.1.2.1 dJ6_bitCount_0f7a4_8 ?_
  refine lv_istore_n (lv' := [(0, .int (x0 - (((Int32.toUInt32 x0 >>> (Int32.toUInt32 1 &&& Int32.toUInt32 31)).toInt32) &&& 1431655765)))]) B.1.1 B.1.2.1 dJ6_bitCount_0f7a4_9 rfl hl (by decide) rfl (fun ls hl => ?_)
  refine lv_iload_n B.1.1 B.1.2.1 dJ6_bitCount_0f7a4_10 rfl (lv_at hl 0 rfl) ?_
  refine lv_ldcw (v := 858993459) B.1.1 B.1.2.1 B.1.2.2.2.1 (B.1.2.2.2.2 (.constant RJ6 266 (858993459)) (by decide +kernel)) dJ6_bitCount_0f7a4_11 ?_
  refine lv_iand B.1.1 B.1.2.1 dJ6_bitCount_0f7a4_14 ?_
  refine lv_iload_n B.1.1 B.1.2.1 dJ6_bitCount_0f7a4_15 rfl (lv_at hl 0 rfl) ?_
  refine lv_iconst (v := 2) B.1.1 B.1.2.1 dJ6_bitCount_0f7a4_16 (by decide) ?_
  refine lv_iushr (v := (Int32.toUInt32 (x0 - (((Int32.toUInt32 x0 >>> (Int32.toUInt32 1 &&& Int32.toUInt32 31)).toInt32) &&& 1431655765)) >>> (Int32.toUInt32 2 &&& Int32.toUInt32 31)).toInt32) B.1.1 B.1.2.1 dJ6_bitCount_0f7a4_17 rfl ?_
  refine lv_ldcw (v := 858993459) B.1.1 B.1.2.1 B.1.2.2.2.1 (B.1.2.2.2.2 (.constant RJ6 266 (858993459)) (by decide +kernel)) dJ6_bitCount_0f7a4_18 ?_
  refine lv_iand B.1.1 B.1.2.1 dJ6_bitCount_0f7a4_21 ?_
  refine lv_iadd B.1.1 B.1.2.1 dJ6_bitCount_0f7a4_22 ?_
  refine lv_istore_n (lv' := [(0, .int (((x0 - (((Int32.toUInt32 x0 >>> (Int32.toUInt32 1 &&& Int32.toUInt32 31)).toInt32) &&& 1431655765)) &&& 858993459) + (((Int32.toUInt32 (x0 - (((Int32.toUInt32 x0 >>> (Int32.toUInt32 1 &&& Int32.toUInt32 31)).toInt32) &&& 1431655765)) >>> (Int32.toUInt32 2 &&& Int32.toUInt32 31)).toInt32) &&& 858993459)))]) B.1.1 B.1.2.1 dJ6_bitCount_0f7a4_23 rfl hl (by decide) rfl (fun ls hl => ?_)
  refine lv_iload_n B.1.1 B.1.2.1 dJ6_bitCount_0f7a4_24 rfl (lv_at hl 0 rfl) ?_
  refine lv_iload_n B.1.1 B.1.2.1 dJ6_bitCount_0f7a4_25 rfl (lv_at hl 0 rfl) ?_
  refine lv_iconst (v := 4) B.1.1 B.1.2.1 dJ6_bitCount_0f7a4_26 (by decide) ?_
  refine lv_iushr (v := (Int32.toUInt32 (((x0 - (((Int32.toUInt32 x0 >>> (Int32.toUInt32 1 &&& Int32.toUInt32 31)).toInt32) &&& 1431655765)) &&& 858993459) + (((Int32.toUInt32 (x0 - (((Int32.toUInt32 x0 >>> (Int32.toUInt32 1 &&& Int32.toUInt32 31)).toInt32) &&& 1431655765)) >>> (Int32.toUInt32 2 &&& Int32.toUInt32 31)).toInt32) &&& 858993459)) >>> (Int32.toUInt32 4 &&& Int32.toUInt32 31)).toInt32) B.1.1 B.1.2.1 dJ6_bitCount_0f7a4_27 rfl ?_
  refine lv_iadd B.1.1 B.1.2.1 dJ6_bitCount_0f7a4_28 ?_
  refine lv_ldcw (v := 252645135) B.1.1 B.1.2.1 B.1.2.2.2.1 (B.1.2.2.2.2 (.constant RJ6 267 (252645135)) (by decide +kernel)) dJ6_bitCount_0f7a4_29 ?_
  refine lv_iand B.1.1 B.1.2.1 dJ6_bitCount_0f7a4_32 ?_
  refine lv_istore_n (lv' := [(0, .int (((((x0 - (((Int32.toUInt32 x0 >>> (Int32.toUInt32 1 &&& Int32.toUInt32 31)).toInt32) &&& 1431655765)) &&& 858993459) + (((Int32.toUInt32 (x0 - (((Int32.toUInt32 x0 >>> (Int32.toUInt32 1 &&& Int32.toUInt32 31)).toInt32) &&& 1431655765)) >>> (Int32.toUInt32 2 &&& Int32.toUInt32 31)).toInt32) &&& 858993459)) + ((Int32.toUInt32 (((x0 - (((Int32.toUInt32 x0 >>> (Int32.toUInt32 1 &&& Int32.toUInt32 31)).toInt32) &&& 1431655765)) &&& 858993459) + (((Int32.toUInt32 (x0 - (((Int32.toUInt32 x0 >>> (Int32.toUInt32 1 &&& Int32.toUInt32 31)).toInt32) &&& 1431655765)) >>> (Int32.toUInt32 2 &&& Int32.toUInt32 31)).toInt32) &&& 858993459)) >>> (Int32.toUInt32 4 &&& Int32.toUInt32 31)).toInt32)) &&& 252645135))]) B.1.1 B.1.2.1 dJ6_bitCount_0f7a4_33 rfl hl (by decide) rfl (fun ls hl => ?_)
  refine lv_iload_n B.1.1 B.1.2.1 dJ6_bitCount_0f7a4_34 rfl (lv_at hl 0 rfl) ?_
  refine lv_iload_n B.1.1 B.1.2.1 dJ6_bitCount_0f7a4_35 rfl (lv_at hl 0 rfl) ?_
  refine lv_bipush (v := 8) B.1.1 B.1.2.1 dJ6_bitCount_0f7a4_36 (by decide) ?_
  refine lv_iushr (v := (Int32.toUInt32 (((((x0 - (((Int32.toUInt32 x0 >>> (Int32.toUInt32 1 &&& Int32.toUInt32 31)).toInt32) &&& 1431655765)) &&& 858993459) + (((Int32.toUInt32 (x0 - (((Int32.toUInt32 x0 >>> (Int32.toUInt32 1 &&& Int32.toUInt32 31)).toInt32) &&& 1431655765)) >>> (Int32.toUInt32 2 &&& Int32.toUInt32 31)).toInt32) &&& 858993459)) + ((Int32.toUInt32 (((x0 - (((Int32.toUInt32 x0 >>> (Int32.toUInt32 1 &&& Int32.toUInt32 31)).toInt32) &&& 1431655765)) &&& 858993459) + (((Int32.toUInt32 (x0 - (((Int32.toUInt32 x0 >>> (Int32.toUInt32 1 &&& Int32.toUInt32 31)).toInt32) &&& 1431655765)) >>> (Int32.toUInt32 2 &&& Int32.toUInt32 31)).toInt32) &&& 858993459)) >>> (Int32.toUInt32 4 &&& Int32.toUInt32 31)).toInt32)) &&& 252645135) >>> (Int32.toUInt32 8 &&& Int32.toUInt32 31)).toInt32) B.1.1 B.1.2.1 dJ6_bitCount_0f7a4_38 rfl ?_
  refine lv_iadd B.1.1 B.1.2.1 dJ6_bitCount_0f7a4_39 ?_
  refine lv_istore_n (lv' := [(0, .int ((((((x0 - (((Int32.toUInt32 x0 >>> (Int32.toUInt32 1 &&& Int32.toUInt32 31)).toInt32) &&& 1431655765)) &&& 858993459) + (((Int32.toUInt32 (x0 - (((Int32.toUInt32 x0 >>> (Int32.toUInt32 1 &&& Int32.toUInt32 31)).toInt32) &&& 1431655765)) >>> (Int32.toUInt32 2 &&& Int32.toUInt32 31)).toInt32) &&& 858993459)) + ((Int32.toUInt32 (((x0 - (((Int32.toUInt32 x0 >>> (Int32.toUInt32 1 &&& Int32.toUInt32 31)).toInt32) &&& 1431655765)) &&& 858993459) + (((Int32.toUInt32 (x0 - (((Int32.toUInt32 x0 >>> (Int32.toUInt32 1 &&& Int32.toUInt32 31)).toInt32) &&& 1431655765)) >>> (Int32.toUInt32 2 &&& Int32.toUInt32 31)).toInt32) &&& 858993459)) >>> (Int32.toUInt32 4 &&& Int32.toUInt32 31)).toInt32)) &&& 252645135) + ((Int32.toUInt32 (((((x0 - (((Int32.toUInt32 x0 >>> (Int32.toUInt32 1 &&& Int32.toUInt32 31)).toInt32) &&& 1431655765)) &&& 858993459) + (((Int32.toUInt32 (x0 - (((Int32.toUInt32 x0 >>> (Int32.toUInt32 1 &&& Int32.toUInt32 31)).toInt32) &&& 1431655765)) >>> (Int32.toUInt32 2 &&& Int32.toUInt32 31)).toInt32) &&& 858993459)) + ((Int32.toUInt32 (((x0 - (((Int32.toUInt32 x0 >>> (Int32.toUInt32 1 &&& Int32.toUInt32 31)).toInt32) &&& 1431655765)) &&& 858993459) + (((Int32.toUInt32 (x0 - (((Int32.toUInt32 x0 >>> (Int32.toUInt32 1 &&& Int32.toUInt32 31)).toInt32) &&& 1431655765)) >>> (Int32.toUInt32 2 &&& Int32.toUInt32 31)).toInt32) &&& 858993459)) >>> (Int32.toUInt32 4 &&& Int32.toUInt32 31)).toInt32)) &&& 252645135) >>> (Int32.toUInt32 8 &&& Int32.toUInt32 31)).toInt32)))]) B.1.1 B.1.2.1 dJ6_bitCount_0f7a4_40 rfl hl (by decide) rfl (fun ls hl => ?_)
  refine lv_iload_n B.1.1 B.1.2.1 dJ6_bitCount_0f7a4_41 rfl (lv_at hl 0 rfl) ?_
  refine lv_iload_n B.1.1 B.1.2.1 dJ6_bitCount_0f7a4_42 rfl (lv_at hl 0 rfl) ?_
  refine lv_bipush (v := 16) B.1.1 B.1.2.1 dJ6_bitCount_0f7a4_43 (by decide) ?_
  refine lv_iushr (v := (Int32.toUInt32 ((((((x0 - (((Int32.toUInt32 x0 >>> (Int32.toUInt32 1 &&& Int32.toUInt32 31)).toInt32) &&& 1431655765)) &&& 858993459) + (((Int32.toUInt32 (x0 - (((Int32.toUInt32 x0 >>> (Int32.toUInt32 1 &&& Int32.toUInt32 31)).toInt32) &&& 1431655765)) >>> (Int32.toUInt32 2 &&& Int32.toUInt32 31)).toInt32) &&& 858993459)) + ((Int32.toUInt32 (((x0 - (((Int32.toUInt32 x0 >>> (Int32.toUInt32 1 &&& Int32.toUInt32 31)).toInt32) &&& 1431655765)) &&& 858993459) + (((Int32.toUInt32 (x0 - (((Int32.toUInt32 x0 >>> (Int32.toUInt32 1 &&& Int32.toUInt32 31)).toInt32) &&& 1431655765)) >>> (Int32.toUInt32 2 &&& Int32.toUInt32 31)).toInt32) &&& 858993459)) >>> (Int32.toUInt32 4 &&& Int32.toUInt32 31)).toInt32)) &&& 252645135) + ((Int32.toUInt32 (((((x0 - (((Int32.toUInt32 x0 >>> (Int32.toUInt32 1 &&& Int32.toUInt32 31)).toInt32) &&& 1431655765)) &&& 858993459) + (((Int32.toUInt32 (x0 - (((Int32.toUInt32 x0 >>> (Int32.toUInt32 1 &&& Int32.toUInt32 31)).toInt32) &&& 1431655765)) >>> (Int32.toUInt32 2 &&& Int32.toUInt32 31)).toInt32) &&& 858993459)) + ((Int32.toUInt32 (((x0 - (((Int32.toUInt32 x0 >>> (Int32.toUInt32 1 &&& Int32.toUInt32 31)).toInt32) &&& 1431655765)) &&& 858993459) + (((Int32.toUInt32 (x0 - (((Int32.toUInt32 x0 >>> (Int32.toUInt32 1 &&& Int32.toUInt32 31)).toInt32) &&& 1431655765)) >>> (Int32.toUInt32 2 &&& Int32.toUInt32 31)).toInt32) &&& 858993459)) >>> (Int32.toUInt32 4 &&& Int32.toUInt32 31)).toInt32)) &&& 252645135) >>> (Int32.toUInt32 8 &&& Int32.toUInt32 31)).toInt32)) >>> (Int32.toUInt32 16 &&& Int32.toUInt32 31)).toInt32) B.1.1 B.1.2.1 dJ6_bitCount_0f7a4_45 rfl ?_
  refine lv_iadd B.1.1 B.1.2.1 dJ6_bitCount_0f7a4_46 ?_
  refine lv_istore_n (lv' := [(0, .int (((((((x0 - (((Int32.toUInt32 x0 >>> (Int32.toUInt32 1 &&& Int32.toUInt32 31)).toInt32) &&& 1431655765)) &&& 858993459) + (((Int32.toUInt32 (x0 - (((Int32.toUInt32 x0 >>> (Int32.toUInt32 1 &&& Int32.toUInt32 31)).toInt32) &&& 1431655765)) >>> (Int32.toUInt32 2 &&& Int32.toUInt32 31)).toInt32) &&& 858993459)) + ((Int32.toUInt32 (((x0 - (((Int32.toUInt32 x0 >>> (Int32.toUInt32 1 &&& Int32.toUInt32 31)).toInt32) &&& 1431655765)) &&& 858993459) + (((Int32.toUInt32 (x0 - (((Int32.toUInt32 x0 >>> (Int32.toUInt32 1 &&& Int32.toUInt32 31)).toInt32) &&& 1431655765)) >>> (Int32.toUInt32 2 &&& Int32.toUInt32 31)).toInt32) &&& 858993459)) >>> (Int32.toUInt32 4 &&& Int32.toUInt32 31)).toInt32)) &&& 252645135) + ((Int32.toUInt32 (((((x0 - (((Int32.toUInt32 x0 >>> (Int32.toUInt32 1 &&& Int32.toUInt32 31)).toInt32) &&& 1431655765)) &&& 858993459) + (((Int32.toUInt32 (x0 - (((Int32.toUInt32 x0 >>> (Int32.toUInt32 1 &&& Int32.toUInt32 31)).toInt32) &&& 1431655765)) >>> (Int32.toUInt32 2 &&& Int32.toUInt32 31)).toInt32) &&& 858993459)) + ((Int32.toUInt32 (((x0 - (((Int32.toUInt32 x0 >>> (Int32.toUInt32 1 &&& Int32.toUInt32 31)).toInt32) &&& 1431655765)) &&& 858993459) + (((Int32.toUInt32 (x0 - (((Int32.toUInt32 x0 >>> (Int32.toUInt32 1 &&& Int32.toUInt32 31)).toInt32) &&& 1431655765)) >>> (Int32.toUInt32 2 &&& Int32.toUInt32 31)).toInt32) &&& 858993459)) >>> (Int32.toUInt32 4 &&& Int32.toUInt32 31)).toInt32)) &&& 252645135) >>> (Int32.toUInt32 8 &&& Int32.toUInt32 31)).toInt32)) + ((Int32.toUInt32 ((((((x0 - (((Int32.toUInt32 x0 >>> (Int32.toUInt32 1 &&& Int32.toUInt32 31)).toInt32) &&& 1431655765)) &&& 858993459) + (((Int32.toUInt32 (x0 - (((Int32.toUInt32 x0 >>> (Int32.toUInt32 1 &&& Int32.toUInt32 31)).toInt32) &&& 1431655765)) >>> (Int32.toUInt32 2 &&& Int32.toUInt32 31)).toInt32) &&& 858993459)) + ((Int32.toUInt32 (((x0 - (((Int32.toUInt32 x0 >>> (Int32.toUInt32 1 &&& Int32.toUInt32 31)).toInt32) &&& 1431655765)) &&& 858993459) + (((Int32.toUInt32 (x0 - (((Int32.toUInt32 x0 >>> (Int32.toUInt32 1 &&& Int32.toUInt32 31)).toInt32) &&& 1431655765)) >>> (Int32.toUInt32 2 &&& Int32.toUInt32 31)).toInt32) &&& 858993459)) >>> (Int32.toUInt32 4 &&& Int32.toUInt32 31)).toInt32)) &&& 252645135) + ((Int32.toUInt32 (((((x0 - (((Int32.toUInt32 x0 >>> (Int32.toUInt32 1 &&& Int32.toUInt32 31)).toInt32) &&& 1431655765)) &&& 858993459) + (((Int32.toUInt32 (x0 - (((Int32.toUInt32 x0 >>> (Int32.toUInt32 1 &&& Int32.toUInt32 31)).toInt32) &&& 1431655765)) >>> (Int32.toUInt32 2 &&& Int32.toUInt32 31)).toInt32) &&& 858993459)) + ((Int32.toUInt32 (((x0 - (((Int32.toUInt32 x0 >>> (Int32.toUInt32 1 &&& Int32.toUInt32 31)).toInt32) &&& 1431655765)) &&& 858993459) + (((Int32.toUInt32 (x0 - (((Int32.toUInt32 x0 >>> (Int32.toUInt32 1 &&& Int32.toUInt32 31)).toInt32) &&& 1431655765)) >>> (Int32.toUInt32 2 &&& Int32.toUInt32 31)).toInt32) &&& 858993459)) >>> (Int32.toUInt32 4 &&& Int32.toUInt32 31)).toInt32)) &&& 252645135) >>> (Int32.toUInt32 8 &&& Int32.toUInt32 31)).toInt32)) >>> (Int32.toUInt32 16 &&& Int32.toUInt32 31)).toInt32)))]) B.1.1 B.1.2.1 dJ6_bitCount_0f7a4_47 rfl hl (by decide) rfl (fun ls hl => ?_)
  refine lv_iload_n B.1.1 B.1.2.1 dJ6_bitCount_0f7a4_48 rfl (lv_at hl 0 rfl) ?_
  refine lv_bipush (v := 63) B.1.1 B.1.2.1 dJ6_bitCount_0f7a4_49 (by decide) ?_
  refine lv_iand B.1.1 B.1.2.1 dJ6_bitCount_0f7a4_51 ?_
  exact hret _ _ _ _ _ _ (Option.some.inj hf).symm w dJ6_bitCount_0f7a4_52
set_option maxHeartbeats 4000000 in
set_option maxRecDepth 100000 in
theorem mJ6_bitCount_0f7a4 (l : Launch) (G : hy_G) (sz : Nat) (σ : hy_S) (x0 : Int32) (o : hy_S × Int32) (hf : fJ6_bitCount_0f7a4 σ x0 = some o) : hy_M l yJ6_bitCount_0f7a4 wsJ6_bitCount_0f7a4 ({ frames := 0, cells := 0, slots := 0, locals := 0 }) mw G σ sz [.int x0] o := by
  refine Met.ofW (cc := cJ6_bitCount_0f7a4) (maxL := 1) (ret := (some .int)) (by decide +kernel) rfl ?_
  intro p e s m args below meth c s₁ B hml hv
  obtain ⟨rfl, hsz, hP, hK, hD0, hN⟩ := hv
  have hx := B.exec
  have hb := B.bytes
  have hr := B.returns
  have hts := atoms_spec (ws := wsJ6_bitCount_0f7a4) B.pre
  have hown : s.vm.findClass RJ6 = some m.cls := findClass_of_methodNamed B.named
  have hlocks := B.notSynchronized
  subst hsz
  have hD := hD0.self (sz := s.heap.size)
  have hA : ∀ q : Nat, s.heap.size ≤ q → va_A (mw G σ) s.heap.size q := fun q h => Or.inr h
  have hS : va_S (va_A (mw G σ) s.heap.size) s.heap s.heap [] := va_S.rf
  have hl := lv_entry ([.int x0]) (n := 1) (Nat.le_of_ble_eq_true rfl)
  rw [lg_entry_eq]
  generalize (lg_sl ([.int x0]) ++ List.replicate (1 - (lg_sl ([.int x0])).length) Slot.unset).toArray = ls at hl ⊢
  have hl : lv_has ls 1 [(0, .int x0)] := hl
  refine bJ6_bitCount_0f7a4_0 (A := va_A (mw G σ) s.heap.size) hA ⟨⟨hx, hb, hml, hown, hts⟩, hK, hN⟩ ⟨Nat.le_of_ble_eq_true rfl, Nat.le_of_ble_eq_true rfl⟩ (o := o) (fun τ v pc H locs ls ho w d => ?_) σ x0 _ _ _ hf ⟨hP, hD, hS⟩ hl
  exact W.iret hx hb hr (fun t ht hW => ⟨⟨v, τ, rfl, ⟨by rw [ho], by rw [ho]⟩, by have h9 := w.1; rw [← ht] at h9; exact h9⟩, w.2.2.F ht⟩) w.2.2.2.2 d
theorem in_X10_tallest_X10 : ∀ w ∈ u_ws RX10 TX10 43, w ∈ wsX10_tallest := fun _ h => xt1 (xr (h))
noncomputable def fX10_tallest_262 (k92 : hy_S → Int32 → Int32 → Int32 → Option (hy_S × Int32)) (σ : hy_S) (x2 : Int32) (x3 : Int32) (x4 : Int32) : Option (hy_S × Int32) := k92 σ x2 x3 (x4 + 1)
noncomputable def fX10_tallest_236 (k92 : hy_S → Int32 → Int32 → Int32 → Option (hy_S × Int32)) (k160 : hy_S → Int32 → Int32 → Int32 → Int32 → Int32 → Option (hy_S × Int32)) (σ : hy_S) (x2 : Int32) (x3 : Int32) (x4 : Int32) (x5 : Int32) (x6 : Int32) : Option (hy_S × Int32) := k160 σ x2 x3 x4 x5 (x6 + 1)
noncomputable def fX10_tallest_160 (k92 : hy_S → Int32 → Int32 → Int32 → Option (hy_S × Int32)) : Nat → hy_S → Int32 → Int32 → Int32 → Int32 → Int32 → Option (hy_S × Int32)
  | 0, _, _, _, _, _, _ => none
  | n + 1, σ, x2, x3, x4, x5, x6 => (if x2 ≤ x6 then hy_ga σ 12 4096 x4 (fun v2 => (if v2 = 0 then fX10_tallest_262 k92 σ x2 x3 x4 else hy_bd (fJ6_bitCount_0f7a4 σ x4) (fun σ6 v7 => fX10_tallest_262 k92 σ6 x2 (if x3 < v7 then v7 else x3) x4))) else (if ((x4 >>> (x6 &&& 31)) &&& 1) = 1 then hy_ga σ 12 4096 (x4 &&& ((1 <<< (x6 &&& 31)) ^^^ (-1))) (fun v12 => (if v12 = 0 then fX10_tallest_236 k92 (fX10_tallest_160 k92 n) σ x2 x3 x4 x5 x6 else hy_ga σ 13 12 x6 (fun v16 => hy_bd (fX10_weight σ v16) (fun σ19 v20 => hy_ga σ19 13 12 x6 (fun v22 => hy_ga σ19 3 60 v22 (fun v25 => hy_ga σ19 2 8 v25 (fun v28 => (if v28 < (x5 - v20) then fX10_tallest_236 k92 (fX10_tallest_160 k92 n) σ19 x2 x3 x4 x5 x6 else hy_pa σ19 12 4096 x4 (vp_nar .boolean 1) (fun σ32 => fX10_tallest_236 k92 (fX10_tallest_160 k92 n) σ32 x2 x3 x4 x5 x6))))))))) else fX10_tallest_236 k92 (fX10_tallest_160 k92 n) σ x2 x3 x4 x5 x6))
noncomputable def fX10_tallest_140 (k92 : hy_S → Int32 → Int32 → Int32 → Option (hy_S × Int32)) (k106 : hy_S → Int32 → Int32 → Int32 → Int32 → Int32 → Option (hy_S × Int32)) (σ : hy_S) (s0 : Int32) (s1 : Int32) (x2 : Int32) (x3 : Int32) (x4 : Int32) (x6 : Int32) : Option (hy_S × Int32) := k106 σ x2 x3 x4 (s1 + s0) (x6 + 1)
noncomputable def fX10_tallest_106 (k92 : hy_S → Int32 → Int32 → Int32 → Option (hy_S × Int32)) : Nat → hy_S → Int32 → Int32 → Int32 → Int32 → Int32 → Option (hy_S × Int32)
  | 0, _, _, _, _, _, _ => none
  | n + 1, σ, x2, x3, x4, x5, x6 => (if x2 ≤ x6 then hy_pa σ 12 4096 x4 (vp_nar .boolean 0) (fun σ2 => fX10_tallest_160 k92 hy_fu σ2 x2 x3 x4 x5 0) else (if ((x4 >>> (x6 &&& 31)) &&& 1) = 1 then hy_ga σ 13 12 x6 (fun v6 => hy_bd (fX10_weight σ v6) (fun σ9 v10 => fX10_tallest_140 k92 (fX10_tallest_106 k92 n) σ9 v10 x5 x2 x3 x4 x6)) else fX10_tallest_140 k92 (fX10_tallest_106 k92 n) σ 0 x5 x2 x3 x4 x6))
noncomputable def fX10_tallest_92 : Nat → hy_S → Int32 → Int32 → Int32 → Option (hy_S × Int32)
  | 0, _, _, _, _ => none
  | n + 1, σ, x2, x3, x4 => (if (1 <<< (x2 &&& 31)) ≤ x4 then some (σ, x3) else fX10_tallest_106 (fX10_tallest_92 n) hy_fu σ x2 x3 x4 0 0)
noncomputable def fX10_tallest_80 (σ : hy_S) (x2 : Int32) : Option (hy_S × Int32) := hy_pa σ 12 4096 0 (vp_nar .boolean 1) (fun σ1 => fX10_tallest_92 hy_fu σ1 x2 0 1)
noncomputable def fX10_tallest_74 (k9 : hy_S → Int32 → Int32 → Int32 → Option (hy_S × Int32)) (σ : hy_S) (x1 : Int32) (x2 : Int32) (x3 : Int32) : Option (hy_S × Int32) := k9 σ x1 x2 (x3 + 1)
noncomputable def fX10_tallest_55 (k9 : hy_S → Int32 → Int32 → Int32 → Option (hy_S × Int32)) (σ : hy_S) (s0 : Int32) (x1 : Int32) (x2 : Int32) (x3 : Int32) : Option (hy_S × Int32) := hy_bd (fX10_throwsIf σ s0 1) (fun σ1 v2 => (if v2 = 0 then hy_pa σ1 13 12 x2 x3 (fun σ5 => fX10_tallest_74 k9 σ5 x1 (x2 + 1) x3) else some (σ1, 0)))
noncomputable def fX10_tallest_9 : Nat → hy_S → Int32 → Int32 → Int32 → Option (hy_S × Int32)
  | 0, _, _, _, _ => none
  | n + 1, σ, x1, x2, x3 => (if 20 ≤ x3 then fX10_tallest_80 σ x2 else (if (σ.2 2) ≤ x3 then fX10_tallest_80 σ x2 else (if ((x1 >>> (x3 &&& 31)) &&& 1) = 0 then fX10_tallest_74 (fX10_tallest_9 n) σ x1 x2 x3 else hy_ga σ 7 60 x3 (fun v4 => (if v4 = 0 then (if x2 = 12 then fX10_tallest_55 (fX10_tallest_9 n) σ 1 x1 x2 x3 else fX10_tallest_55 (fX10_tallest_9 n) σ 0 x1 x2 x3) else fX10_tallest_74 (fX10_tallest_9 n) σ x1 x2 x3)))))
noncomputable def fX10_tallest (σ : hy_S) (x1 : Int32) : Option (hy_S × Int32) := hy_pf σ 0 0 (fun σ1 => fX10_tallest_9 hy_fu σ1 x1 0 0)
set_option maxHeartbeats 4000000 in
set_option maxRecDepth 100000 in
theorem bX10_tallest_262 (hA : ∀ q : Nat, s.heap.size ≤ q → A q) (B : hy_B RX10 cX10_tallest 7 wsX10_tallest G A p s m args c) (hR : 1 ≤ R.frames ∧ 30 ≤ R.locals) {o : hy_S × Int32}  {k92 : hy_S → Int32 → Int32 → Int32 → Option (hy_S × Int32)} (hk92 : ∀ (σ : hy_S) (x2 : Int32) (x3 : Int32) (x4 : Int32) (H : Heap) (locs : List Loc) (ls : Array Slot), k92 σ x2 x3 x4 = some o → hy_w mw G A s σ H locs → lv_has ls 7 [(0, .ref (G.2.2.2.2.1 0)), (2, .int x2), (3, .int x3), (4, .int x4)] → W p l e R s m args below meth c H locs 0 0 Q (F0 m 92 ls [])) (hret : ∀ (σ : hy_S) (v : Int32) (pc : Nat) (H : Heap) (locs : List Loc) (ls : Array Slot), o = (σ, v) → hy_w mw G A s σ H locs → decode cX10_tallest pc = .ok (.ireturn, 1) → W p l e R s m args below meth c H locs 0 0 Q (F0 m pc ls [.int v])) (σ : hy_S) (x2 : Int32) (x3 : Int32) (x4 : Int32) (H : Heap) (locs : List Loc) (ls : Array Slot) (hf : fX10_tallest_262 k92 σ x2 x3 x4 = some o) (w : hy_w mw G A s σ H locs) (hl : lv_has ls 7 [(0, .ref (G.2.2.2.2.1 0)), (2, .int x2), (3, .int x3), (4, .int x4)]) : W p l e R s m args below meth c H locs 0 0 Q (F0 m 262 ls []) := by
  unfold fX10_tallest_262 at hf
  refine lv_iinc (v := (x4 + 1)) (lv' := [(4, .int (x4 + 1)), (0, .ref (G.2.2.2.2.1 0)), (2, .int x2), (3, .int x3)]) B.1.1 B.1.2.1 dX10_tallest_262 hl (k := 3) rfl rfl (by decide) rfl (fun ls hl => ?_)
  refine lv_goto (tgt := 92) B.1.1 B.1.2.1 dX10_tallest_265 (by decide) ?_
  exact hk92 _ _ _ _ _ _ _ hf w (lv_sub hl [1, 2, 3, 0] rfl)
set_option maxHeartbeats 4000000 in
set_option maxRecDepth 100000 in
theorem bX10_tallest_236 (hA : ∀ q : Nat, s.heap.size ≤ q → A q) (B : hy_B RX10 cX10_tallest 7 wsX10_tallest G A p s m args c) (hR : 1 ≤ R.frames ∧ 30 ≤ R.locals) {o : hy_S × Int32}  {k92 : hy_S → Int32 → Int32 → Int32 → Option (hy_S × Int32)} {k160 : hy_S → Int32 → Int32 → Int32 → Int32 → Int32 → Option (hy_S × Int32)} (hk92 : ∀ (σ : hy_S) (x2 : Int32) (x3 : Int32) (x4 : Int32) (H : Heap) (locs : List Loc) (ls : Array Slot), k92 σ x2 x3 x4 = some o → hy_w mw G A s σ H locs → lv_has ls 7 [(0, .ref (G.2.2.2.2.1 0)), (2, .int x2), (3, .int x3), (4, .int x4)] → W p l e R s m args below meth c H locs 0 0 Q (F0 m 92 ls [])) (hk160 : ∀ (σ : hy_S) (x2 : Int32) (x3 : Int32) (x4 : Int32) (x5 : Int32) (x6 : Int32) (H : Heap) (locs : List Loc) (ls : Array Slot), k160 σ x2 x3 x4 x5 x6 = some o → hy_w mw G A s σ H locs → lv_has ls 7 [(0, .ref (G.2.2.2.2.1 0)), (2, .int x2), (3, .int x3), (4, .int x4), (5, .int x5), (6, .int x6)] → W p l e R s m args below meth c H locs 0 0 Q (F0 m 160 ls [])) (hret : ∀ (σ : hy_S) (v : Int32) (pc : Nat) (H : Heap) (locs : List Loc) (ls : Array Slot), o = (σ, v) → hy_w mw G A s σ H locs → decode cX10_tallest pc = .ok (.ireturn, 1) → W p l e R s m args below meth c H locs 0 0 Q (F0 m pc ls [.int v])) (σ : hy_S) (x2 : Int32) (x3 : Int32) (x4 : Int32) (x5 : Int32) (x6 : Int32) (H : Heap) (locs : List Loc) (ls : Array Slot) (hf : fX10_tallest_236 k92 k160 σ x2 x3 x4 x5 x6 = some o) (w : hy_w mw G A s σ H locs) (hl : lv_has ls 7 [(0, .ref (G.2.2.2.2.1 0)), (2, .int x2), (3, .int x3), (4, .int x4), (5, .int x5), (6, .int x6)]) : W p l e R s m args below meth c H locs 0 0 Q (F0 m 236 ls []) := by
  unfold fX10_tallest_236 at hf
  refine lv_iinc (v := (x6 + 1)) (lv' := [(6, .int (x6 + 1)), (0, .ref (G.2.2.2.2.1 0)), (2, .int x2), (3, .int x3), (4, .int x4), (5, .int x5)]) B.1.1 B.1.2.1 dX10_tallest_236 hl (k := 5) rfl rfl (by decide) rfl (fun ls hl => ?_)
  refine lv_goto (tgt := 160) B.1.1 B.1.2.1 dX10_tallest_239 (by decide) ?_
  exact hk160 _ _ _ _ _ _ _ _ _ hf w (lv_sub hl [1, 2, 3, 4, 5, 0] rfl)
set_option maxHeartbeats 4000000 in
set_option maxRecDepth 100000 in
theorem bX10_tallest_160 (hA : ∀ q : Nat, s.heap.size ≤ q → A q) (B : hy_B RX10 cX10_tallest 7 wsX10_tallest G A p s m args c) (hR : 1 ≤ R.frames ∧ 30 ≤ R.locals) {o : hy_S × Int32}  {k92 : hy_S → Int32 → Int32 → Int32 → Option (hy_S × Int32)} (hk92 : ∀ (σ : hy_S) (x2 : Int32) (x3 : Int32) (x4 : Int32) (H : Heap) (locs : List Loc) (ls : Array Slot), k92 σ x2 x3 x4 = some o → hy_w mw G A s σ H locs → lv_has ls 7 [(0, .ref (G.2.2.2.2.1 0)), (2, .int x2), (3, .int x3), (4, .int x4)] → W p l e R s m args below meth c H locs 0 0 Q (F0 m 92 ls [])) (hret : ∀ (σ : hy_S) (v : Int32) (pc : Nat) (H : Heap) (locs : List Loc) (ls : Array Slot), o = (σ, v) → hy_w mw G A s σ H locs → decode cX10_tallest pc = .ok (.ireturn, 1) → W p l e R s m args below meth c H locs 0 0 Q (F0 m pc ls [.int v])) : ∀ (n : Nat) (σ : hy_S) (x2 : Int32) (x3 : Int32) (x4 : Int32) (x5 : Int32) (x6 : Int32) (H : Heap) (locs : List Loc) (ls : Array Slot), fX10_tallest_160 k92 n σ x2 x3 x4 x5 x6 = some o → hy_w mw G A s σ H locs → lv_has ls 7 [(0, .ref (G.2.2.2.2.1 0)), (2, .int x2), (3, .int x3), (4, .int x4), (5, .int x5), (6, .int x6)] → W p l e R s m args below meth c H locs 0 0 Q (F0 m 160 ls []) := by
  intro n
  induction n with
  | zero => intro σ x2 x3 x4 x5 x6 H locs ls hf; cases hf
  | succ n hk160 =>
    intro σ x2 x3 x4 x5 x6 H locs ls hf w hl
    unfold fX10_tallest_160 at hf
    refine lv_iload B.1.1 B.1.2.1 dX10_tallest_160 (lv_at hl 5 rfl) ?_
    refine lv_iload_n B.1.1 B.1.2.1 dX10_tallest_162 rfl (lv_at hl 1 rfl) ?_
    refine lv_icmp_ge (tgt := 242) B.1.1 B.1.2.1 dX10_tallest_163 (by decide) (fun c1 => ?_) (fun c1 => ?_)
    · rw [if_pos c1] at hf
      refine lv_aload_n B.1.1 B.1.2.1 dX10_tallest_242 rfl (lv_at hl 0 rfl) ?_
      refine hy_get (k := 16) (v := .ref (G.2.2.2.2.1 13)) B w (mwq_0 G) rfl in_X10_tallest_X10 (by decide) (by decide +kernel) rfl dX10_tallest_243 ?_
      refine lv_iload B.1.1 B.1.2.1 dX10_tallest_246 (lv_at hl 3 rfl) ?_
      obtain ⟨h4, v2, e3, hf⟩ := hy_ga_some hf
      refine hy_zald B w (mwq_13 G) h4 e3 dX10_tallest_248 ?_
      refine lv_if_eq (tgt := 262) B.1.1 B.1.2.1 dX10_tallest_249 (by decide) (fun c5 => ?_) (fun c5 => ?_)
      · rw [if_pos c5] at hf
        exact bX10_tallest_262 hA B hR hk92 hret _ _ _ _ _ _ _ hf w (lv_sub hl [0, 1, 2, 3] rfl)
      · rw [if_neg c5] at hf
        refine lv_iload_n B.1.1 B.1.2.1 dX10_tallest_252 rfl (lv_at hl 2 rfl) ?_
        refine lv_iload B.1.1 B.1.2.1 dX10_tallest_253 (lv_at hl 3 rfl) ?_
        obtain ⟨σ6, v7, h8, hf⟩ := hy_bd_some hf
        refine hy_cs (As := [.int x4]) (rest := [.int x3]) (o := (σ6, v7)) mw_fix hA B w (fun sz => mJ6_bitCount_0f7a4 l G sz σ x4 _ h8) (va_cwS 1 B.1.2.2.2.2 gX10_tallest_J6_bitCount_0f7a4 rfl rfl rfl (by decide +kernel) ⟨by have := hR.1; show 0 + 1 ≤ _; omega, by have := hR.2; show 8 + (1 + 11) + 0 ≤ _; omega⟩) rfl hl.1 rfl (Nat.le_of_ble_eq_true rfl) dX10_tallest_255 ⟨Nat.zero_le _, Nat.zero_le _⟩ (fun H locs w => ?_)
        refine va_mmax B.1.1 B.1.2.1 (B.1.2.2.1.trans hl.1.symm) B.1.2.2.2.1 (B.1.2.2.2.2 (.methodLink RX10 153 Lib.Math.max.name) (by decide +kernel)) (B.1.2.2.2.2 (.static Lib.Math.max.name) (by decide +kernel)) (B.1.2.2.2.2 (.initialized "java/lang/Math") (by decide +kernel)) (B.1.2.2.2.2 (.code Lib.Math.max.name Lib.Math.max.code 2 (some .int)) (by decide +kernel)) (by have := hR; omega) (by have := hR; show _ ≤ _; simp [Value.category]; omega) (Nat.zero_le _) (Nat.zero_le _) dX10_tallest_258 ?_
        refine lv_istore_n (lv' := [(3, .int (if x3 < v7 then v7 else x3)), (0, .ref (G.2.2.2.2.1 0)), (2, .int x2), (4, .int x4), (5, .int x5), (6, .int x6)]) B.1.1 B.1.2.1 dX10_tallest_261 rfl hl (by decide) rfl (fun ls hl => ?_)
        exact bX10_tallest_262 hA B hR hk92 hret _ _ _ _ _ _ _ hf w (lv_sub hl [1, 2, 0, 3] rfl)
    · rw [if_neg c1] at hf
      refine lv_iload B.1.1 B.1.2.1 dX10_tallest_166 (lv_at hl 3 rfl) ?_
      refine lv_iload B.1.1 B.1.2.1 dX10_tallest_168 (lv_at hl 5 rfl) ?_
      refine lv_ishr B.1.1 B.1.2.1 dX10_tallest_170 ?_
      refine lv_iconst (v := 1) B.1.1 B.1.2.1 dX10_tallest_171 (by decide) ?_
      refine lv_iand B.1.1 B.1.2.1 dX10_tallest_172 ?_
      refine lv_iconst (v := 1) B.1.1 B.1.2.1 dX10_tallest_173 (by decide) ?_
      refine lv_icmp_ne (tgt := 236) B.1.1 B.1.2.1 dX10_tallest_174 (by decide) (fun c11 => ?_) (fun c11 => ?_)
      · rw [if_neg c11] at hf
        exact bX10_tallest_236 hA B hR hk92 hk160 hret _ _ _ _ _ _ _ _ _ hf w (lv_sub hl [0, 1, 2, 3, 4, 5] rfl)
      · rw [if_pos c11] at hf
        refine lv_aload_n B.1.1 B.1.2.1 dX10_tallest_177 rfl (lv_at hl 0 rfl) ?_
        refine hy_get (k := 16) (v := .ref (G.2.2.2.2.1 13)) B w (mwq_0 G) rfl in_X10_tallest_X10 (by decide) (by decide +kernel) rfl dX10_tallest_178 ?_
        refine lv_iload B.1.1 B.1.2.1 dX10_tallest_181 (lv_at hl 3 rfl) ?_
        refine lv_iconst (v := 1) B.1.1 B.1.2.1 dX10_tallest_183 (by decide) ?_
        refine lv_iload B.1.1 B.1.2.1 dX10_tallest_184 (lv_at hl 5 rfl) ?_
        refine lv_ishl B.1.1 B.1.2.1 dX10_tallest_186 ?_
        refine lv_iconst (v := (-1)) B.1.1 B.1.2.1 dX10_tallest_187 (by decide) ?_
        refine lv_ixor B.1.1 B.1.2.1 dX10_tallest_188 ?_
        refine lv_iand B.1.1 B.1.2.1 dX10_tallest_189 ?_
        obtain ⟨h14, v12, e13, hf⟩ := hy_ga_some hf
        refine hy_zald B w (mwq_13 G) h14 e13 dX10_tallest_190 ?_
        refine lv_if_eq (tgt := 236) B.1.1 B.1.2.1 dX10_tallest_191 (by decide) (fun c15 => ?_) (fun c15 => ?_)
        · rw [if_pos c15] at hf
          exact bX10_tallest_236 hA B hR hk92 hk160 hret _ _ _ _ _ _ _ _ _ hf w (lv_sub hl [0, 1, 2, 3, 4, 5] rfl)
        · rw [if_neg c15] at hf
          refine lv_iload B.1.1 B.1.2.1 dX10_tallest_194 (lv_at hl 4 rfl) ?_
          refine lv_aload_n B.1.1 B.1.2.1 dX10_tallest_196 rfl (lv_at hl 0 rfl) ?_
          refine lv_aload_n B.1.1 B.1.2.1 dX10_tallest_197 rfl (lv_at hl 0 rfl) ?_
          refine hy_get (k := 17) (v := .ref (G.2.2.2.2.1 14)) B w (mwq_0 G) rfl in_X10_tallest_X10 (by decide) (by decide +kernel) rfl dX10_tallest_198 ?_
          refine lv_iload B.1.1 B.1.2.1 dX10_tallest_201 (lv_at hl 5 rfl) ?_
          obtain ⟨h18, v16, e17, hf⟩ := hy_ga_some hf
          refine hy_iald B w (mwq_14 G) h18 e17 dX10_tallest_203 ?_
          obtain ⟨σ19, v20, h21, hf⟩ := hy_bd_some hf
          refine hy_cv (As := [.int v16]) (rest := [.int x5]) (o := (σ19, v20)) mw_fix hA B w (fun sz => mX10_weight l G sz σ v16 _ h21) (cwV 1 B.1.2.2.2.2 gX10_tallest_X10_weight rfl rfl rfl (by decide +kernel) ⟨by have := hR.1; show 0 + 1 ≤ _; omega, by have := hR.2; show 8 + (2 + 11) + 0 ≤ _; omega⟩) rfl (mwq_0 G σ) rfl hl.1 rfl (Nat.le_of_ble_eq_true rfl) dX10_tallest_204 ⟨Nat.zero_le _, Nat.zero_le _⟩ (fun H locs w => ?_)
          refine lv_isub B.1.1 B.1.2.1 dX10_tallest_207 ?_
          refine lv_aload_n B.1.1 B.1.2.1 dX10_tallest_208 rfl (lv_at hl 0 rfl) ?_
          refine hy_get (k := 3) (v := .ref (G.2.2.2.2.1 3)) B w (mwq_0 G) rfl in_X10_tallest_X10 (by decide) (by decide +kernel) rfl dX10_tallest_209 ?_
          refine lv_aload_n B.1.1 B.1.2.1 dX10_tallest_212 rfl (lv_at hl 0 rfl) ?_
          refine hy_get (k := 5) (v := .ref (G.2.2.2.2.1 4)) B w (mwq_0 G) rfl in_X10_tallest_X10 (by decide) (by decide +kernel) rfl dX10_tallest_213 ?_
          refine lv_aload_n B.1.1 B.1.2.1 dX10_tallest_216 rfl (lv_at hl 0 rfl) ?_
          refine hy_get (k := 17) (v := .ref (G.2.2.2.2.1 14)) B w (mwq_0 G) rfl in_X10_tallest_X10 (by decide) (by decide +kernel) rfl dX10_tallest_217 ?_
          refine lv_iload B.1.1 B.1.2.1 dX10_tallest_220 (lv_at hl 5 rfl) ?_
          obtain ⟨h24, v22, e23, hf⟩ := hy_ga_some hf
          refine hy_iald B w (mwq_14 G) h24 e23 dX10_tallest_222 ?_
          obtain ⟨h27, v25, e26, hf⟩ := hy_ga_some hf
          refine hy_iald B w (mwq_4 G) h27 e26 dX10_tallest_223 ?_
          obtain ⟨h30, v28, e29, hf⟩ := hy_ga_some hf
          refine hy_iald B w (mwq_3 G) h30 e29 dX10_tallest_224 ?_
          refine lv_icmp_gt (tgt := 236) B.1.1 B.1.2.1 dX10_tallest_225 (by decide) (fun c31 => ?_) (fun c31 => ?_)
          · rw [if_pos c31] at hf
            exact bX10_tallest_236 hA B hR hk92 hk160 hret _ _ _ _ _ _ _ _ _ hf w (lv_sub hl [0, 1, 2, 3, 4, 5] rfl)
          · rw [if_neg c31] at hf
            refine lv_aload_n B.1.1 B.1.2.1 dX10_tallest_228 rfl (lv_at hl 0 rfl) ?_
            refine hy_get (k := 16) (v := .ref (G.2.2.2.2.1 13)) B w (mwq_0 G) rfl in_X10_tallest_X10 (by decide) (by decide +kernel) rfl dX10_tallest_229 ?_
            refine lv_iload B.1.1 B.1.2.1 dX10_tallest_232 (lv_at hl 3 rfl) ?_
            refine lv_iconst (v := 1) B.1.1 B.1.2.1 dX10_tallest_234 (by decide) ?_
            obtain ⟨h34, σ32, e33, hf⟩ := hy_pa_some hf
            refine hy_zast B w (mwq_13 G) (mws_13 G) h34 e33 dX10_tallest_235 (fun H locs w => ?_)
            exact bX10_tallest_236 hA B hR hk92 hk160 hret _ _ _ _ _ _ _ _ _ hf w (lv_sub hl [0, 1, 2, 3, 4, 5] rfl)
set_option maxHeartbeats 4000000 in
set_option maxRecDepth 100000 in
theorem bX10_tallest_140 (hA : ∀ q : Nat, s.heap.size ≤ q → A q) (B : hy_B RX10 cX10_tallest 7 wsX10_tallest G A p s m args c) (hR : 1 ≤ R.frames ∧ 30 ≤ R.locals) {o : hy_S × Int32}  {k92 : hy_S → Int32 → Int32 → Int32 → Option (hy_S × Int32)} {k106 : hy_S → Int32 → Int32 → Int32 → Int32 → Int32 → Option (hy_S × Int32)} (hk92 : ∀ (σ : hy_S) (x2 : Int32) (x3 : Int32) (x4 : Int32) (H : Heap) (locs : List Loc) (ls : Array Slot), k92 σ x2 x3 x4 = some o → hy_w mw G A s σ H locs → lv_has ls 7 [(0, .ref (G.2.2.2.2.1 0)), (2, .int x2), (3, .int x3), (4, .int x4)] → W p l e R s m args below meth c H locs 0 0 Q (F0 m 92 ls [])) (hk106 : ∀ (σ : hy_S) (x2 : Int32) (x3 : Int32) (x4 : Int32) (x5 : Int32) (x6 : Int32) (H : Heap) (locs : List Loc) (ls : Array Slot), k106 σ x2 x3 x4 x5 x6 = some o → hy_w mw G A s σ H locs → lv_has ls 7 [(0, .ref (G.2.2.2.2.1 0)), (2, .int x2), (3, .int x3), (4, .int x4), (5, .int x5), (6, .int x6)] → W p l e R s m args below meth c H locs 0 0 Q (F0 m 106 ls [])) (hret : ∀ (σ : hy_S) (v : Int32) (pc : Nat) (H : Heap) (locs : List Loc) (ls : Array Slot), o = (σ, v) → hy_w mw G A s σ H locs → decode cX10_tallest pc = .ok (.ireturn, 1) → W p l e R s m args below meth c H locs 0 0 Q (F0 m pc ls [.int v])) (σ : hy_S) (s0 : Int32) (s1 : Int32) (x2 : Int32) (x3 : Int32) (x4 : Int32) (x6 : Int32) (H : Heap) (locs : List Loc) (ls : Array Slot) (hf : fX10_tallest_140 k92 k106 σ s0 s1 x2 x3 x4 x6 = some o) (w : hy_w mw G A s σ H locs) (hl : lv_has ls 7 [(0, .ref (G.2.2.2.2.1 0)), (2, .int x2), (3, .int x3), (4, .int x4), (6, .int x6)]) : W p l e R s m args below meth c H locs 0 0 Q (F0 m 140 ls [.int s0, .int s1]) := by
  unfold fX10_tallest_140 at hf
  refine lv_iadd B.1.1 B.1.2.1 dX10_tallest_140 ?_
  refine lv_istore (lv' := [(5, .int (s1 + s0)), (0, .ref (G.2.2.2.2.1 0)), (2, .int x2), (3, .int x3), (4, .int x4), (6, .int x6)]) B.1.1 B.1.2.1 dX10_tallest_141 hl (by decide) rfl (fun ls hl => ?_)
  refine lv_iinc (v := (x6 + 1)) (lv' := [(6, .int (x6 + 1)), (5, .int (s1 + s0)), (0, .ref (G.2.2.2.2.1 0)), (2, .int x2), (3, .int x3), (4, .int x4)]) B.1.1 B.1.2.1 dX10_tallest_143 hl (k := 5) rfl rfl (by decide) rfl (fun ls hl => ?_)
  refine lv_goto (tgt := 106) B.1.1 B.1.2.1 dX10_tallest_146 (by decide) ?_
  exact hk106 _ _ _ _ _ _ _ _ _ hf w (lv_sub hl [2, 3, 4, 5, 1, 0] rfl)
set_option maxHeartbeats 4000000 in
set_option maxRecDepth 100000 in
theorem bX10_tallest_106 (hA : ∀ q : Nat, s.heap.size ≤ q → A q) (B : hy_B RX10 cX10_tallest 7 wsX10_tallest G A p s m args c) (hR : 1 ≤ R.frames ∧ 30 ≤ R.locals) {o : hy_S × Int32}  {k92 : hy_S → Int32 → Int32 → Int32 → Option (hy_S × Int32)} (hk92 : ∀ (σ : hy_S) (x2 : Int32) (x3 : Int32) (x4 : Int32) (H : Heap) (locs : List Loc) (ls : Array Slot), k92 σ x2 x3 x4 = some o → hy_w mw G A s σ H locs → lv_has ls 7 [(0, .ref (G.2.2.2.2.1 0)), (2, .int x2), (3, .int x3), (4, .int x4)] → W p l e R s m args below meth c H locs 0 0 Q (F0 m 92 ls [])) (hret : ∀ (σ : hy_S) (v : Int32) (pc : Nat) (H : Heap) (locs : List Loc) (ls : Array Slot), o = (σ, v) → hy_w mw G A s σ H locs → decode cX10_tallest pc = .ok (.ireturn, 1) → W p l e R s m args below meth c H locs 0 0 Q (F0 m pc ls [.int v])) : ∀ (n : Nat) (σ : hy_S) (x2 : Int32) (x3 : Int32) (x4 : Int32) (x5 : Int32) (x6 : Int32) (H : Heap) (locs : List Loc) (ls : Array Slot), fX10_tallest_106 k92 n σ x2 x3 x4 x5 x6 = some o → hy_w mw G A s σ H locs → lv_has ls 7 [(0, .ref (G.2.2.2.2.1 0)), (2, .int x2), (3, .int x3), (4, .int x4), (5, .int x5), (6, .int x6)] → W p l e R s m args below meth c H locs 0 0 Q (F0 m 106 ls []) := by
  intro n
  induction n with
  | zero => intro σ x2 x3 x4 x5 x6 H locs ls hf; cases hf
  | succ n hk106 =>
    intro σ x2 x3 x4 x5 x6 H locs ls hf w hl
    unfold fX10_tallest_106 at hf
    refine lv_iload B.1.1 B.1.2.1 dX10_tallest_106 (lv_at hl 5 rfl) ?_
    refine lv_iload_n B.1.1 B.1.2.1 dX10_tallest_108 rfl (lv_at hl 1 rfl) ?_
    refine lv_icmp_ge (tgt := 149) B.1.1 B.1.2.1 dX10_tallest_109 (by decide) (fun c1 => ?_) (fun c1 => ?_)
    · rw [if_pos c1] at hf
      refine lv_aload_n B.1.1 B.1.2.1 dX10_tallest_149 rfl (lv_at hl 0 rfl) ?_
      refine hy_get (k := 16) (v := .ref (G.2.2.2.2.1 13)) B w (mwq_0 G) rfl in_X10_tallest_X10 (by decide) (by decide +kernel) rfl dX10_tallest_150 ?_
      refine lv_iload B.1.1 B.1.2.1 dX10_tallest_153 (lv_at hl 3 rfl) ?_
      refine lv_iconst (v := 0) B.1.1 B.1.2.1 dX10_tallest_155 (by decide) ?_
      obtain ⟨h4, σ2, e3, hf⟩ := hy_pa_some hf
      refine hy_zast B w (mwq_13 G) (mws_13 G) h4 e3 dX10_tallest_156 (fun H locs w => ?_)
      refine lv_iconst (v := 0) B.1.1 B.1.2.1 dX10_tallest_157 (by decide) ?_
      refine lv_istore (lv' := [(6, .int 0), (0, .ref (G.2.2.2.2.1 0)), (2, .int x2), (3, .int x3), (4, .int x4), (5, .int x5)]) B.1.1 B.1.2.1 dX10_tallest_158 hl (by decide) rfl (fun ls hl => ?_)
      exact bX10_tallest_160 hA B hR hk92 hret _ _ _ _ _ _ _ _ _ _ hf w (lv_sub hl [1, 2, 3, 4, 5, 0] rfl)
    · rw [if_neg c1] at hf
      refine lv_iload B.1.1 B.1.2.1 dX10_tallest_112 (lv_at hl 4 rfl) ?_
      refine lv_iload B.1.1 B.1.2.1 dX10_tallest_114 (lv_at hl 3 rfl) ?_
      refine lv_iload B.1.1 B.1.2.1 dX10_tallest_116 (lv_at hl 5 rfl) ?_
      refine lv_ishr B.1.1 B.1.2.1 dX10_tallest_118 ?_
      refine lv_iconst (v := 1) B.1.1 B.1.2.1 dX10_tallest_119 (by decide) ?_
      refine lv_iand B.1.1 B.1.2.1 dX10_tallest_120 ?_
      refine lv_iconst (v := 1) B.1.1 B.1.2.1 dX10_tallest_121 (by decide) ?_
      refine lv_icmp_ne (tgt := 139) B.1.1 B.1.2.1 dX10_tallest_122 (by decide) (fun c5 => ?_) (fun c5 => ?_)
      · rw [if_neg c5] at hf
        refine lv_iconst (v := 0) B.1.1 B.1.2.1 dX10_tallest_139 (by decide) ?_
        exact bX10_tallest_140 hA B hR hk92 hk106 hret _ _ _ _ _ _ _ _ _ _ hf w (lv_sub hl [0, 1, 2, 3, 5] rfl)
      · rw [if_pos c5] at hf
        refine lv_aload_n B.1.1 B.1.2.1 dX10_tallest_125 rfl (lv_at hl 0 rfl) ?_
        refine lv_aload_n B.1.1 B.1.2.1 dX10_tallest_126 rfl (lv_at hl 0 rfl) ?_
        refine hy_get (k := 17) (v := .ref (G.2.2.2.2.1 14)) B w (mwq_0 G) rfl in_X10_tallest_X10 (by decide) (by decide +kernel) rfl dX10_tallest_127 ?_
        refine lv_iload B.1.1 B.1.2.1 dX10_tallest_130 (lv_at hl 5 rfl) ?_
        obtain ⟨h8, v6, e7, hf⟩ := hy_ga_some hf
        refine hy_iald B w (mwq_14 G) h8 e7 dX10_tallest_132 ?_
        obtain ⟨σ9, v10, h11, hf⟩ := hy_bd_some hf
        refine hy_cv (As := [.int v6]) (rest := [.int x5]) (o := (σ9, v10)) mw_fix hA B w (fun sz => mX10_weight l G sz σ v6 _ h11) (cwV 1 B.1.2.2.2.2 gX10_tallest_X10_weight rfl rfl rfl (by decide +kernel) ⟨by have := hR.1; show 0 + 1 ≤ _; omega, by have := hR.2; show 8 + (2 + 11) + 0 ≤ _; omega⟩) rfl (mwq_0 G σ) rfl hl.1 rfl (Nat.le_of_ble_eq_true rfl) dX10_tallest_133 ⟨Nat.zero_le _, Nat.zero_le _⟩ (fun H locs w => ?_)
        refine lv_goto (tgt := 140) B.1.1 B.1.2.1 dX10_tallest_136 (by decide) ?_
        exact bX10_tallest_140 hA B hR hk92 hk106 hret _ _ _ _ _ _ _ _ _ _ hf w (lv_sub hl [0, 1, 2, 3, 5] rfl)
set_option maxHeartbeats 4000000 in
set_option maxRecDepth 100000 in
theorem bX10_tallest_92 (hA : ∀ q : Nat, s.heap.size ≤ q → A q) (B : hy_B RX10 cX10_tallest 7 wsX10_tallest G A p s m args c) (hR : 1 ≤ R.frames ∧ 30 ≤ R.locals) {o : hy_S × Int32}  (hret : ∀ (σ : hy_S) (v : Int32) (pc : Nat) (H : Heap) (locs : List Loc) (ls : Array Slot), o = (σ, v) → hy_w mw G A s σ H locs → decode cX10_tallest pc = .ok (.ireturn, 1) → W p l e R s m args below meth c H locs 0 0 Q (F0 m pc ls [.int v])) : ∀ (n : Nat) (σ : hy_S) (x2 : Int32) (x3 : Int32) (x4 : Int32) (H : Heap) (locs : List Loc) (ls : Array Slot), fX10_tallest_92 n σ x2 x3 x4 = some o → hy_w mw G A s σ H locs → lv_has ls 7 [(0, .ref (G.2.2.2.2.1 0)), (2, .int x2), (3, .int x3), (4, .int x4)] → W p l e R s m args below meth c H locs 0 0 Q (F0 m 92 ls []) := by
  intro n
  induction n with
  | zero => intro σ x2 x3 x4 H locs ls hf; cases hf
  | succ n hk92 =>
    intro σ x2 x3 x4 H locs ls hf w hl
    unfold fX10_tallest_92 at hf
    refine lv_iload B.1.1 B.1.2.1 dX10_tallest_92 (lv_at hl 3 rfl) ?_
    refine lv_iconst (v := 1) B.1.1 B.1.2.1 dX10_tallest_94 (by decide) ?_
    refine lv_iload_n B.1.1 B.1.2.1 dX10_tallest_95 rfl (lv_at hl 1 rfl) ?_
    refine lv_ishl B.1.1 B.1.2.1 dX10_tallest_96 ?_
    refine lv_icmp_ge (tgt := 268) B.1.1 B.1.2.1 dX10_tallest_97 (by decide) (fun c1 => ?_) (fun c1 => ?_)
    · rw [if_pos c1] at hf
      refine lv_iload_n B.1.1 B.1.2.1 dX10_tallest_268 rfl (lv_at hl 2 rfl) ?_
      exact hret _ _ _ _ _ _ (Option.some.inj hf).symm w dX10_tallest_269
    · rw [if_neg c1] at hf
      refine lv_iconst (v := 0) B.1.1 B.1.2.1 dX10_tallest_100 (by decide) ?_
      refine lv_istore (lv' := [(5, .int 0), (0, .ref (G.2.2.2.2.1 0)), (2, .int x2), (3, .int x3), (4, .int x4)]) B.1.1 B.1.2.1 dX10_tallest_101 hl (by decide) rfl (fun ls hl => ?_)
      refine lv_iconst (v := 0) B.1.1 B.1.2.1 dX10_tallest_103 (by decide) ?_
      refine lv_istore (lv' := [(6, .int 0), (5, .int 0), (0, .ref (G.2.2.2.2.1 0)), (2, .int x2), (3, .int x3), (4, .int x4)]) B.1.1 B.1.2.1 dX10_tallest_104 hl (by decide) rfl (fun ls hl => ?_)
      exact bX10_tallest_106 hA B hR hk92 hret _ _ _ _ _ _ _ _ _ _ hf w (lv_sub hl [2, 3, 4, 5, 1, 0] rfl)
set_option maxHeartbeats 4000000 in
set_option maxRecDepth 100000 in
theorem bX10_tallest_80 (hA : ∀ q : Nat, s.heap.size ≤ q → A q) (B : hy_B RX10 cX10_tallest 7 wsX10_tallest G A p s m args c) (hR : 1 ≤ R.frames ∧ 30 ≤ R.locals) {o : hy_S × Int32}  (hret : ∀ (σ : hy_S) (v : Int32) (pc : Nat) (H : Heap) (locs : List Loc) (ls : Array Slot), o = (σ, v) → hy_w mw G A s σ H locs → decode cX10_tallest pc = .ok (.ireturn, 1) → W p l e R s m args below meth c H locs 0 0 Q (F0 m pc ls [.int v])) (σ : hy_S) (x2 : Int32) (H : Heap) (locs : List Loc) (ls : Array Slot) (hf : fX10_tallest_80 σ x2 = some o) (w : hy_w mw G A s σ H locs) (hl : lv_has ls 7 [(0, .ref (G.2.2.2.2.1 0)), (2, .int x2)]) : W p l e R s m args below meth c H locs 0 0 Q (F0 m 80 ls []) := by
  unfold fX10_tallest_80 at hf
  refine lv_iconst (v := 0) B.1.1 B.1.2.1 dX10_tallest_80 (by decide) ?_
  refine lv_istore_n (lv' := [(3, .int 0), (0, .ref (G.2.2.2.2.1 0)), (2, .int x2)]) B.1.1 B.1.2.1 dX10_tallest_81 rfl hl (by decide) rfl (fun ls hl => ?_)
  refine lv_aload_n B.1.1 B.1.2.1 dX10_tallest_82 rfl (lv_at hl 1 rfl) ?_
  refine hy_get (k := 16) (v := .ref (G.2.2.2.2.1 13)) B w (mwq_0 G) rfl in_X10_tallest_X10 (by decide) (by decide +kernel) rfl dX10_tallest_83 ?_
  refine lv_iconst (v := 0) B.1.1 B.1.2.1 dX10_tallest_86 (by decide) ?_
  refine lv_iconst (v := 1) B.1.1 B.1.2.1 dX10_tallest_87 (by decide) ?_
  obtain ⟨h3, σ1, e2, hf⟩ := hy_pa_some hf
  refine hy_zast B w (mwq_13 G) (mws_13 G) h3 e2 dX10_tallest_88 (fun H locs w => ?_)
  refine lv_iconst (v := 1) B.1.1 B.1.2.1 dX10_tallest_89 (by decide) ?_
  refine lv_istore (lv' := [(4, .int 1), (3, .int 0), (0, .ref (G.2.2.2.2.1 0)), (2, .int x2)]) B.1.1 B.1.2.1 dX10_tallest_90 hl (by decide) rfl (fun ls hl => ?_)
  exact bX10_tallest_92 hA B hR  hret _ _ _ _ _ _ _ _ hf w (lv_sub hl [2, 3, 1, 0] rfl)
set_option maxHeartbeats 4000000 in
set_option maxRecDepth 100000 in
theorem bX10_tallest_74 (hA : ∀ q : Nat, s.heap.size ≤ q → A q) (B : hy_B RX10 cX10_tallest 7 wsX10_tallest G A p s m args c) (hR : 1 ≤ R.frames ∧ 30 ≤ R.locals) {o : hy_S × Int32}  {k9 : hy_S → Int32 → Int32 → Int32 → Option (hy_S × Int32)} (hk9 : ∀ (σ : hy_S) (x1 : Int32) (x2 : Int32) (x3 : Int32) (H : Heap) (locs : List Loc) (ls : Array Slot), k9 σ x1 x2 x3 = some o → hy_w mw G A s σ H locs → lv_has ls 7 [(0, .ref (G.2.2.2.2.1 0)), (1, .int x1), (2, .int x2), (3, .int x3)] → W p l e R s m args below meth c H locs 0 0 Q (F0 m 9 ls [])) (hret : ∀ (σ : hy_S) (v : Int32) (pc : Nat) (H : Heap) (locs : List Loc) (ls : Array Slot), o = (σ, v) → hy_w mw G A s σ H locs → decode cX10_tallest pc = .ok (.ireturn, 1) → W p l e R s m args below meth c H locs 0 0 Q (F0 m pc ls [.int v])) (σ : hy_S) (x1 : Int32) (x2 : Int32) (x3 : Int32) (H : Heap) (locs : List Loc) (ls : Array Slot) (hf : fX10_tallest_74 k9 σ x1 x2 x3 = some o) (w : hy_w mw G A s σ H locs) (hl : lv_has ls 7 [(0, .ref (G.2.2.2.2.1 0)), (1, .int x1), (2, .int x2), (3, .int x3)]) : W p l e R s m args below meth c H locs 0 0 Q (F0 m 74 ls []) := by
  unfold fX10_tallest_74 at hf
  refine lv_iinc (v := (x3 + 1)) (lv' := [(3, .int (x3 + 1)), (0, .ref (G.2.2.2.2.1 0)), (1, .int x1), (2, .int x2)]) B.1.1 B.1.2.1 dX10_tallest_74 hl (k := 3) rfl rfl (by decide) rfl (fun ls hl => ?_)
  refine lv_goto (tgt := 9) B.1.1 B.1.2.1 dX10_tallest_77 (by decide) ?_
  exact hk9 _ _ _ _ _ _ _ hf w (lv_sub hl [1, 2, 3, 0] rfl)
set_option maxHeartbeats 4000000 in
set_option maxRecDepth 100000 in
theorem bX10_tallest_55 (hA : ∀ q : Nat, s.heap.size ≤ q → A q) (B : hy_B RX10 cX10_tallest 7 wsX10_tallest G A p s m args c) (hR : 1 ≤ R.frames ∧ 30 ≤ R.locals) {o : hy_S × Int32}  {k9 : hy_S → Int32 → Int32 → Int32 → Option (hy_S × Int32)} (hk9 : ∀ (σ : hy_S) (x1 : Int32) (x2 : Int32) (x3 : Int32) (H : Heap) (locs : List Loc) (ls : Array Slot), k9 σ x1 x2 x3 = some o → hy_w mw G A s σ H locs → lv_has ls 7 [(0, .ref (G.2.2.2.2.1 0)), (1, .int x1), (2, .int x2), (3, .int x3)] → W p l e R s m args below meth c H locs 0 0 Q (F0 m 9 ls [])) (hret : ∀ (σ : hy_S) (v : Int32) (pc : Nat) (H : Heap) (locs : List Loc) (ls : Array Slot), o = (σ, v) → hy_w mw G A s σ H locs → decode cX10_tallest pc = .ok (.ireturn, 1) → W p l e R s m args below meth c H locs 0 0 Q (F0 m pc ls [.int v])) (σ : hy_S) (s0 : Int32) (x1 : Int32) (x2 : Int32) (x3 : Int32) (H : Heap) (locs : List Loc) (ls : Array Slot) (hf : fX10_tallest_55 k9 σ s0 x1 x2 x3 = some o) (w : hy_w mw G A s σ H locs) (hl : lv_has ls 7 [(0, .ref (G.2.2.2.2.1 0)), (1, .int x1), (2, .int x2), (3, .int x3)]) : W p l e R s m args below meth c H locs 0 0 Q (F0 m 55 ls [.int s0, .ref (G.2.2.2.2.1 0)]) := by
  unfold fX10_tallest_55 at hf
  refine lv_iconst (v := 1) B.1.1 B.1.2.1 dX10_tallest_55 (by decide) ?_
  obtain ⟨σ1, v2, h3, hf⟩ := hy_bd_some hf
  refine hy_cv (As := [.int s0, .int 1]) (rest := []) (o := (σ1, v2)) mw_fix hA B w (fun sz => mX10_throwsIf l G sz σ s0 1 _ h3) (cwV 2 B.1.2.2.2.2 gX10_tallest_X10_throwsIf rfl rfl rfl (by decide +kernel) ⟨by have := hR.1; show 0 + 1 ≤ _; omega, by have := hR.2; show 8 + (3 + 11) + 0 ≤ _; omega⟩) rfl (mwq_0 G σ) rfl hl.1 rfl (Nat.le_of_ble_eq_true rfl) dX10_tallest_56 ⟨Nat.zero_le _, Nat.zero_le _⟩ (fun H locs w => ?_)
  refine lv_if_eq (tgt := 64) B.1.1 B.1.2.1 dX10_tallest_59 (by decide) (fun c4 => ?_) (fun c4 => ?_)
  · rw [if_pos c4] at hf
    refine lv_aload_n B.1.1 B.1.2.1 dX10_tallest_64 rfl (lv_at hl 0 rfl) ?_
    refine hy_get (k := 17) (v := .ref (G.2.2.2.2.1 14)) B w (mwq_0 G) rfl in_X10_tallest_X10 (by decide) (by decide +kernel) rfl dX10_tallest_65 ?_
    refine lv_iload_n B.1.1 B.1.2.1 dX10_tallest_68 rfl (lv_at hl 2 rfl) ?_
    refine lv_iload_n B.1.1 B.1.2.1 dX10_tallest_69 rfl (lv_at hl 3 rfl) ?_
    obtain ⟨h7, σ5, e6, hf⟩ := hy_pa_some hf
    refine hy_iast B w (mwq_14 G) (mws_14 G) h7 e6 dX10_tallest_70 (fun H locs w => ?_)
    refine lv_iinc (v := (x2 + 1)) (lv' := [(2, .int (x2 + 1)), (0, .ref (G.2.2.2.2.1 0)), (1, .int x1), (3, .int x3)]) B.1.1 B.1.2.1 dX10_tallest_71 hl (k := 2) rfl rfl (by decide) rfl (fun ls hl => ?_)
    exact bX10_tallest_74 hA B hR hk9 hret _ _ _ _ _ _ _ hf w (lv_sub hl [1, 2, 0, 3] rfl)
  · rw [if_neg c4] at hf
    refine lv_iconst (v := 0) B.1.1 B.1.2.1 dX10_tallest_62 (by decide) ?_
    exact hret _ _ _ _ _ _ (Option.some.inj hf).symm w dX10_tallest_63
set_option maxHeartbeats 4000000 in
set_option maxRecDepth 100000 in
theorem bX10_tallest_9 (hA : ∀ q : Nat, s.heap.size ≤ q → A q) (B : hy_B RX10 cX10_tallest 7 wsX10_tallest G A p s m args c) (hR : 1 ≤ R.frames ∧ 30 ≤ R.locals) {o : hy_S × Int32}  (hret : ∀ (σ : hy_S) (v : Int32) (pc : Nat) (H : Heap) (locs : List Loc) (ls : Array Slot), o = (σ, v) → hy_w mw G A s σ H locs → decode cX10_tallest pc = .ok (.ireturn, 1) → W p l e R s m args below meth c H locs 0 0 Q (F0 m pc ls [.int v])) : ∀ (n : Nat) (σ : hy_S) (x1 : Int32) (x2 : Int32) (x3 : Int32) (H : Heap) (locs : List Loc) (ls : Array Slot), fX10_tallest_9 n σ x1 x2 x3 = some o → hy_w mw G A s σ H locs → lv_has ls 7 [(0, .ref (G.2.2.2.2.1 0)), (1, .int x1), (2, .int x2), (3, .int x3)] → W p l e R s m args below meth c H locs 0 0 Q (F0 m 9 ls []) := by
  intro n
  induction n with
  | zero => intro σ x1 x2 x3 H locs ls hf; cases hf
  | succ n hk9 =>
    intro σ x1 x2 x3 H locs ls hf w hl
    unfold fX10_tallest_9 at hf
    refine lv_iload_n B.1.1 B.1.2.1 dX10_tallest_9 rfl (lv_at hl 3 rfl) ?_
    refine lv_bipush (v := 20) B.1.1 B.1.2.1 dX10_tallest_10 (by decide) ?_
    refine lv_icmp_ge (tgt := 80) B.1.1 B.1.2.1 dX10_tallest_12 (by decide) (fun c1 => ?_) (fun c1 => ?_)
    · rw [if_pos c1] at hf
      exact bX10_tallest_80 hA B hR  hret _ _ _ _ _ hf w (lv_sub hl [0, 2] rfl)
    · rw [if_neg c1] at hf
      refine lv_iload_n B.1.1 B.1.2.1 dX10_tallest_15 rfl (lv_at hl 3 rfl) ?_
      refine lv_aload_n B.1.1 B.1.2.1 dX10_tallest_16 rfl (lv_at hl 0 rfl) ?_
      refine hy_get (k := 11) (v := .int (σ.2 2)) B w (mwq_0 G) rfl in_X10_tallest_X10 (by decide) (by decide +kernel) rfl dX10_tallest_17 ?_
      refine lv_icmp_ge (tgt := 80) B.1.1 B.1.2.1 dX10_tallest_20 (by decide) (fun c2 => ?_) (fun c2 => ?_)
      · rw [if_pos c2] at hf
        exact bX10_tallest_80 hA B hR  hret _ _ _ _ _ hf w (lv_sub hl [0, 2] rfl)
      · rw [if_neg c2] at hf
        refine lv_iload_n B.1.1 B.1.2.1 dX10_tallest_23 rfl (lv_at hl 1 rfl) ?_
        refine lv_iload_n B.1.1 B.1.2.1 dX10_tallest_24 rfl (lv_at hl 3 rfl) ?_
        refine lv_ishr B.1.1 B.1.2.1 dX10_tallest_25 ?_
        refine lv_iconst (v := 1) B.1.1 B.1.2.1 dX10_tallest_26 (by decide) ?_
        refine lv_iand B.1.1 B.1.2.1 dX10_tallest_27 ?_
        refine lv_if_eq (tgt := 74) B.1.1 B.1.2.1 dX10_tallest_28 (by decide) (fun c3 => ?_) (fun c3 => ?_)
        · rw [if_pos c3] at hf
          exact bX10_tallest_74 hA B hR hk9 hret _ _ _ _ _ _ _ hf w (lv_sub hl [0, 1, 2, 3] rfl)
        · rw [if_neg c3] at hf
          refine lv_aload_n B.1.1 B.1.2.1 dX10_tallest_31 rfl (lv_at hl 0 rfl) ?_
          refine hy_get (k := 9) (v := .ref (G.2.2.2.2.1 8)) B w (mwq_0 G) rfl in_X10_tallest_X10 (by decide) (by decide +kernel) rfl dX10_tallest_32 ?_
          refine lv_iload_n B.1.1 B.1.2.1 dX10_tallest_35 rfl (lv_at hl 3 rfl) ?_
          obtain ⟨h6, v4, e5, hf⟩ := hy_ga_some hf
          refine hy_iald B w (mwq_8 G) h6 e5 dX10_tallest_36 ?_
          refine lv_if_eq (tgt := 43) B.1.1 B.1.2.1 dX10_tallest_37 (by decide) (fun c7 => ?_) (fun c7 => ?_)
          · rw [if_pos c7] at hf
            refine lv_aload_n B.1.1 B.1.2.1 dX10_tallest_43 rfl (lv_at hl 0 rfl) ?_
            refine lv_iload_n B.1.1 B.1.2.1 dX10_tallest_44 rfl (lv_at hl 2 rfl) ?_
            refine lv_bipush (v := 12) B.1.1 B.1.2.1 dX10_tallest_45 (by decide) ?_
            refine lv_icmp_ne (tgt := 54) B.1.1 B.1.2.1 dX10_tallest_47 (by decide) (fun c8 => ?_) (fun c8 => ?_)
            · rw [if_neg c8] at hf
              refine lv_iconst (v := 0) B.1.1 B.1.2.1 dX10_tallest_54 (by decide) ?_
              exact bX10_tallest_55 hA B hR hk9 hret _ _ _ _ _ _ _ _ hf w (lv_sub hl [0, 1, 2, 3] rfl)
            · rw [if_pos c8] at hf
              refine lv_iconst (v := 1) B.1.1 B.1.2.1 dX10_tallest_50 (by decide) ?_
              refine lv_goto (tgt := 55) B.1.1 B.1.2.1 dX10_tallest_51 (by decide) ?_
              exact bX10_tallest_55 hA B hR hk9 hret _ _ _ _ _ _ _ _ hf w (lv_sub hl [0, 1, 2, 3] rfl)
          · rw [if_neg c7] at hf
            refine lv_goto (tgt := 74) B.1.1 B.1.2.1 dX10_tallest_40 (by decide) ?_
            exact bX10_tallest_74 hA B hR hk9 hret _ _ _ _ _ _ _ hf w (lv_sub hl [0, 1, 2, 3] rfl)
set_option maxHeartbeats 4000000 in
set_option maxRecDepth 100000 in
theorem bX10_tallest_0 (hA : ∀ q : Nat, s.heap.size ≤ q → A q) (B : hy_B RX10 cX10_tallest 7 wsX10_tallest G A p s m args c) (hR : 1 ≤ R.frames ∧ 30 ≤ R.locals) {o : hy_S × Int32}  (hret : ∀ (σ : hy_S) (v : Int32) (pc : Nat) (H : Heap) (locs : List Loc) (ls : Array Slot), o = (σ, v) → hy_w mw G A s σ H locs → decode cX10_tallest pc = .ok (.ireturn, 1) → W p l e R s m args below meth c H locs 0 0 Q (F0 m pc ls [.int v])) (σ : hy_S) (x1 : Int32) (H : Heap) (locs : List Loc) (ls : Array Slot) (hf : fX10_tallest σ x1 = some o) (w : hy_w mw G A s σ H locs) (hl : lv_has ls 7 [(0, .ref (G.2.2.2.2.1 0)), (1, .int x1)]) : W p l e R s m args below meth c H locs 0 0 Q (F0 m 0 ls []) := by
  unfold fX10_tallest at hf
  refine lv_aload_n B.1.1 B.1.2.1 dX10_tallest_0 rfl (lv_at hl 0 rfl) ?_
  refine lv_iconst (v := 0) B.1.1 B.1.2.1 dX10_tallest_1 (by decide) ?_
  obtain ⟨σ1, e2, hf⟩ := hy_pf_some hf
  refine hy_put (k := 0) B w (mwq_0 G) rfl in_X10_tallest_X10 tyX10 tyX10_ok nmX10 (by decide) (by decide +kernel) rfl rfl (by show 0 < 43; decide) (mwp_0 G) e2 dX10_tallest_2 (fun H locs w => ?_)
  refine lv_iconst (v := 0) B.1.1 B.1.2.1 dX10_tallest_5 (by decide) ?_
  refine lv_istore_n (lv' := [(2, .int 0), (0, .ref (G.2.2.2.2.1 0)), (1, .int x1)]) B.1.1 B.1.2.1 dX10_tallest_6 rfl hl (by decide) rfl (fun ls hl => ?_)
  refine lv_iconst (v := 0) B.1.1 B.1.2.1 dX10_tallest_7 (by decide) ?_
  refine lv_istore_n (lv' := [(3, .int 0), (2, .int 0), (0, .ref (G.2.2.2.2.1 0)), (1, .int x1)]) B.1.1 B.1.2.1 dX10_tallest_8 rfl hl (by decide) rfl (fun ls hl => ?_)
  exact bX10_tallest_9 hA B hR  hret _ _ _ _ _ _ _ _ hf w (lv_sub hl [2, 3, 1, 0] rfl)
set_option maxHeartbeats 4000000 in
set_option maxRecDepth 100000 in
theorem mX10_tallest (l : Launch) (G : hy_G) (sz : Nat) (σ : hy_S) (x1 : Int32) (o : hy_S × Int32) (hf : fX10_tallest σ x1 = some o) : hy_M l yX10_tallest wsX10_tallest ({ frames := 1, cells := 0, slots := 0, locals := 30 }) mw G σ sz [.ref (G.2.2.2.2.1 0), .int x1] o := by
  refine Met.ofW (cc := cX10_tallest) (maxL := 7) (ret := (some .int)) (by decide +kernel) rfl ?_
  intro p e s m args below meth c s₁ B hml hv
  obtain ⟨rfl, hsz, hP, hK, hD0, hN⟩ := hv
  have hx := B.exec
  have hb := B.bytes
  have hr := B.returns
  have hts := atoms_spec (ws := wsX10_tallest) B.pre
  have hown : s.vm.findClass RX10 = some m.cls := findClass_of_methodNamed B.named
  have hlocks := B.notSynchronized
  subst hsz
  have hD := hD0.self (sz := s.heap.size)
  have hA : ∀ q : Nat, s.heap.size ≤ q → va_A (mw G σ) s.heap.size q := fun q h => Or.inr h
  have hS : va_S (va_A (mw G σ) s.heap.size) s.heap s.heap [] := va_S.rf
  have hl := lv_entry ([.ref (G.2.2.2.2.1 0), .int x1]) (n := 7) (Nat.le_of_ble_eq_true rfl)
  rw [lg_entry_eq]
  generalize (lg_sl ([.ref (G.2.2.2.2.1 0), .int x1]) ++ List.replicate (7 - (lg_sl ([.ref (G.2.2.2.2.1 0), .int x1])).length) Slot.unset).toArray = ls at hl ⊢
  have hl : lv_has ls 7 [(0, .ref (G.2.2.2.2.1 0)), (1, .int x1)] := hl
  refine bX10_tallest_0 (A := va_A (mw G σ) s.heap.size) hA ⟨⟨hx, hb, hml, hown, hts⟩, hK, hN⟩ ⟨Nat.le_of_ble_eq_true rfl, Nat.le_of_ble_eq_true rfl⟩ (o := o) (fun τ v pc H locs ls ho w d => ?_) σ x1 _ _ _ hf ⟨hP, hD, hS⟩ hl
  exact W.iret hx hb hr (fun t ht hW => ⟨⟨v, τ, rfl, ⟨by rw [ho], by rw [ho]⟩, by have h9 := w.1; rw [← ht] at h9; exact h9⟩, w.2.2.F ht⟩) w.2.2.2.2 d
end HM5
