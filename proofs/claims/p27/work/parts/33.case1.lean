set_option maxHeartbeats 1000000 in
theorem hz_land {p : Program} {l : Launch} {e : Env} {s : State} {m : MethodId} {below : List Frame} {meth : Method} {c : Code} {H : Heap} {locs : List Loc} {cells slots : Nat} {Q : State → Prop} {ls : Array Slot} {G : hy_G} {b L oa i : Nat} {xs : Nat → Int32} {σ μ : hy_S} {f : Nat → Int64} (C : hz_C p s m c b L xs G) (hlt : l.stackTraces = false) (hi : i + 6 ≤ L) (hcl : cells + 1 ≤ 1106 ∧ slots + 6 ≤ 16273) (w : hz_w G oa s σ f μ H locs) (hl : lv_has ls 7 (hz_lv b G oa i)) {o : hy_O} {o2 : hy_S × Int32} (hf : fX9_land σ (xs (i + 1)) (xs (i + 2)) = some o) (hg : fX10_land μ (xs (i + 1)) (xs (i + 2)) = some o2) (ho : o.2.2 = 0 ∨ o.2.2 = 1) (kk : ∀ (f2 : Nat → Int64) (H1 : Heap) (locs1 : List Loc) (ls1 : Array Slot), hz_w G oa s o.1 f2 o2.1 H1 locs1 → lv_has ls1 7 (hz_lv b G oa i) → W p l e room_1 s m #[Value.ref b] below meth c H1 locs1 (cells + 1) (slots + 6) Q (F0 m 1307 ls1 [])) : W p l e room_1 s m #[Value.ref b] below meth c H locs cells slots Q (F0 m 478 ls []) := by
  have hcl : cells + 1 ≤ room_1.cells ∧ slots + 6 ≤ room_1.slots := hcl
  have hts := C.1.1.2.2.2.2
  refine lv_aload_n C.1.1.1 C.1.1.2.1 dL_law_478 rfl (lv_at hl 1 rfl) ?_
  refine hz_ld C hl w.2.2 1 (by omega) (by decide) dL_law_479 dL_law_480 dL_law_482 dL_law_483 dL_law_484 ?_
  refine hz_ld C hl w.2.2 2 (by omega) (by decide) dL_law_485 dL_law_486 dL_law_488 dL_law_489 dL_law_490 ?_
  refine lv_aload_n C.1.1.1 C.1.1.2.1 dL_law_491 rfl (lv_at hl 3 rfl) ?_
  have kk2 : ∀ (f : Nat → Int64) (k : Int32) (H : Heap) (locs : List Loc), hz_w G oa s o.1 f μ H locs → W p l e room_1 s m #[Value.ref b] below meth c H locs (cells + 1) (slots + 6) Q (F0 m 495 ls [.int k]) := by
    intro f k H locs w
    refine lv_istore (lv' := (5, .int k) :: hz_lv b G oa i) C.1.1.1 C.1.1.2.1 dL_law_495 hl (by decide) rfl (fun ls hl5 => ?_)
    have hl := lv_sub (l' := hz_lv b G oa i) hl5 [1, 2, 3, 4, 5] rfl
    refine lv_aload_n C.1.1.1 C.1.1.2.1 dL_law_497 rfl (lv_at hl 2 rfl) ?_
    refine hz_ld C hl w.2.2 1 (by omega) (by decide) dL_law_498 dL_law_499 dL_law_501 dL_law_502 dL_law_503 ?_
    refine hz_ld C hl w.2.2 2 (by omega) (by decide) dL_law_504 dL_law_505 dL_law_507 dL_law_508 dL_law_509 ?_
    refine hz_mc (As := [.int (xs (i + 1)), .int (xs (i + 2))]) (rest := []) C w (fun sz => mX10_land l G sz μ (xs (i + 1)) (xs (i + 2)) o2 hg) (cwV 2 hts gL_law_X10_land rfl rfl rfl (by decide +kernel) ⟨Nat.le_of_ble_eq_true rfl, Nat.le_of_ble_eq_true rfl⟩) rfl rfl hl.1 rfl (Nat.le_of_ble_eq_true rfl) dL_law_510 ⟨by omega, by omega⟩ (fun H locs w => ?_)
    refine lv_istore (lv' := (6, .int o2.2) :: (5, .int k) :: hz_lv b G oa i) C.1.1.1 C.1.1.2.1 dL_law_513 hl5 (by decide) rfl (fun ls hl6 => ?_)
    have hl := lv_sub (l' := hz_lv b G oa i) hl6 [2, 3, 4, 5, 6] rfl
    refine lv_goto (tgt := 1307) C.1.1.1 C.1.1.2.1 dL_law_515 (by decide) ?_
    exact kk f H locs ls w hl
  rcases ho with h0 | h0
  · refine hz_sc (As := [.ref (G.2.2.2.1 0), .int (xs (i + 1)), .int (xs (i + 2)), .ref oa]) (rest := []) C w (fun sz => rL_land l G oa sz σ f (xs (i + 1)) (xs (i + 2)) o hf h0) (vx_cwSW 4 hts gL_law_L_land rfl rfl rfl (by decide +kernel) ⟨Nat.le_of_ble_eq_true rfl, Nat.le_of_ble_eq_true rfl⟩) rfl hl.1 rfl (Nat.le_of_ble_eq_true rfl) dL_law_492 ⟨by omega, by omega⟩ (fun H locs w => ?_)
    exact W.widen (k := cells + 1) (n := slots + 6) (by omega) (by omega) (kk2 _ _ H locs w)
  · refine hz_sc (As := [.ref (G.2.2.2.1 0), .int (xs (i + 1)), .int (xs (i + 2)), .ref oa]) (rest := []) C w (fun sz => qL_land_1 l hlt G oa sz σ f (xs (i + 1)) (xs (i + 2)) o hf h0) (vx_cwSW 4 hts gL_law_L_land rfl rfl rfl (by decide +kernel) ⟨Nat.le_of_ble_eq_true rfl, Nat.le_of_ble_eq_true rfl⟩) rfl hl.1 rfl (Nat.le_of_ble_eq_true rfl) dL_law_492 ⟨by omega, by omega⟩ (fun H locs w => ?_)
    exact kk2 _ _ H locs w
set_option maxHeartbeats 1000000 in
theorem hz_storm {p : Program} {l : Launch} {e : Env} {s : State} {m : MethodId} {below : List Frame} {meth : Method} {c : Code} {H : Heap} {locs : List Loc} {cells slots : Nat} {Q : State → Prop} {ls : Array Slot} {G : hy_G} {b L oa i : Nat} {xs : Nat → Int32} {σ μ : hy_S} {f : Nat → Int64} (C : hz_C p s m c b L xs G) (hlt : l.stackTraces = false) (hi : i + 6 ≤ L) (hcl : cells + 1 ≤ 1106 ∧ slots + 6 ≤ 16273) (w : hz_w G oa s σ f μ H locs) (hl : lv_has ls 7 (hz_lv b G oa i)) {o : hy_O} {o2 : hy_S × Int32} (hf : fX9_storm σ (xs (i + 1)) (xs (i + 2)) = some o) (hg : fX10_storm μ (xs (i + 1)) (xs (i + 2)) = some o2) (ho : o.2.2 = 0 ∨ o.2.2 = 1 ∨ o.2.2 = 2) (kk : ∀ (f2 : Nat → Int64) (H1 : Heap) (locs1 : List Loc) (ls1 : Array Slot), hz_w G oa s o.1 f2 o2.1 H1 locs1 → lv_has ls1 7 (hz_lv b G oa i) → W p l e room_1 s m #[Value.ref b] below meth c H1 locs1 (cells + 1) (slots + 6) Q (F0 m 1307 ls1 [])) : W p l e room_1 s m #[Value.ref b] below meth c H locs cells slots Q (F0 m 518 ls []) := by
  have hcl : cells + 1 ≤ room_1.cells ∧ slots + 6 ≤ room_1.slots := hcl
  have hts := C.1.1.2.2.2.2
  refine lv_aload_n C.1.1.1 C.1.1.2.1 dL_law_518 rfl (lv_at hl 1 rfl) ?_
  refine hz_ld C hl w.2.2 1 (by omega) (by decide) dL_law_519 dL_law_520 dL_law_522 dL_law_523 dL_law_524 ?_
  refine hz_ld C hl w.2.2 2 (by omega) (by decide) dL_law_525 dL_law_526 dL_law_528 dL_law_529 dL_law_530 ?_
  refine lv_aload_n C.1.1.1 C.1.1.2.1 dL_law_531 rfl (lv_at hl 3 rfl) ?_
  have kk2 : ∀ (f : Nat → Int64) (k : Int32) (H : Heap) (locs : List Loc), hz_w G oa s o.1 f μ H locs → W p l e room_1 s m #[Value.ref b] below meth c H locs (cells + 1) (slots + 6) Q (F0 m 535 ls [.int k]) := by
    intro f k H locs w
    refine lv_istore (lv' := (5, .int k) :: hz_lv b G oa i) C.1.1.1 C.1.1.2.1 dL_law_535 hl (by decide) rfl (fun ls hl5 => ?_)
    have hl := lv_sub (l' := hz_lv b G oa i) hl5 [1, 2, 3, 4, 5] rfl
    refine lv_aload_n C.1.1.1 C.1.1.2.1 dL_law_537 rfl (lv_at hl 2 rfl) ?_
    refine hz_ld C hl w.2.2 1 (by omega) (by decide) dL_law_538 dL_law_539 dL_law_541 dL_law_542 dL_law_543 ?_
    refine hz_ld C hl w.2.2 2 (by omega) (by decide) dL_law_544 dL_law_545 dL_law_547 dL_law_548 dL_law_549 ?_
    refine hz_mc (As := [.int (xs (i + 1)), .int (xs (i + 2))]) (rest := []) C w (fun sz => mX10_storm l G sz μ (xs (i + 1)) (xs (i + 2)) o2 hg) (cwV 2 hts gL_law_X10_storm rfl rfl rfl (by decide +kernel) ⟨Nat.le_of_ble_eq_true rfl, Nat.le_of_ble_eq_true rfl⟩) rfl rfl hl.1 rfl (Nat.le_of_ble_eq_true rfl) dL_law_550 ⟨by omega, by omega⟩ (fun H locs w => ?_)
    refine lv_istore (lv' := (6, .int o2.2) :: (5, .int k) :: hz_lv b G oa i) C.1.1.1 C.1.1.2.1 dL_law_553 hl5 (by decide) rfl (fun ls hl6 => ?_)
    have hl := lv_sub (l' := hz_lv b G oa i) hl6 [2, 3, 4, 5, 6] rfl
    refine lv_goto (tgt := 1307) C.1.1.1 C.1.1.2.1 dL_law_555 (by decide) ?_
    exact kk f H locs ls w hl
  rcases ho with h0 | h0 | h0
  · refine hz_sc (As := [.ref (G.2.2.2.1 0), .int (xs (i + 1)), .int (xs (i + 2)), .ref oa]) (rest := []) C w (fun sz => rL_storm l G oa sz σ f (xs (i + 1)) (xs (i + 2)) o hf h0) (vx_cwSW 4 hts gL_law_L_storm rfl rfl rfl (by decide +kernel) ⟨Nat.le_of_ble_eq_true rfl, Nat.le_of_ble_eq_true rfl⟩) rfl hl.1 rfl (Nat.le_of_ble_eq_true rfl) dL_law_532 ⟨by omega, by omega⟩ (fun H locs w => ?_)
    exact W.widen (k := cells + 1) (n := slots + 6) (by omega) (by omega) (kk2 _ _ H locs w)
  · refine hz_sc (As := [.ref (G.2.2.2.1 0), .int (xs (i + 1)), .int (xs (i + 2)), .ref oa]) (rest := []) C w (fun sz => qL_storm_1 l hlt G oa sz σ f (xs (i + 1)) (xs (i + 2)) o hf h0) (vx_cwSW 4 hts gL_law_L_storm rfl rfl rfl (by decide +kernel) ⟨Nat.le_of_ble_eq_true rfl, Nat.le_of_ble_eq_true rfl⟩) rfl hl.1 rfl (Nat.le_of_ble_eq_true rfl) dL_law_532 ⟨by omega, by omega⟩ (fun H locs w => ?_)
    exact kk2 _ _ H locs w
  · refine hz_sc (As := [.ref (G.2.2.2.1 0), .int (xs (i + 1)), .int (xs (i + 2)), .ref oa]) (rest := []) C w (fun sz => qL_storm_2 l hlt G oa sz σ f (xs (i + 1)) (xs (i + 2)) o hf h0) (vx_cwSW 4 hts gL_law_L_storm rfl rfl rfl (by decide +kernel) ⟨Nat.le_of_ble_eq_true rfl, Nat.le_of_ble_eq_true rfl⟩) rfl hl.1 rfl (Nat.le_of_ble_eq_true rfl) dL_law_532 ⟨by omega, by omega⟩ (fun H locs w => ?_)
    exact kk2 _ _ H locs w
set_option maxHeartbeats 1000000 in
theorem hz_look {p : Program} {l : Launch} {e : Env} {s : State} {m : MethodId} {below : List Frame} {meth : Method} {c : Code} {H : Heap} {locs : List Loc} {cells slots : Nat} {Q : State → Prop} {ls : Array Slot} {G : hy_G} {b L oa i : Nat} {xs : Nat → Int32} {σ μ : hy_S} {f : Nat → Int64} (C : hz_C p s m c b L xs G) (hlt : l.stackTraces = false) (hi : i + 6 ≤ L) (hcl : cells + 1 ≤ 1106 ∧ slots + 6 ≤ 16273) (w : hz_w G oa s σ f μ H locs) (hl : lv_has ls 7 (hz_lv b G oa i)) {o : hy_O} {o2 : hy_S × Int32} (hf : fX9_look σ (xs (i + 1)) (xs (i + 2)) = some o) (hg : fX10_look μ (xs (i + 1)) (xs (i + 2)) = some o2) (ho : o.2.2 = 0 ∨ o.2.2 = 1 ∨ o.2.2 = 4) (kk : ∀ (f2 : Nat → Int64) (H1 : Heap) (locs1 : List Loc) (ls1 : Array Slot), hz_w G oa s o.1 f2 o2.1 H1 locs1 → lv_has ls1 7 (hz_lv b G oa i) → W p l e room_1 s m #[Value.ref b] below meth c H1 locs1 (cells + 1) (slots + 6) Q (F0 m 1307 ls1 [])) : W p l e room_1 s m #[Value.ref b] below meth c H locs cells slots Q (F0 m 558 ls []) := by
  have hcl : cells + 1 ≤ room_1.cells ∧ slots + 6 ≤ room_1.slots := hcl
  have hts := C.1.1.2.2.2.2
  refine lv_aload_n C.1.1.1 C.1.1.2.1 dL_law_558 rfl (lv_at hl 1 rfl) ?_
  refine hz_ld C hl w.2.2 1 (by omega) (by decide) dL_law_559 dL_law_560 dL_law_562 dL_law_563 dL_law_564 ?_
  refine hz_ld C hl w.2.2 2 (by omega) (by decide) dL_law_565 dL_law_566 dL_law_568 dL_law_569 dL_law_570 ?_
  refine lv_aload_n C.1.1.1 C.1.1.2.1 dL_law_571 rfl (lv_at hl 3 rfl) ?_
  have kk2 : ∀ (f : Nat → Int64) (k : Int32) (H : Heap) (locs : List Loc), hz_w G oa s o.1 f μ H locs → W p l e room_1 s m #[Value.ref b] below meth c H locs (cells + 1) (slots + 6) Q (F0 m 575 ls [.int k]) := by
    intro f k H locs w
    refine lv_istore (lv' := (5, .int k) :: hz_lv b G oa i) C.1.1.1 C.1.1.2.1 dL_law_575 hl (by decide) rfl (fun ls hl5 => ?_)
    have hl := lv_sub (l' := hz_lv b G oa i) hl5 [1, 2, 3, 4, 5] rfl
    refine lv_aload_n C.1.1.1 C.1.1.2.1 dL_law_577 rfl (lv_at hl 2 rfl) ?_
    refine hz_ld C hl w.2.2 1 (by omega) (by decide) dL_law_578 dL_law_579 dL_law_581 dL_law_582 dL_law_583 ?_
    refine hz_ld C hl w.2.2 2 (by omega) (by decide) dL_law_584 dL_law_585 dL_law_587 dL_law_588 dL_law_589 ?_
    refine hz_mc (As := [.int (xs (i + 1)), .int (xs (i + 2))]) (rest := []) C w (fun sz => mX10_look l G sz μ (xs (i + 1)) (xs (i + 2)) o2 hg) (cwV 2 hts gL_law_X10_look rfl rfl rfl (by decide +kernel) ⟨Nat.le_of_ble_eq_true rfl, Nat.le_of_ble_eq_true rfl⟩) rfl rfl hl.1 rfl (Nat.le_of_ble_eq_true rfl) dL_law_590 ⟨by omega, by omega⟩ (fun H locs w => ?_)
    refine lv_istore (lv' := (6, .int o2.2) :: (5, .int k) :: hz_lv b G oa i) C.1.1.1 C.1.1.2.1 dL_law_593 hl5 (by decide) rfl (fun ls hl6 => ?_)
    have hl := lv_sub (l' := hz_lv b G oa i) hl6 [2, 3, 4, 5, 6] rfl
    refine lv_goto (tgt := 1307) C.1.1.1 C.1.1.2.1 dL_law_595 (by decide) ?_
    exact kk f H locs ls w hl
  rcases ho with h0 | h0 | h0
  · refine hz_sc (As := [.ref (G.2.2.2.1 0), .int (xs (i + 1)), .int (xs (i + 2)), .ref oa]) (rest := []) C w (fun sz => rL_look l G oa sz σ f (xs (i + 1)) (xs (i + 2)) o hf h0) (vx_cwSW 4 hts gL_law_L_look rfl rfl rfl (by decide +kernel) ⟨Nat.le_of_ble_eq_true rfl, Nat.le_of_ble_eq_true rfl⟩) rfl hl.1 rfl (Nat.le_of_ble_eq_true rfl) dL_law_572 ⟨by omega, by omega⟩ (fun H locs w => ?_)
    exact W.widen (k := cells + 1) (n := slots + 6) (by omega) (by omega) (kk2 _ _ H locs w)
  · refine hz_sc (As := [.ref (G.2.2.2.1 0), .int (xs (i + 1)), .int (xs (i + 2)), .ref oa]) (rest := []) C w (fun sz => qL_look_1 l hlt G oa sz σ f (xs (i + 1)) (xs (i + 2)) o hf h0) (vx_cwSW 4 hts gL_law_L_look rfl rfl rfl (by decide +kernel) ⟨Nat.le_of_ble_eq_true rfl, Nat.le_of_ble_eq_true rfl⟩) rfl hl.1 rfl (Nat.le_of_ble_eq_true rfl) dL_law_572 ⟨by omega, by omega⟩ (fun H locs w => ?_)
    exact kk2 _ _ H locs w
  · refine hz_sc (As := [.ref (G.2.2.2.1 0), .int (xs (i + 1)), .int (xs (i + 2)), .ref oa]) (rest := []) C w (fun sz => qL_look_2 l hlt G oa sz σ f (xs (i + 1)) (xs (i + 2)) o hf h0) (vx_cwSW 4 hts gL_law_L_look rfl rfl rfl (by decide +kernel) ⟨Nat.le_of_ble_eq_true rfl, Nat.le_of_ble_eq_true rfl⟩) rfl hl.1 rfl (Nat.le_of_ble_eq_true rfl) dL_law_572 ⟨by omega, by omega⟩ (fun H locs w => ?_)
    exact kk2 _ _ H locs w
set_option maxHeartbeats 1000000 in
theorem hz_stack {p : Program} {l : Launch} {e : Env} {s : State} {m : MethodId} {below : List Frame} {meth : Method} {c : Code} {H : Heap} {locs : List Loc} {cells slots : Nat} {Q : State → Prop} {ls : Array Slot} {G : hy_G} {b L oa i : Nat} {xs : Nat → Int32} {σ μ : hy_S} {f : Nat → Int64} (C : hz_C p s m c b L xs G) (hlt : l.stackTraces = false) (hi : i + 6 ≤ L) (hcl : cells + 1 ≤ 1106 ∧ slots + 6 ≤ 16273) (w : hz_w G oa s σ f μ H locs) (hl : lv_has ls 7 (hz_lv b G oa i)) {o : hy_O} {o2 : hy_S × Int32} (hf : fX9_stack σ (xs (i + 1)) (xs (i + 2)) (xs (i + 3)) = some o) (hg : fX10_stack μ (xs (i + 1)) (xs (i + 2)) (xs (i + 3)) = some o2) (ho : o.2.2 = 0 ∨ o.2.2 = 1) (kk : ∀ (f2 : Nat → Int64) (H1 : Heap) (locs1 : List Loc) (ls1 : Array Slot), hz_w G oa s o.1 f2 o2.1 H1 locs1 → lv_has ls1 7 (hz_lv b G oa i) → W p l e room_1 s m #[Value.ref b] below meth c H1 locs1 (cells + 1) (slots + 6) Q (F0 m 1307 ls1 [])) : W p l e room_1 s m #[Value.ref b] below meth c H locs cells slots Q (F0 m 598 ls []) := by
  have hcl : cells + 1 ≤ room_1.cells ∧ slots + 6 ≤ room_1.slots := hcl
  have hts := C.1.1.2.2.2.2
  refine lv_aload_n C.1.1.1 C.1.1.2.1 dL_law_598 rfl (lv_at hl 1 rfl) ?_
  refine hz_ld C hl w.2.2 1 (by omega) (by decide) dL_law_599 dL_law_600 dL_law_602 dL_law_603 dL_law_604 ?_
  refine hz_ld C hl w.2.2 2 (by omega) (by decide) dL_law_605 dL_law_606 dL_law_608 dL_law_609 dL_law_610 ?_
  refine hz_ld C hl w.2.2 3 (by omega) (by decide) dL_law_611 dL_law_612 dL_law_614 dL_law_615 dL_law_616 ?_
  refine lv_aload_n C.1.1.1 C.1.1.2.1 dL_law_617 rfl (lv_at hl 3 rfl) ?_
  have kk2 : ∀ (f : Nat → Int64) (k : Int32) (H : Heap) (locs : List Loc), hz_w G oa s o.1 f μ H locs → W p l e room_1 s m #[Value.ref b] below meth c H locs (cells + 1) (slots + 6) Q (F0 m 621 ls [.int k]) := by
    intro f k H locs w
    refine lv_istore (lv' := (5, .int k) :: hz_lv b G oa i) C.1.1.1 C.1.1.2.1 dL_law_621 hl (by decide) rfl (fun ls hl5 => ?_)
    have hl := lv_sub (l' := hz_lv b G oa i) hl5 [1, 2, 3, 4, 5] rfl
    refine lv_aload_n C.1.1.1 C.1.1.2.1 dL_law_623 rfl (lv_at hl 2 rfl) ?_
    refine hz_ld C hl w.2.2 1 (by omega) (by decide) dL_law_624 dL_law_625 dL_law_627 dL_law_628 dL_law_629 ?_
    refine hz_ld C hl w.2.2 2 (by omega) (by decide) dL_law_630 dL_law_631 dL_law_633 dL_law_634 dL_law_635 ?_
    refine hz_ld C hl w.2.2 3 (by omega) (by decide) dL_law_636 dL_law_637 dL_law_639 dL_law_640 dL_law_641 ?_
    refine hz_mc (As := [.int (xs (i + 1)), .int (xs (i + 2)), .int (xs (i + 3))]) (rest := []) C w (fun sz => mX10_stack l G sz μ (xs (i + 1)) (xs (i + 2)) (xs (i + 3)) o2 hg) (cwV 3 hts gL_law_X10_stack rfl rfl rfl (by decide +kernel) ⟨Nat.le_of_ble_eq_true rfl, Nat.le_of_ble_eq_true rfl⟩) rfl rfl hl.1 rfl (Nat.le_of_ble_eq_true rfl) dL_law_642 ⟨by omega, by omega⟩ (fun H locs w => ?_)
    refine lv_istore (lv' := (6, .int o2.2) :: (5, .int k) :: hz_lv b G oa i) C.1.1.1 C.1.1.2.1 dL_law_645 hl5 (by decide) rfl (fun ls hl6 => ?_)
    have hl := lv_sub (l' := hz_lv b G oa i) hl6 [2, 3, 4, 5, 6] rfl
    refine lv_goto (tgt := 1307) C.1.1.1 C.1.1.2.1 dL_law_647 (by decide) ?_
    exact kk f H locs ls w hl
  rcases ho with h0 | h0
  · refine hz_sc (As := [.ref (G.2.2.2.1 0), .int (xs (i + 1)), .int (xs (i + 2)), .int (xs (i + 3)), .ref oa]) (rest := []) C w (fun sz => rL_stack l G oa sz σ f (xs (i + 1)) (xs (i + 2)) (xs (i + 3)) o hf h0) (vx_cwSW 5 hts gL_law_L_stack rfl rfl rfl (by decide +kernel) ⟨Nat.le_of_ble_eq_true rfl, Nat.le_of_ble_eq_true rfl⟩) rfl hl.1 rfl (Nat.le_of_ble_eq_true rfl) dL_law_618 ⟨by omega, by omega⟩ (fun H locs w => ?_)
    exact W.widen (k := cells + 1) (n := slots + 6) (by omega) (by omega) (kk2 _ _ H locs w)
  · refine hz_sc (As := [.ref (G.2.2.2.1 0), .int (xs (i + 1)), .int (xs (i + 2)), .int (xs (i + 3)), .ref oa]) (rest := []) C w (fun sz => qL_stack_1 l hlt G oa sz σ f (xs (i + 1)) (xs (i + 2)) (xs (i + 3)) o hf h0) (vx_cwSW 5 hts gL_law_L_stack rfl rfl rfl (by decide +kernel) ⟨Nat.le_of_ble_eq_true rfl, Nat.le_of_ble_eq_true rfl⟩) rfl hl.1 rfl (Nat.le_of_ble_eq_true rfl) dL_law_618 ⟨by omega, by omega⟩ (fun H locs w => ?_)
    exact kk2 _ _ H locs w
set_option maxHeartbeats 1000000 in
theorem hz_tallest {p : Program} {l : Launch} {e : Env} {s : State} {m : MethodId} {below : List Frame} {meth : Method} {c : Code} {H : Heap} {locs : List Loc} {cells slots : Nat} {Q : State → Prop} {ls : Array Slot} {G : hy_G} {b L oa i : Nat} {xs : Nat → Int32} {σ μ : hy_S} {f : Nat → Int64} (C : hz_C p s m c b L xs G) (hlt : l.stackTraces = false) (hi : i + 6 ≤ L) (hcl : cells + 1 ≤ 1106 ∧ slots + 6 ≤ 16273) (w : hz_w G oa s σ f μ H locs) (hl : lv_has ls 7 (hz_lv b G oa i)) {o : hy_O} {o2 : hy_S × Int32} (hf : fX9_tallest σ (xs (i + 1)) = some o) (hg : fX10_tallest μ (xs (i + 1)) = some o2) (ho : o.2.2 = 0 ∨ o.2.2 = 2) (kk : ∀ (f2 : Nat → Int64) (H1 : Heap) (locs1 : List Loc) (ls1 : Array Slot), hz_w G oa s o.1 f2 o2.1 H1 locs1 → lv_has ls1 7 (hz_lv b G oa i) → W p l e room_1 s m #[Value.ref b] below meth c H1 locs1 (cells + 1) (slots + 6) Q (F0 m 1307 ls1 [])) : W p l e room_1 s m #[Value.ref b] below meth c H locs cells slots Q (F0 m 650 ls []) := by
  have hcl : cells + 1 ≤ room_1.cells ∧ slots + 6 ≤ room_1.slots := hcl
  have hts := C.1.1.2.2.2.2
  refine lv_aload_n C.1.1.1 C.1.1.2.1 dL_law_650 rfl (lv_at hl 1 rfl) ?_
  refine hz_ld C hl w.2.2 1 (by omega) (by decide) dL_law_651 dL_law_652 dL_law_654 dL_law_655 dL_law_656 ?_
  refine lv_aload_n C.1.1.1 C.1.1.2.1 dL_law_657 rfl (lv_at hl 3 rfl) ?_
  have kk2 : ∀ (f : Nat → Int64) (k : Int32) (H : Heap) (locs : List Loc), hz_w G oa s o.1 f μ H locs → W p l e room_1 s m #[Value.ref b] below meth c H locs (cells + 1) (slots + 6) Q (F0 m 661 ls [.int k]) := by
    intro f k H locs w
    refine lv_istore (lv' := (5, .int k) :: hz_lv b G oa i) C.1.1.1 C.1.1.2.1 dL_law_661 hl (by decide) rfl (fun ls hl5 => ?_)
    have hl := lv_sub (l' := hz_lv b G oa i) hl5 [1, 2, 3, 4, 5] rfl
    refine lv_aload_n C.1.1.1 C.1.1.2.1 dL_law_663 rfl (lv_at hl 2 rfl) ?_
    refine hz_ld C hl w.2.2 1 (by omega) (by decide) dL_law_664 dL_law_665 dL_law_667 dL_law_668 dL_law_669 ?_
    refine hz_mc (As := [.int (xs (i + 1))]) (rest := []) C w (fun sz => mX10_tallest l G sz μ (xs (i + 1)) o2 hg) (cwV 1 hts gL_law_X10_tallest rfl rfl rfl (by decide +kernel) ⟨Nat.le_of_ble_eq_true rfl, Nat.le_of_ble_eq_true rfl⟩) rfl rfl hl.1 rfl (Nat.le_of_ble_eq_true rfl) dL_law_670 ⟨by omega, by omega⟩ (fun H locs w => ?_)
    refine lv_istore (lv' := (6, .int o2.2) :: (5, .int k) :: hz_lv b G oa i) C.1.1.1 C.1.1.2.1 dL_law_673 hl5 (by decide) rfl (fun ls hl6 => ?_)
    have hl := lv_sub (l' := hz_lv b G oa i) hl6 [2, 3, 4, 5, 6] rfl
    refine lv_goto (tgt := 1307) C.1.1.1 C.1.1.2.1 dL_law_675 (by decide) ?_
    exact kk f H locs ls w hl
  rcases ho with h0 | h0
  · refine hz_sc (As := [.ref (G.2.2.2.1 0), .int (xs (i + 1)), .ref oa]) (rest := []) C w (fun sz => rL_tallest l G oa sz σ f (xs (i + 1)) o hf h0) (vx_cwSW 3 hts gL_law_L_tallest rfl rfl rfl (by decide +kernel) ⟨Nat.le_of_ble_eq_true rfl, Nat.le_of_ble_eq_true rfl⟩) rfl hl.1 rfl (Nat.le_of_ble_eq_true rfl) dL_law_658 ⟨by omega, by omega⟩ (fun H locs w => ?_)
    exact W.widen (k := cells + 1) (n := slots + 6) (by omega) (by omega) (kk2 _ _ H locs w)
  · refine hz_sc (As := [.ref (G.2.2.2.1 0), .int (xs (i + 1)), .ref oa]) (rest := []) C w (fun sz => qL_tallest_1 l hlt G oa sz σ f (xs (i + 1)) o hf h0) (vx_cwSW 3 hts gL_law_L_tallest rfl rfl rfl (by decide +kernel) ⟨Nat.le_of_ble_eq_true rfl, Nat.le_of_ble_eq_true rfl⟩) rfl hl.1 rfl (Nat.le_of_ble_eq_true rfl) dL_law_658 ⟨by omega, by omega⟩ (fun H locs w => ?_)
    exact kk2 _ _ H locs w
set_option maxHeartbeats 1000000 in
theorem hz_rate {p : Program} {l : Launch} {e : Env} {s : State} {m : MethodId} {below : List Frame} {meth : Method} {c : Code} {H : Heap} {locs : List Loc} {cells slots : Nat} {Q : State → Prop} {ls : Array Slot} {G : hy_G} {b L oa i : Nat} {xs : Nat → Int32} {σ μ : hy_S} {f : Nat → Int64} (C : hz_C p s m c b L xs G) (hlt : l.stackTraces = false) (hi : i + 6 ≤ L) (hcl : cells + 1 ≤ 1106 ∧ slots + 6 ≤ 16273) (w : hz_w G oa s σ f μ H locs) (hl : lv_has ls 7 (hz_lv b G oa i)) {o : hy_O} {o2 : hy_S × Int32} (hf : fX9_rate σ (xs (i + 1)) (xs (i + 2)) = some o) (hg : fX10_rate μ (xs (i + 1)) (xs (i + 2)) = some o2) (ho : o.2.2 = 0 ∨ o.2.2 = 1 ∨ o.2.2 = 2) (kk : ∀ (f2 : Nat → Int64) (H1 : Heap) (locs1 : List Loc) (ls1 : Array Slot), hz_w G oa s o.1 f2 o2.1 H1 locs1 → lv_has ls1 7 (hz_lv b G oa i) → W p l e room_1 s m #[Value.ref b] below meth c H1 locs1 (cells + 1) (slots + 6) Q (F0 m 1307 ls1 [])) : W p l e room_1 s m #[Value.ref b] below meth c H locs cells slots Q (F0 m 678 ls []) := by
  have hcl : cells + 1 ≤ room_1.cells ∧ slots + 6 ≤ room_1.slots := hcl
  have hts := C.1.1.2.2.2.2
  refine lv_aload_n C.1.1.1 C.1.1.2.1 dL_law_678 rfl (lv_at hl 1 rfl) ?_
  refine hz_ld C hl w.2.2 1 (by omega) (by decide) dL_law_679 dL_law_680 dL_law_682 dL_law_683 dL_law_684 ?_
  refine hz_ld C hl w.2.2 2 (by omega) (by decide) dL_law_685 dL_law_686 dL_law_688 dL_law_689 dL_law_690 ?_
  have kk2 : ∀ (f : Nat → Int64) (k : Int32) (H : Heap) (locs : List Loc), hz_w G oa s o.1 f μ H locs → W p l e room_1 s m #[Value.ref b] below meth c H locs (cells + 1) (slots + 6) Q (F0 m 694 ls [.int k]) := by
    intro f k H locs w
    refine lv_istore (lv' := (5, .int k) :: hz_lv b G oa i) C.1.1.1 C.1.1.2.1 dL_law_694 hl (by decide) rfl (fun ls hl5 => ?_)
    have hl := lv_sub (l' := hz_lv b G oa i) hl5 [1, 2, 3, 4, 5] rfl
    refine lv_aload_n C.1.1.1 C.1.1.2.1 dL_law_696 rfl (lv_at hl 2 rfl) ?_
    refine hz_ld C hl w.2.2 1 (by omega) (by decide) dL_law_697 dL_law_698 dL_law_700 dL_law_701 dL_law_702 ?_
    refine hz_ld C hl w.2.2 2 (by omega) (by decide) dL_law_703 dL_law_704 dL_law_706 dL_law_707 dL_law_708 ?_
    refine hz_mcv (As := [.int (xs (i + 1)), .int (xs (i + 2))]) (rest := []) C w (fun sz => mX10_rate l G sz μ (xs (i + 1)) (xs (i + 2)) o2 hg) (cwV 2 hts gL_law_X10_rate rfl rfl rfl (by decide +kernel) ⟨Nat.le_of_ble_eq_true rfl, Nat.le_of_ble_eq_true rfl⟩) rfl rfl hl.1 rfl (Nat.le_of_ble_eq_true rfl) dL_law_709 ⟨by omega, by omega⟩ (fun H locs w => ?_)
    refine lv_goto (tgt := 1307) C.1.1.1 C.1.1.2.1 dL_law_712 (by decide) ?_
    exact kk f H locs ls w hl
  rcases ho with h0 | h0 | h0
  · refine hz_sc (As := [.ref (G.2.2.2.1 0), .int (xs (i + 1)), .int (xs (i + 2))]) (rest := []) C w (fun sz => rL_rate l G oa sz σ f (xs (i + 1)) (xs (i + 2)) o hf h0) (vx_cwSW 3 hts gL_law_L_rate rfl rfl rfl (by decide +kernel) ⟨Nat.le_of_ble_eq_true rfl, Nat.le_of_ble_eq_true rfl⟩) rfl hl.1 rfl (Nat.le_of_ble_eq_true rfl) dL_law_691 ⟨by omega, by omega⟩ (fun H locs w => ?_)
    exact W.widen (k := cells + 1) (n := slots + 6) (by omega) (by omega) (kk2 _ _ H locs w)
  · refine hz_sc (As := [.ref (G.2.2.2.1 0), .int (xs (i + 1)), .int (xs (i + 2))]) (rest := []) C w (fun sz => qL_rate_1 l hlt G oa sz σ f (xs (i + 1)) (xs (i + 2)) o hf h0) (vx_cwSW 3 hts gL_law_L_rate rfl rfl rfl (by decide +kernel) ⟨Nat.le_of_ble_eq_true rfl, Nat.le_of_ble_eq_true rfl⟩) rfl hl.1 rfl (Nat.le_of_ble_eq_true rfl) dL_law_691 ⟨by omega, by omega⟩ (fun H locs w => ?_)
    exact kk2 _ _ H locs w
  · refine hz_sc (As := [.ref (G.2.2.2.1 0), .int (xs (i + 1)), .int (xs (i + 2))]) (rest := []) C w (fun sz => qL_rate_2 l hlt G oa sz σ f (xs (i + 1)) (xs (i + 2)) o hf h0) (vx_cwSW 3 hts gL_law_L_rate rfl rfl rfl (by decide +kernel) ⟨Nat.le_of_ble_eq_true rfl, Nat.le_of_ble_eq_true rfl⟩) rfl hl.1 rfl (Nat.le_of_ble_eq_true rfl) dL_law_691 ⟨by omega, by omega⟩ (fun H locs w => ?_)
    exact kk2 _ _ H locs w
set_option maxHeartbeats 1000000 in
theorem hz_check {p : Program} {l : Launch} {e : Env} {s : State} {m : MethodId} {below : List Frame} {meth : Method} {c : Code} {H : Heap} {locs : List Loc} {cells slots : Nat} {Q : State → Prop} {ls : Array Slot} {G : hy_G} {b L oa i : Nat} {xs : Nat → Int32} {σ μ : hy_S} {f : Nat → Int64} (C : hz_C p s m c b L xs G) (hlt : l.stackTraces = false) (hi : i + 6 ≤ L) (hcl : cells + 1 ≤ 1106 ∧ slots + 6 ≤ 16273) (w : hz_w G oa s σ f μ H locs) (hl : lv_has ls 7 (hz_lv b G oa i)) {o : hy_O} {o2 : hy_S × Int32} (hf : fX9_check σ (xs (i + 1)) = some o) (hg : fX10_check μ (xs (i + 1)) = some o2) (ho : o.2.2 = 0 ∨ o.2.2 = 1 ∨ o.2.2 = 2) (kk : ∀ (f2 : Nat → Int64) (H1 : Heap) (locs1 : List Loc) (ls1 : Array Slot), hz_w G oa s o.1 f2 o2.1 H1 locs1 → lv_has ls1 7 (hz_lv b G oa i) → W p l e room_1 s m #[Value.ref b] below meth c H1 locs1 (cells + 1) (slots + 6) Q (F0 m 1307 ls1 [])) : W p l e room_1 s m #[Value.ref b] below meth c H locs cells slots Q (F0 m 715 ls []) := by
  have hcl : cells + 1 ≤ room_1.cells ∧ slots + 6 ≤ room_1.slots := hcl
  have hts := C.1.1.2.2.2.2
  refine lv_aload_n C.1.1.1 C.1.1.2.1 dL_law_715 rfl (lv_at hl 1 rfl) ?_
  refine hz_ld C hl w.2.2 1 (by omega) (by decide) dL_law_716 dL_law_717 dL_law_719 dL_law_720 dL_law_721 ?_
  refine lv_aload_n C.1.1.1 C.1.1.2.1 dL_law_722 rfl (lv_at hl 3 rfl) ?_
  have kk2 : ∀ (f : Nat → Int64) (k : Int32) (H : Heap) (locs : List Loc), hz_w G oa s o.1 f μ H locs → W p l e room_1 s m #[Value.ref b] below meth c H locs (cells + 1) (slots + 6) Q (F0 m 726 ls [.int k]) := by
    intro f k H locs w
    refine lv_istore (lv' := (5, .int k) :: hz_lv b G oa i) C.1.1.1 C.1.1.2.1 dL_law_726 hl (by decide) rfl (fun ls hl5 => ?_)
    have hl := lv_sub (l' := hz_lv b G oa i) hl5 [1, 2, 3, 4, 5] rfl
    refine lv_aload_n C.1.1.1 C.1.1.2.1 dL_law_728 rfl (lv_at hl 2 rfl) ?_
    refine hz_ld C hl w.2.2 1 (by omega) (by decide) dL_law_729 dL_law_730 dL_law_732 dL_law_733 dL_law_734 ?_
    refine hz_mc (As := [.int (xs (i + 1))]) (rest := []) C w (fun sz => mX10_check l G sz μ (xs (i + 1)) o2 hg) (cwV 1 hts gL_law_X10_check rfl rfl rfl (by decide +kernel) ⟨Nat.le_of_ble_eq_true rfl, Nat.le_of_ble_eq_true rfl⟩) rfl rfl hl.1 rfl (Nat.le_of_ble_eq_true rfl) dL_law_735 ⟨by omega, by omega⟩ (fun H locs w => ?_)
    refine lv_istore (lv' := (6, .int o2.2) :: (5, .int k) :: hz_lv b G oa i) C.1.1.1 C.1.1.2.1 dL_law_738 hl5 (by decide) rfl (fun ls hl6 => ?_)
    have hl := lv_sub (l' := hz_lv b G oa i) hl6 [2, 3, 4, 5, 6] rfl
    refine lv_goto (tgt := 1307) C.1.1.1 C.1.1.2.1 dL_law_740 (by decide) ?_
    exact kk f H locs ls w hl
  rcases ho with h0 | h0 | h0
  · refine hz_sc (As := [.ref (G.2.2.2.1 0), .int (xs (i + 1)), .ref oa]) (rest := []) C w (fun sz => rL_check l G oa sz σ f (xs (i + 1)) o hf h0) (vx_cwSW 3 hts gL_law_L_check rfl rfl rfl (by decide +kernel) ⟨Nat.le_of_ble_eq_true rfl, Nat.le_of_ble_eq_true rfl⟩) rfl hl.1 rfl (Nat.le_of_ble_eq_true rfl) dL_law_723 ⟨by omega, by omega⟩ (fun H locs w => ?_)
    exact W.widen (k := cells + 1) (n := slots + 6) (by omega) (by omega) (kk2 _ _ H locs w)
  · refine hz_sc (As := [.ref (G.2.2.2.1 0), .int (xs (i + 1)), .ref oa]) (rest := []) C w (fun sz => qL_check_1 l hlt G oa sz σ f (xs (i + 1)) o hf h0) (vx_cwSW 3 hts gL_law_L_check rfl rfl rfl (by decide +kernel) ⟨Nat.le_of_ble_eq_true rfl, Nat.le_of_ble_eq_true rfl⟩) rfl hl.1 rfl (Nat.le_of_ble_eq_true rfl) dL_law_723 ⟨by omega, by omega⟩ (fun H locs w => ?_)
    exact kk2 _ _ H locs w
  · refine hz_sc (As := [.ref (G.2.2.2.1 0), .int (xs (i + 1)), .ref oa]) (rest := []) C w (fun sz => qL_check_2 l hlt G oa sz σ f (xs (i + 1)) o hf h0) (vx_cwSW 3 hts gL_law_L_check rfl rfl rfl (by decide +kernel) ⟨Nat.le_of_ble_eq_true rfl, Nat.le_of_ble_eq_true rfl⟩) rfl hl.1 rfl (Nat.le_of_ble_eq_true rfl) dL_law_723 ⟨by omega, by omega⟩ (fun H locs w => ?_)
    exact kk2 _ _ H locs w
