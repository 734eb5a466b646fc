set_option maxHeartbeats 1000000 in
theorem hz_land {p : Program} {l : Launch} {e : Env} {s : State} {m : MethodId} {below : List Frame} {meth : Method} {c : Code} {H : Heap} {locs : List Loc} {cells slots : Nat} {Q : State → Prop} {ls : Array Slot} {G : hy_G} {b L oa i : Nat} {xs : Nat → Int32} {σ μ : hy_S} {f : Nat → Int64} (C : hz_C p s m c b L xs G) (hlt : l.stackTraces = false) (hi : i + 6 ≤ L) (hcl : cells + 1 ≤ 1106 ∧ slots + 6 ≤ 16273) (w : hz_w G oa s σ f μ H locs) (hl : lv_has ls 7 (hz_lv b G oa i)) {o : hy_O} {o2 : hy_S × Int32} (hf : fX9_land σ (xs (i + 1)) (xs (i + 2)) = some o) (hg : fX10_land μ (xs (i + 1)) (xs (i + 2)) = some o2) (ho : o.2.2 = 0 ∨ o.2.2 = 1) (kk : ∀ (f2 : Nat → Int64) (H1 : Heap) (locs1 : List Loc) (ls1 : Array Slot), hz_w G oa s o.1 f2 o2.1 H1 locs1 → lv_has ls1 7 (hz_lv b G oa i) → W p l e room_1 s m #[Value.ref b] below meth c H1 locs1 (cells + 1) (slots + 6) Q (F0 m 1314 ls1 [])) : W p l e room_1 s m #[Value.ref b] below meth c H locs cells slots Q (F0 m 513 ls []) := by
  have hcl : cells + 1 ≤ room_1.cells ∧ slots + 6 ≤ room_1.slots := hcl
  have hts := C.1.1.2.2.2.2
  refine lv_aload_n C.1.1.1 C.1.1.2.1 dL_law_513 rfl (lv_at hl 1 rfl) ?_
  refine hz_ld C hl w.2.2 1 (by omega) (by decide) dL_law_514 dL_law_515 dL_law_517 dL_law_518 dL_law_519 ?_
  refine hz_ld C hl w.2.2 2 (by omega) (by decide) dL_law_520 dL_law_521 dL_law_523 dL_law_524 dL_law_525 ?_
  refine lv_aload_n C.1.1.1 C.1.1.2.1 dL_law_526 rfl (lv_at hl 3 rfl) ?_
  have kk2 : ∀ (f : Nat → Int64) (k : Int32) (H : Heap) (locs : List Loc), hz_w G oa s o.1 f μ H locs → W p l e room_1 s m #[Value.ref b] below meth c H locs (cells + 1) (slots + 6) Q (F0 m 530 ls [.int k]) := by
    intro f k H locs w
    refine lv_istore (lv' := (5, .int k) :: hz_lv b G oa i) C.1.1.1 C.1.1.2.1 dL_law_530 hl (by decide) rfl (fun ls hl5 => ?_)
    have hl := lv_sub (l' := hz_lv b G oa i) hl5 [1, 2, 3, 4, 5] rfl
    refine lv_aload_n C.1.1.1 C.1.1.2.1 dL_law_532 rfl (lv_at hl 2 rfl) ?_
    refine hz_ld C hl w.2.2 1 (by omega) (by decide) dL_law_533 dL_law_534 dL_law_536 dL_law_537 dL_law_538 ?_
    refine hz_ld C hl w.2.2 2 (by omega) (by decide) dL_law_539 dL_law_540 dL_law_542 dL_law_543 dL_law_544 ?_
    refine hz_mc (As := [.int (xs (i + 1)), .int (xs (i + 2))]) (rest := []) C w (fun sz => mX10_land l G sz μ (xs (i + 1)) (xs (i + 2)) o2 hg) (cwV 2 hts gL_law_X10_land rfl rfl rfl (by decide +kernel) ⟨Nat.le_of_ble_eq_true rfl, Nat.le_of_ble_eq_true rfl⟩) rfl rfl hl.1 rfl (Nat.le_of_ble_eq_true rfl) dL_law_545 ⟨by omega, by omega⟩ (fun H locs w => ?_)
    refine lv_istore (lv' := (6, .int o2.2) :: (5, .int k) :: hz_lv b G oa i) C.1.1.1 C.1.1.2.1 dL_law_548 hl5 (by decide) rfl (fun ls hl6 => ?_)
    have hl := lv_sub (l' := hz_lv b G oa i) hl6 [2, 3, 4, 5, 6] rfl
    refine lv_goto (tgt := 1314) C.1.1.1 C.1.1.2.1 dL_law_550 (by decide) ?_
    exact kk f H locs ls w hl
  rcases ho with h0 | h0
  · refine hz_sc (As := [.ref (G.2.2.2.1 0), .int (xs (i + 1)), .int (xs (i + 2)), .ref oa]) (rest := []) C w (fun sz => rL_land l G oa sz σ f (xs (i + 1)) (xs (i + 2)) o hf h0) (vx_cwSW 4 hts gL_law_L_land rfl rfl rfl (by decide +kernel) ⟨Nat.le_of_ble_eq_true rfl, Nat.le_of_ble_eq_true rfl⟩) rfl hl.1 rfl (Nat.le_of_ble_eq_true rfl) dL_law_527 ⟨by omega, by omega⟩ (fun H locs w => ?_)
    exact W.widen (k := cells + 1) (n := slots + 6) (by omega) (by omega) (kk2 _ _ H locs w)
  · refine hz_sc (As := [.ref (G.2.2.2.1 0), .int (xs (i + 1)), .int (xs (i + 2)), .ref oa]) (rest := []) C w (fun sz => qL_land_1 l hlt G oa sz σ f (xs (i + 1)) (xs (i + 2)) o hf h0) (vx_cwSW 4 hts gL_law_L_land rfl rfl rfl (by decide +kernel) ⟨Nat.le_of_ble_eq_true rfl, Nat.le_of_ble_eq_true rfl⟩) rfl hl.1 rfl (Nat.le_of_ble_eq_true rfl) dL_law_527 ⟨by omega, by omega⟩ (fun H locs w => ?_)
    exact kk2 _ _ H locs w
set_option maxHeartbeats 1000000 in
theorem hz_storm {p : Program} {l : Launch} {e : Env} {s : State} {m : MethodId} {below : List Frame} {meth : Method} {c : Code} {H : Heap} {locs : List Loc} {cells slots : Nat} {Q : State → Prop} {ls : Array Slot} {G : hy_G} {b L oa i : Nat} {xs : Nat → Int32} {σ μ : hy_S} {f : Nat → Int64} (C : hz_C p s m c b L xs G) (hlt : l.stackTraces = false) (hi : i + 6 ≤ L) (hcl : cells + 1 ≤ 1106 ∧ slots + 6 ≤ 16273) (w : hz_w G oa s σ f μ H locs) (hl : lv_has ls 7 (hz_lv b G oa i)) {o : hy_O} {o2 : hy_S × Int32} (hf : fX9_storm σ (xs (i + 1)) (xs (i + 2)) = some o) (hg : fX10_storm μ (xs (i + 1)) (xs (i + 2)) = some o2) (ho : o.2.2 = 0 ∨ o.2.2 = 1 ∨ o.2.2 = 2) (kk : ∀ (f2 : Nat → Int64) (H1 : Heap) (locs1 : List Loc) (ls1 : Array Slot), hz_w G oa s o.1 f2 o2.1 H1 locs1 → lv_has ls1 7 (hz_lv b G oa i) → W p l e room_1 s m #[Value.ref b] below meth c H1 locs1 (cells + 1) (slots + 6) Q (F0 m 1314 ls1 [])) : W p l e room_1 s m #[Value.ref b] below meth c H locs cells slots Q (F0 m 553 ls []) := by
  have hcl : cells + 1 ≤ room_1.cells ∧ slots + 6 ≤ room_1.slots := hcl
  have hts := C.1.1.2.2.2.2
  refine lv_aload_n C.1.1.1 C.1.1.2.1 dL_law_553 rfl (lv_at hl 1 rfl) ?_
  refine hz_ld C hl w.2.2 1 (by omega) (by decide) dL_law_554 dL_law_555 dL_law_557 dL_law_558 dL_law_559 ?_
  refine hz_ld C hl w.2.2 2 (by omega) (by decide) dL_law_560 dL_law_561 dL_law_563 dL_law_564 dL_law_565 ?_
  refine lv_aload_n C.1.1.1 C.1.1.2.1 dL_law_566 rfl (lv_at hl 3 rfl) ?_
  have kk2 : ∀ (f : Nat → Int64) (k : Int32) (H : Heap) (locs : List Loc), hz_w G oa s o.1 f μ H locs → W p l e room_1 s m #[Value.ref b] below meth c H locs (cells + 1) (slots + 6) Q (F0 m 570 ls [.int k]) := by
    intro f k H locs w
    refine lv_istore (lv' := (5, .int k) :: hz_lv b G oa i) C.1.1.1 C.1.1.2.1 dL_law_570 hl (by decide) rfl (fun ls hl5 => ?_)
    have hl := lv_sub (l' := hz_lv b G oa i) hl5 [1, 2, 3, 4, 5] rfl
    refine lv_aload_n C.1.1.1 C.1.1.2.1 dL_law_572 rfl (lv_at hl 2 rfl) ?_
    refine hz_ld C hl w.2.2 1 (by omega) (by decide) dL_law_573 dL_law_574 dL_law_576 dL_law_577 dL_law_578 ?_
    refine hz_ld C hl w.2.2 2 (by omega) (by decide) dL_law_579 dL_law_580 dL_law_582 dL_law_583 dL_law_584 ?_
    refine hz_mc (As := [.int (xs (i + 1)), .int (xs (i + 2))]) (rest := []) C w (fun sz => mX10_storm l G sz μ (xs (i + 1)) (xs (i + 2)) o2 hg) (cwV 2 hts gL_law_X10_storm rfl rfl rfl (by decide +kernel) ⟨Nat.le_of_ble_eq_true rfl, Nat.le_of_ble_eq_true rfl⟩) rfl rfl hl.1 rfl (Nat.le_of_ble_eq_true rfl) dL_law_585 ⟨by omega, by omega⟩ (fun H locs w => ?_)
    refine lv_istore (lv' := (6, .int o2.2) :: (5, .int k) :: hz_lv b G oa i) C.1.1.1 C.1.1.2.1 dL_law_588 hl5 (by decide) rfl (fun ls hl6 => ?_)
    have hl := lv_sub (l' := hz_lv b G oa i) hl6 [2, 3, 4, 5, 6] rfl
    refine lv_goto (tgt := 1314) C.1.1.1 C.1.1.2.1 dL_law_590 (by decide) ?_
    exact kk f H locs ls w hl
  rcases ho with h0 | h0 | h0
  · refine hz_sc (As := [.ref (G.2.2.2.1 0), .int (xs (i + 1)), .int (xs (i + 2)), .ref oa]) (rest := []) C w (fun sz => rL_storm l G oa sz σ f (xs (i + 1)) (xs (i + 2)) o hf h0) (vx_cwSW 4 hts gL_law_L_storm rfl rfl rfl (by decide +kernel) ⟨Nat.le_of_ble_eq_true rfl, Nat.le_of_ble_eq_true rfl⟩) rfl hl.1 rfl (Nat.le_of_ble_eq_true rfl) dL_law_567 ⟨by omega, by omega⟩ (fun H locs w => ?_)
    exact W.widen (k := cells + 1) (n := slots + 6) (by omega) (by omega) (kk2 _ _ H locs w)
  · refine hz_sc (As := [.ref (G.2.2.2.1 0), .int (xs (i + 1)), .int (xs (i + 2)), .ref oa]) (rest := []) C w (fun sz => qL_storm_1 l hlt G oa sz σ f (xs (i + 1)) (xs (i + 2)) o hf h0) (vx_cwSW 4 hts gL_law_L_storm rfl rfl rfl (by decide +kernel) ⟨Nat.le_of_ble_eq_true rfl, Nat.le_of_ble_eq_true rfl⟩) rfl hl.1 rfl (Nat.le_of_ble_eq_true rfl) dL_law_567 ⟨by omega, by omega⟩ (fun H locs w => ?_)
    exact kk2 _ _ H locs w
  · refine hz_sc (As := [.ref (G.2.2.2.1 0), .int (xs (i + 1)), .int (xs (i + 2)), .ref oa]) (rest := []) C w (fun sz => qL_storm_2 l hlt G oa sz σ f (xs (i + 1)) (xs (i + 2)) o hf h0) (vx_cwSW 4 hts gL_law_L_storm rfl rfl rfl (by decide +kernel) ⟨Nat.le_of_ble_eq_true rfl, Nat.le_of_ble_eq_true rfl⟩) rfl hl.1 rfl (Nat.le_of_ble_eq_true rfl) dL_law_567 ⟨by omega, by omega⟩ (fun H locs w => ?_)
    exact kk2 _ _ H locs w
set_option maxHeartbeats 1000000 in
theorem hz_look {p : Program} {l : Launch} {e : Env} {s : State} {m : MethodId} {below : List Frame} {meth : Method} {c : Code} {H : Heap} {locs : List Loc} {cells slots : Nat} {Q : State → Prop} {ls : Array Slot} {G : hy_G} {b L oa i : Nat} {xs : Nat → Int32} {σ μ : hy_S} {f : Nat → Int64} (C : hz_C p s m c b L xs G) (hlt : l.stackTraces = false) (hi : i + 6 ≤ L) (hcl : cells + 1 ≤ 1106 ∧ slots + 6 ≤ 16273) (w : hz_w G oa s σ f μ H locs) (hl : lv_has ls 7 (hz_lv b G oa i)) {o : hy_O} {o2 : hy_S × Int32} (hf : fX9_look σ (xs (i + 1)) (xs (i + 2)) = some o) (hg : fX10_look μ (xs (i + 1)) (xs (i + 2)) = some o2) (ho : o.2.2 = 0 ∨ o.2.2 = 1 ∨ o.2.2 = 4) (kk : ∀ (f2 : Nat → Int64) (H1 : Heap) (locs1 : List Loc) (ls1 : Array Slot), hz_w G oa s o.1 f2 o2.1 H1 locs1 → lv_has ls1 7 (hz_lv b G oa i) → W p l e room_1 s m #[Value.ref b] below meth c H1 locs1 (cells + 1) (slots + 6) Q (F0 m 1314 ls1 [])) : W p l e room_1 s m #[Value.ref b] below meth c H locs cells slots Q (F0 m 593 ls []) := by
  have hcl : cells + 1 ≤ room_1.cells ∧ slots + 6 ≤ room_1.slots := hcl
  have hts := C.1.1.2.2.2.2
  refine lv_aload_n C.1.1.1 C.1.1.2.1 dL_law_593 rfl (lv_at hl 1 rfl) ?_
  refine hz_ld C hl w.2.2 1 (by omega) (by decide) dL_law_594 dL_law_595 dL_law_597 dL_law_598 dL_law_599 ?_
  refine hz_ld C hl w.2.2 2 (by omega) (by decide) dL_law_600 dL_law_601 dL_law_603 dL_law_604 dL_law_605 ?_
  refine lv_aload_n C.1.1.1 C.1.1.2.1 dL_law_606 rfl (lv_at hl 3 rfl) ?_
  have kk2 : ∀ (f : Nat → Int64) (k : Int32) (H : Heap) (locs : List Loc), hz_w G oa s o.1 f μ H locs → W p l e room_1 s m #[Value.ref b] below meth c H locs (cells + 1) (slots + 6) Q (F0 m 610 ls [.int k]) := by
    intro f k H locs w
    refine lv_istore (lv' := (5, .int k) :: hz_lv b G oa i) C.1.1.1 C.1.1.2.1 dL_law_610 hl (by decide) rfl (fun ls hl5 => ?_)
    have hl := lv_sub (l' := hz_lv b G oa i) hl5 [1, 2, 3, 4, 5] rfl
    refine lv_aload_n C.1.1.1 C.1.1.2.1 dL_law_612 rfl (lv_at hl 2 rfl) ?_
    refine hz_ld C hl w.2.2 1 (by omega) (by decide) dL_law_613 dL_law_614 dL_law_616 dL_law_617 dL_law_618 ?_
    refine hz_ld C hl w.2.2 2 (by omega) (by decide) dL_law_619 dL_law_620 dL_law_622 dL_law_623 dL_law_624 ?_
    refine hz_mc (As := [.int (xs (i + 1)), .int (xs (i + 2))]) (rest := []) C w (fun sz => mX10_look l G sz μ (xs (i + 1)) (xs (i + 2)) o2 hg) (cwV 2 hts gL_law_X10_look rfl rfl rfl (by decide +kernel) ⟨Nat.le_of_ble_eq_true rfl, Nat.le_of_ble_eq_true rfl⟩) rfl rfl hl.1 rfl (Nat.le_of_ble_eq_true rfl) dL_law_625 ⟨by omega, by omega⟩ (fun H locs w => ?_)
    refine lv_istore (lv' := (6, .int o2.2) :: (5, .int k) :: hz_lv b G oa i) C.1.1.1 C.1.1.2.1 dL_law_628 hl5 (by decide) rfl (fun ls hl6 => ?_)
    have hl := lv_sub (l' := hz_lv b G oa i) hl6 [2, 3, 4, 5, 6] rfl
    refine lv_goto (tgt := 1314) C.1.1.1 C.1.1.2.1 dL_law_630 (by decide) ?_
    exact kk f H locs ls w hl
  rcases ho with h0 | h0 | h0
  · refine hz_sc (As := [.ref (G.2.2.2.1 0), .int (xs (i + 1)), .int (xs (i + 2)), .ref oa]) (rest := []) C w (fun sz => rL_look l G oa sz σ f (xs (i + 1)) (xs (i + 2)) o hf h0) (vx_cwSW 4 hts gL_law_L_look rfl rfl rfl (by decide +kernel) ⟨Nat.le_of_ble_eq_true rfl, Nat.le_of_ble_eq_true rfl⟩) rfl hl.1 rfl (Nat.le_of_ble_eq_true rfl) dL_law_607 ⟨by omega, by omega⟩ (fun H locs w => ?_)
    exact W.widen (k := cells + 1) (n := slots + 6) (by omega) (by omega) (kk2 _ _ H locs w)
  · refine hz_sc (As := [.ref (G.2.2.2.1 0), .int (xs (i + 1)), .int (xs (i + 2)), .ref oa]) (rest := []) C w (fun sz => qL_look_1 l hlt G oa sz σ f (xs (i + 1)) (xs (i + 2)) o hf h0) (vx_cwSW 4 hts gL_law_L_look rfl rfl rfl (by decide +kernel) ⟨Nat.le_of_ble_eq_true rfl, Nat.le_of_ble_eq_true rfl⟩) rfl hl.1 rfl (Nat.le_of_ble_eq_true rfl) dL_law_607 ⟨by omega, by omega⟩ (fun H locs w => ?_)
    exact kk2 _ _ H locs w
  · refine hz_sc (As := [.ref (G.2.2.2.1 0), .int (xs (i + 1)), .int (xs (i + 2)), .ref oa]) (rest := []) C w (fun sz => qL_look_2 l hlt G oa sz σ f (xs (i + 1)) (xs (i + 2)) o hf h0) (vx_cwSW 4 hts gL_law_L_look rfl rfl rfl (by decide +kernel) ⟨Nat.le_of_ble_eq_true rfl, Nat.le_of_ble_eq_true rfl⟩) rfl hl.1 rfl (Nat.le_of_ble_eq_true rfl) dL_law_607 ⟨by omega, by omega⟩ (fun H locs w => ?_)
    exact kk2 _ _ H locs w
set_option maxHeartbeats 1000000 in
theorem hz_stack {p : Program} {l : Launch} {e : Env} {s : State} {m : MethodId} {below : List Frame} {meth : Method} {c : Code} {H : Heap} {locs : List Loc} {cells slots : Nat} {Q : State → Prop} {ls : Array Slot} {G : hy_G} {b L oa i : Nat} {xs : Nat → Int32} {σ μ : hy_S} {f : Nat → Int64} (C : hz_C p s m c b L xs G) (hlt : l.stackTraces = false) (hi : i + 6 ≤ L) (hcl : cells + 1 ≤ 1106 ∧ slots + 6 ≤ 16273) (w : hz_w G oa s σ f μ H locs) (hl : lv_has ls 7 (hz_lv b G oa i)) {o : hy_O} {o2 : hy_S × Int32} (hf : fX9_stack σ (xs (i + 1)) (xs (i + 2)) (xs (i + 3)) = some o) (hg : fX10_stack μ (xs (i + 1)) (xs (i + 2)) (xs (i + 3)) = some o2) (ho : o.2.2 = 0 ∨ o.2.2 = 1) (kk : ∀ (f2 : Nat → Int64) (H1 : Heap) (locs1 : List Loc) (ls1 : Array Slot), hz_w G oa s o.1 f2 o2.1 H1 locs1 → lv_has ls1 7 (hz_lv b G oa i) → W p l e room_1 s m #[Value.ref b] below meth c H1 locs1 (cells + 1) (slots + 6) Q (F0 m 1314 ls1 [])) : W p l e room_1 s m #[Value.ref b] below meth c H locs cells slots Q (F0 m 633 ls []) := by
  have hcl : cells + 1 ≤ room_1.cells ∧ slots + 6 ≤ room_1.slots := hcl
  have hts := C.1.1.2.2.2.2
  refine lv_aload_n C.1.1.1 C.1.1.2.1 dL_law_633 rfl (lv_at hl 1 rfl) ?_
  refine hz_ld C hl w.2.2 1 (by omega) (by decide) dL_law_634 dL_law_635 dL_law_637 dL_law_638 dL_law_639 ?_
  refine hz_ld C hl w.2.2 2 (by omega) (by decide) dL_law_640 dL_law_641 dL_law_643 dL_law_644 dL_law_645 ?_
  refine hz_ld C hl w.2.2 3 (by omega) (by decide) dL_law_646 dL_law_647 dL_law_649 dL_law_650 dL_law_651 ?_
  refine lv_aload_n C.1.1.1 C.1.1.2.1 dL_law_652 rfl (lv_at hl 3 rfl) ?_
  have kk2 : ∀ (f : Nat → Int64) (k : Int32) (H : Heap) (locs : List Loc), hz_w G oa s o.1 f μ H locs → W p l e room_1 s m #[Value.ref b] below meth c H locs (cells + 1) (slots + 6) Q (F0 m 656 ls [.int k]) := by
    intro f k H locs w
    refine lv_istore (lv' := (5, .int k) :: hz_lv b G oa i) C.1.1.1 C.1.1.2.1 dL_law_656 hl (by decide) rfl (fun ls hl5 => ?_)
    have hl := lv_sub (l' := hz_lv b G oa i) hl5 [1, 2, 3, 4, 5] rfl
    refine lv_aload_n C.1.1.1 C.1.1.2.1 dL_law_658 rfl (lv_at hl 2 rfl) ?_
    refine hz_ld C hl w.2.2 1 (by omega) (by decide) dL_law_659 dL_law_660 dL_law_662 dL_law_663 dL_law_664 ?_
    refine hz_ld C hl w.2.2 2 (by omega) (by decide) dL_law_665 dL_law_666 dL_law_668 dL_law_669 dL_law_670 ?_
    refine hz_ld C hl w.2.2 3 (by omega) (by decide) dL_law_671 dL_law_672 dL_law_674 dL_law_675 dL_law_676 ?_
    refine hz_mc (As := [.int (xs (i + 1)), .int (xs (i + 2)), .int (xs (i + 3))]) (rest := []) C w (fun sz => mX10_stack l G sz μ (xs (i + 1)) (xs (i + 2)) (xs (i + 3)) o2 hg) (cwV 3 hts gL_law_X10_stack rfl rfl rfl (by decide +kernel) ⟨Nat.le_of_ble_eq_true rfl, Nat.le_of_ble_eq_true rfl⟩) rfl rfl hl.1 rfl (Nat.le_of_ble_eq_true rfl) dL_law_677 ⟨by omega, by omega⟩ (fun H locs w => ?_)
    refine lv_istore (lv' := (6, .int o2.2) :: (5, .int k) :: hz_lv b G oa i) C.1.1.1 C.1.1.2.1 dL_law_680 hl5 (by decide) rfl (fun ls hl6 => ?_)
    have hl := lv_sub (l' := hz_lv b G oa i) hl6 [2, 3, 4, 5, 6] rfl
    refine lv_goto (tgt := 1314) C.1.1.1 C.1.1.2.1 dL_law_682 (by decide) ?_
    exact kk f H locs ls w hl
  rcases ho with h0 | h0
  · refine hz_sc (As := [.ref (G.2.2.2.1 0), .int (xs (i + 1)), .int (xs (i + 2)), .int (xs (i + 3)), .ref oa]) (rest := []) C w (fun sz => rL_stack l G oa sz σ f (xs (i + 1)) (xs (i + 2)) (xs (i + 3)) o hf h0) (vx_cwSW 5 hts gL_law_L_stack rfl rfl rfl (by decide +kernel) ⟨Nat.le_of_ble_eq_true rfl, Nat.le_of_ble_eq_true rfl⟩) rfl hl.1 rfl (Nat.le_of_ble_eq_true rfl) dL_law_653 ⟨by omega, by omega⟩ (fun H locs w => ?_)
    exact W.widen (k := cells + 1) (n := slots + 6) (by omega) (by omega) (kk2 _ _ H locs w)
  · refine hz_sc (As := [.ref (G.2.2.2.1 0), .int (xs (i + 1)), .int (xs (i + 2)), .int (xs (i + 3)), .ref oa]) (rest := []) C w (fun sz => qL_stack_1 l hlt G oa sz σ f (xs (i + 1)) (xs (i + 2)) (xs (i + 3)) o hf h0) (vx_cwSW 5 hts gL_law_L_stack rfl rfl rfl (by decide +kernel) ⟨Nat.le_of_ble_eq_true rfl, Nat.le_of_ble_eq_true rfl⟩) rfl hl.1 rfl (Nat.le_of_ble_eq_true rfl) dL_law_653 ⟨by omega, by omega⟩ (fun H locs w => ?_)
    exact kk2 _ _ H locs w
set_option maxHeartbeats 1000000 in
theorem hz_tallest {p : Program} {l : Launch} {e : Env} {s : State} {m : MethodId} {below : List Frame} {meth : Method} {c : Code} {H : Heap} {locs : List Loc} {cells slots : Nat} {Q : State → Prop} {ls : Array Slot} {G : hy_G} {b L oa i : Nat} {xs : Nat → Int32} {σ μ : hy_S} {f : Nat → Int64} (C : hz_C p s m c b L xs G) (hlt : l.stackTraces = false) (hi : i + 6 ≤ L) (hcl : cells + 1 ≤ 1106 ∧ slots + 6 ≤ 16273) (w : hz_w G oa s σ f μ H locs) (hl : lv_has ls 7 (hz_lv b G oa i)) {o : hy_O} {o2 : hy_S × Int32} (hf : fX9_tallest σ (xs (i + 1)) = some o) (hg : fX10_tallest μ (xs (i + 1)) = some o2) (ho : o.2.2 = 0 ∨ o.2.2 = 2) (kk : ∀ (f2 : Nat → Int64) (H1 : Heap) (locs1 : List Loc) (ls1 : Array Slot), hz_w G oa s o.1 f2 o2.1 H1 locs1 → lv_has ls1 7 (hz_lv b G oa i) → W p l e room_1 s m #[Value.ref b] below meth c H1 locs1 (cells + 1) (slots + 6) Q (F0 m 1314 ls1 [])) : W p l e room_1 s m #[Value.ref b] below meth c H locs cells slots Q (F0 m 685 ls []) := by
  have hcl : cells + 1 ≤ room_1.cells ∧ slots + 6 ≤ room_1.slots := hcl
  have hts := C.1.1.2.2.2.2
  refine lv_aload_n C.1.1.1 C.1.1.2.1 dL_law_685 rfl (lv_at hl 1 rfl) ?_
  refine hz_ld C hl w.2.2 1 (by omega) (by decide) dL_law_686 dL_law_687 dL_law_689 dL_law_690 dL_law_691 ?_
  refine lv_aload_n C.1.1.1 C.1.1.2.1 dL_law_692 rfl (lv_at hl 3 rfl) ?_
  have kk2 : ∀ (f : Nat → Int64) (k : Int32) (H : Heap) (locs : List Loc), hz_w G oa s o.1 f μ H locs → W p l e room_1 s m #[Value.ref b] below meth c H locs (cells + 1) (slots + 6) Q (F0 m 696 ls [.int k]) := by
    intro f k H locs w
    refine lv_istore (lv' := (5, .int k) :: hz_lv b G oa i) C.1.1.1 C.1.1.2.1 dL_law_696 hl (by decide) rfl (fun ls hl5 => ?_)
    have hl := lv_sub (l' := hz_lv b G oa i) hl5 [1, 2, 3, 4, 5] rfl
    refine lv_aload_n C.1.1.1 C.1.1.2.1 dL_law_698 rfl (lv_at hl 2 rfl) ?_
    refine hz_ld C hl w.2.2 1 (by omega) (by decide) dL_law_699 dL_law_700 dL_law_702 dL_law_703 dL_law_704 ?_
    refine hz_mc (As := [.int (xs (i + 1))]) (rest := []) C w (fun sz => mX10_tallest l G sz μ (xs (i + 1)) o2 hg) (cwV 1 hts gL_law_X10_tallest rfl rfl rfl (by decide +kernel) ⟨Nat.le_of_ble_eq_true rfl, Nat.le_of_ble_eq_true rfl⟩) rfl rfl hl.1 rfl (Nat.le_of_ble_eq_true rfl) dL_law_705 ⟨by omega, by omega⟩ (fun H locs w => ?_)
    refine lv_istore (lv' := (6, .int o2.2) :: (5, .int k) :: hz_lv b G oa i) C.1.1.1 C.1.1.2.1 dL_law_708 hl5 (by decide) rfl (fun ls hl6 => ?_)
    have hl := lv_sub (l' := hz_lv b G oa i) hl6 [2, 3, 4, 5, 6] rfl
    refine lv_goto (tgt := 1314) C.1.1.1 C.1.1.2.1 dL_law_710 (by decide) ?_
    exact kk f H locs ls w hl
  rcases ho with h0 | h0
  · refine hz_sc (As := [.ref (G.2.2.2.1 0), .int (xs (i + 1)), .ref oa]) (rest := []) C w (fun sz => rL_tallest l G oa sz σ f (xs (i + 1)) o hf h0) (vx_cwSW 3 hts gL_law_L_tallest rfl rfl rfl (by decide +kernel) ⟨Nat.le_of_ble_eq_true rfl, Nat.le_of_ble_eq_true rfl⟩) rfl hl.1 rfl (Nat.le_of_ble_eq_true rfl) dL_law_693 ⟨by omega, by omega⟩ (fun H locs w => ?_)
    exact W.widen (k := cells + 1) (n := slots + 6) (by omega) (by omega) (kk2 _ _ H locs w)
  · refine hz_sc (As := [.ref (G.2.2.2.1 0), .int (xs (i + 1)), .ref oa]) (rest := []) C w (fun sz => qL_tallest_1 l hlt G oa sz σ f (xs (i + 1)) o hf h0) (vx_cwSW 3 hts gL_law_L_tallest rfl rfl rfl (by decide +kernel) ⟨Nat.le_of_ble_eq_true rfl, Nat.le_of_ble_eq_true rfl⟩) rfl hl.1 rfl (Nat.le_of_ble_eq_true rfl) dL_law_693 ⟨by omega, by omega⟩ (fun H locs w => ?_)
    exact kk2 _ _ H locs w
set_option maxHeartbeats 1000000 in
theorem hz_rate {p : Program} {l : Launch} {e : Env} {s : State} {m : MethodId} {below : List Frame} {meth : Method} {c : Code} {H : Heap} {locs : List Loc} {cells slots : Nat} {Q : State → Prop} {ls : Array Slot} {G : hy_G} {b L oa i : Nat} {xs : Nat → Int32} {σ μ : hy_S} {f : Nat → Int64} (C : hz_C p s m c b L xs G) (hlt : l.stackTraces = false) (hi : i + 6 ≤ L) (hcl : cells + 1 ≤ 1106 ∧ slots + 6 ≤ 16273) (w : hz_w G oa s σ f μ H locs) (hl : lv_has ls 7 (hz_lv b G oa i)) {o : hy_O} {o2 : hy_S × Int32} (hf : fX9_rate σ (xs (i + 1)) (xs (i + 2)) = some o) (hg : fX10_rate μ (xs (i + 1)) (xs (i + 2)) = some o2) (ho : o.2.2 = 0 ∨ o.2.2 = 1 ∨ o.2.2 = 2) (kk : ∀ (f2 : Nat → Int64) (H1 : Heap) (locs1 : List Loc) (ls1 : Array Slot), hz_w G oa s o.1 f2 o2.1 H1 locs1 → lv_has ls1 7 (hz_lv b G oa i) → W p l e room_1 s m #[Value.ref b] below meth c H1 locs1 (cells + 1) (slots + 6) Q (F0 m 1314 ls1 [])) : W p l e room_1 s m #[Value.ref b] below meth c H locs cells slots Q (F0 m 713 ls []) := by
  have hcl : cells + 1 ≤ room_1.cells ∧ slots + 6 ≤ room_1.slots := hcl
  have hts := C.1.1.2.2.2.2
  refine lv_aload_n C.1.1.1 C.1.1.2.1 dL_law_713 rfl (lv_at hl 1 rfl) ?_
  refine hz_ld C hl w.2.2 1 (by omega) (by decide) dL_law_714 dL_law_715 dL_law_717 dL_law_718 dL_law_719 ?_
  refine hz_ld C hl w.2.2 2 (by omega) (by decide) dL_law_720 dL_law_721 dL_law_723 dL_law_724 dL_law_725 ?_
  have kk2 : ∀ (f : Nat → Int64) (k : Int32) (H : Heap) (locs : List Loc), hz_w G oa s o.1 f μ H locs → W p l e room_1 s m #[Value.ref b] below meth c H locs (cells + 1) (slots + 6) Q (F0 m 729 ls [.int k]) := by
    intro f k H locs w
    refine lv_istore (lv' := (5, .int k) :: hz_lv b G oa i) C.1.1.1 C.1.1.2.1 dL_law_729 hl (by decide) rfl (fun ls hl5 => ?_)
    have hl := lv_sub (l' := hz_lv b G oa i) hl5 [1, 2, 3, 4, 5] rfl
    refine lv_aload_n C.1.1.1 C.1.1.2.1 dL_law_731 rfl (lv_at hl 2 rfl) ?_
    refine hz_ld C hl w.2.2 1 (by omega) (by decide) dL_law_732 dL_law_733 dL_law_735 dL_law_736 dL_law_737 ?_
    refine hz_ld C hl w.2.2 2 (by omega) (by decide) dL_law_738 dL_law_739 dL_law_741 dL_law_742 dL_law_743 ?_
    refine hz_mcv (As := [.int (xs (i + 1)), .int (xs (i + 2))]) (rest := []) C w (fun sz => mX10_rate l G sz μ (xs (i + 1)) (xs (i + 2)) o2 hg) (cwV 2 hts gL_law_X10_rate rfl rfl rfl (by decide +kernel) ⟨Nat.le_of_ble_eq_true rfl, Nat.le_of_ble_eq_true rfl⟩) rfl rfl hl.1 rfl (Nat.le_of_ble_eq_true rfl) dL_law_744 ⟨by omega, by omega⟩ (fun H locs w => ?_)
    refine lv_goto (tgt := 1314) C.1.1.1 C.1.1.2.1 dL_law_747 (by decide) ?_
    exact kk f H locs ls w hl
  rcases ho with h0 | h0 | h0
  · refine hz_sc (As := [.ref (G.2.2.2.1 0), .int (xs (i + 1)), .int (xs (i + 2))]) (rest := []) C w (fun sz => rL_rate l G oa sz σ f (xs (i + 1)) (xs (i + 2)) o hf h0) (vx_cwSW 3 hts gL_law_L_rate rfl rfl rfl (by decide +kernel) ⟨Nat.le_of_ble_eq_true rfl, Nat.le_of_ble_eq_true rfl⟩) rfl hl.1 rfl (Nat.le_of_ble_eq_true rfl) dL_law_726 ⟨by omega, by omega⟩ (fun H locs w => ?_)
    exact W.widen (k := cells + 1) (n := slots + 6) (by omega) (by omega) (kk2 _ _ H locs w)
  · refine hz_sc (As := [.ref (G.2.2.2.1 0), .int (xs (i + 1)), .int (xs (i + 2))]) (rest := []) C w (fun sz => qL_rate_1 l hlt G oa sz σ f (xs (i + 1)) (xs (i + 2)) o hf h0) (vx_cwSW 3 hts gL_law_L_rate rfl rfl rfl (by decide +kernel) ⟨Nat.le_of_ble_eq_true rfl, Nat.le_of_ble_eq_true rfl⟩) rfl hl.1 rfl (Nat.le_of_ble_eq_true rfl) dL_law_726 ⟨by omega, by omega⟩ (fun H locs w => ?_)
    exact kk2 _ _ H locs w
  · refine hz_sc (As := [.ref (G.2.2.2.1 0), .int (xs (i + 1)), .int (xs (i + 2))]) (rest := []) C w (fun sz => qL_rate_2 l hlt G oa sz σ f (xs (i + 1)) (xs (i + 2)) o hf h0) (vx_cwSW 3 hts gL_law_L_rate rfl rfl rfl (by decide +kernel) ⟨Nat.le_of_ble_eq_true rfl, Nat.le_of_ble_eq_true rfl⟩) rfl hl.1 rfl (Nat.le_of_ble_eq_true rfl) dL_law_726 ⟨by omega, by omega⟩ (fun H locs w => ?_)
    exact kk2 _ _ H locs w
set_option maxHeartbeats 1000000 in
theorem hz_check {p : Program} {l : Launch} {e : Env} {s : State} {m : MethodId} {below : List Frame} {meth : Method} {c : Code} {H : Heap} {locs : List Loc} {cells slots : Nat} {Q : State → Prop} {ls : Array Slot} {G : hy_G} {b L oa i : Nat} {xs : Nat → Int32} {σ μ : hy_S} {f : Nat → Int64} (C : hz_C p s m c b L xs G) (hlt : l.stackTraces = false) (hi : i + 6 ≤ L) (hcl : cells + 1 ≤ 1106 ∧ slots + 6 ≤ 16273) (w : hz_w G oa s σ f μ H locs) (hl : lv_has ls 7 (hz_lv b G oa i)) {o : hy_O} {o2 : hy_S × Int32} (hf : fX9_check σ (xs (i + 1)) = some o) (hg : fX10_check μ (xs (i + 1)) = some o2) (ho : o.2.2 = 0 ∨ o.2.2 = 1 ∨ o.2.2 = 2) (kk : ∀ (f2 : Nat → Int64) (H1 : Heap) (locs1 : List Loc) (ls1 : Array Slot), hz_w G oa s o.1 f2 o2.1 H1 locs1 → lv_has ls1 7 (hz_lv b G oa i) → W p l e room_1 s m #[Value.ref b] below meth c H1 locs1 (cells + 1) (slots + 6) Q (F0 m 1314 ls1 [])) : W p l e room_1 s m #[Value.ref b] below meth c H locs cells slots Q (F0 m 750 ls []) := by
  have hcl : cells + 1 ≤ room_1.cells ∧ slots + 6 ≤ room_1.slots := hcl
  have hts := C.1.1.2.2.2.2
  refine lv_aload_n C.1.1.1 C.1.1.2.1 dL_law_750 rfl (lv_at hl 1 rfl) ?_
  refine hz_ld C hl w.2.2 1 (by omega) (by decide) dL_law_751 dL_law_752 dL_law_754 dL_law_755 dL_law_756 ?_
  refine lv_aload_n C.1.1.1 C.1.1.2.1 dL_law_757 rfl (lv_at hl 3 rfl) ?_
  have kk2 : ∀ (f : Nat → Int64) (k : Int32) (H : Heap) (locs : List Loc), hz_w G oa s o.1 f μ H locs → W p l e room_1 s m #[Value.ref b] below meth c H locs (cells + 1) (slots + 6) Q (F0 m 761 ls [.int k]) := by
    intro f k H locs w
    refine lv_istore (lv' := (5, .int k) :: hz_lv b G oa i) C.1.1.1 C.1.1.2.1 dL_law_761 hl (by decide) rfl (fun ls hl5 => ?_)
    have hl := lv_sub (l' := hz_lv b G oa i) hl5 [1, 2, 3, 4, 5] rfl
    refine lv_aload_n C.1.1.1 C.1.1.2.1 dL_law_763 rfl (lv_at hl 2 rfl) ?_
    refine hz_ld C hl w.2.2 1 (by omega) (by decide) dL_law_764 dL_law_765 dL_law_767 dL_law_768 dL_law_769 ?_
    refine hz_mc (As := [.int (xs (i + 1))]) (rest := []) C w (fun sz => mX10_check l G sz μ (xs (i + 1)) o2 hg) (cwV 1 hts gL_law_X10_check rfl rfl rfl (by decide +kernel) ⟨Nat.le_of_ble_eq_true rfl, Nat.le_of_ble_eq_true rfl⟩) rfl rfl hl.1 rfl (Nat.le_of_ble_eq_true rfl) dL_law_770 ⟨by omega, by omega⟩ (fun H locs w => ?_)
    refine lv_istore (lv' := (6, .int o2.2) :: (5, .int k) :: hz_lv b G oa i) C.1.1.1 C.1.1.2.1 dL_law_773 hl5 (by decide) rfl (fun ls hl6 => ?_)
    have hl := lv_sub (l' := hz_lv b G oa i) hl6 [2, 3, 4, 5, 6] rfl
    refine lv_goto (tgt := 1314) C.1.1.1 C.1.1.2.1 dL_law_775 (by decide) ?_
    exact kk f H locs ls w hl
  rcases ho with h0 | h0 | h0
  · refine hz_sc (As := [.ref (G.2.2.2.1 0), .int (xs (i + 1)), .ref oa]) (rest := []) C w (fun sz => rL_check l G oa sz σ f (xs (i + 1)) o hf h0) (vx_cwSW 3 hts gL_law_L_check rfl rfl rfl (by decide +kernel) ⟨Nat.le_of_ble_eq_true rfl, Nat.le_of_ble_eq_true rfl⟩) rfl hl.1 rfl (Nat.le_of_ble_eq_true rfl) dL_law_758 ⟨by omega, by omega⟩ (fun H locs w => ?_)
    exact W.widen (k := cells + 1) (n := slots + 6) (by omega) (by omega) (kk2 _ _ H locs w)
  · refine hz_sc (As := [.ref (G.2.2.2.1 0), .int (xs (i + 1)), .ref oa]) (rest := []) C w (fun sz => qL_check_1 l hlt G oa sz σ f (xs (i + 1)) o hf h0) (vx_cwSW 3 hts gL_law_L_check rfl rfl rfl (by decide +kernel) ⟨Nat.le_of_ble_eq_true rfl, Nat.le_of_ble_eq_true rfl⟩) rfl hl.1 rfl (Nat.le_of_ble_eq_true rfl) dL_law_758 ⟨by omega, by omega⟩ (fun H locs w => ?_)
    exact kk2 _ _ H locs w
  · refine hz_sc (As := [.ref (G.2.2.2.1 0), .int (xs (i + 1)), .ref oa]) (rest := []) C w (fun sz => qL_check_2 l hlt G oa sz σ f (xs (i + 1)) o hf h0) (vx_cwSW 3 hts gL_law_L_check rfl rfl rfl (by decide +kernel) ⟨Nat.le_of_ble_eq_true rfl, Nat.le_of_ble_eq_true rfl⟩) rfl hl.1 rfl (Nat.le_of_ble_eq_true rfl) dL_law_758 ⟨by omega, by omega⟩ (fun H locs w => ?_)
    exact kk2 _ _ H locs w
