set_option maxHeartbeats 1000000 in
theorem hz_fault {p : Program} {l : Launch} {e : Env} {s : State} {m : MethodId} {below : List Frame} {meth : Method} {c : Code} {H : Heap} {locs : List Loc} {cells slots : Nat} {Q : State → Prop} {ls : Array Slot} {G : hy_G} {b L oa i : Nat} {xs : Nat → Int32} {σ μ : hy_S} {f : Nat → Int64} (C : hz_C p s m c b L xs G) (hlt : l.stackTraces = false) (hi : i + 6 ≤ L) (hcl : cells + 1 ≤ 1106 ∧ slots + 6 ≤ 16273) (w : hz_w G oa s σ f μ H locs) (hl : lv_has ls 7 (hz_lv b G oa i)) {o o2 : hy_S × Int32} (hf : fX9_fault σ = some o) (hg : fX10_fault μ = some o2) (kk : ∀ (f2 : Nat → Int64) (H1 : Heap) (locs1 : List Loc) (ls1 : Array Slot), hz_w G oa s o.1 f2 o2.1 H1 locs1 → lv_has ls1 7 (hz_lv b G oa i) → W p l e room_1 s m #[Value.ref b] below meth c H1 locs1 (cells + 1) (slots + 6) Q (F0 m 1307 ls1 [])) : W p l e room_1 s m #[Value.ref b] below meth c H locs cells slots Q (F0 m 743 ls []) := by
  have hcl : cells + 1 ≤ room_1.cells ∧ slots + 6 ≤ room_1.slots := hcl
  have hts := C.1.1.2.2.2.2
  refine lv_aload_n C.1.1.1 C.1.1.2.1 dL_law_743 rfl (lv_at hl 1 rfl) ?_
  refine hz_xc (As := []) (rest := []) C w (fun sz => mX9_fault l G sz σ o hf) (cwV 0 hts gL_law_X9_fault rfl rfl rfl (by decide +kernel) ⟨Nat.le_of_ble_eq_true rfl, Nat.le_of_ble_eq_true rfl⟩) rfl rfl hl.1 rfl (Nat.le_of_ble_eq_true rfl) dL_law_744 ⟨by omega, by omega⟩ (fun H locs w => ?_)
  refine lv_pop C.1.1.1 C.1.1.2.1 dL_law_747 rfl ?_
  refine lv_aload_n C.1.1.1 C.1.1.2.1 dL_law_748 rfl (lv_at hl 2 rfl) ?_
  refine hz_mc (As := []) (rest := []) C w (fun sz => mX10_fault l G sz μ o2 hg) (cwV 0 hts gL_law_X10_fault rfl rfl rfl (by decide +kernel) ⟨Nat.le_of_ble_eq_true rfl, Nat.le_of_ble_eq_true rfl⟩) rfl rfl hl.1 rfl (Nat.le_of_ble_eq_true rfl) dL_law_749 ⟨by omega, by omega⟩ (fun H locs w => ?_)
  refine lv_pop C.1.1.1 C.1.1.2.1 dL_law_752 rfl ?_
  refine lv_goto (tgt := 1307) C.1.1.1 C.1.1.2.1 dL_law_753 (by decide) ?_
  exact W.widen (k := cells + 1) (n := slots + 6) (by omega) (by omega) (kk f H locs ls w hl)
set_option maxHeartbeats 1000000 in
theorem hz_notes {p : Program} {l : Launch} {e : Env} {s : State} {m : MethodId} {below : List Frame} {meth : Method} {c : Code} {H : Heap} {locs : List Loc} {cells slots : Nat} {Q : State → Prop} {ls : Array Slot} {G : hy_G} {b L oa i : Nat} {xs : Nat → Int32} {σ μ : hy_S} {f : Nat → Int64} (C : hz_C p s m c b L xs G) (hlt : l.stackTraces = false) (hi : i + 6 ≤ L) (hcl : cells + 1 ≤ 1106 ∧ slots + 6 ≤ 16273) (w : hz_w G oa s σ f μ H locs) (hl : lv_has ls 7 (hz_lv b G oa i)) {o : hy_O} {o2 : hy_S × Int32} (hf : fX9_notes σ (xs (i + 1)) (if xs (i + 2) = 0 then 0 else 1) = some o) (hg : fX10_notes μ (xs (i + 1)) (if xs (i + 2) = 0 then 0 else 1) = some o2) (ho : o.2.2 = 0 ∨ o.2.2 = 1) (kk : ∀ (f2 : Nat → Int64) (H1 : Heap) (locs1 : List Loc) (ls1 : Array Slot), hz_w G oa s o.1 f2 o2.1 H1 locs1 → lv_has ls1 7 (hz_lv b G oa i) → W p l e room_1 s m #[Value.ref b] below meth c H1 locs1 (cells + 1) (slots + 6) Q (F0 m 1307 ls1 [])) : W p l e room_1 s m #[Value.ref b] below meth c H locs cells slots Q (F0 m 756 ls []) := by
  have hcl : cells + 1 ≤ room_1.cells ∧ slots + 6 ≤ room_1.slots := hcl
  have hts := C.1.1.2.2.2.2
  refine lv_aload_n C.1.1.1 C.1.1.2.1 dL_law_756 rfl (lv_at hl 1 rfl) ?_
  refine hz_ld C hl w.2.2 1 (by omega) (by decide) dL_law_757 dL_law_758 dL_law_760 dL_law_761 dL_law_762 ?_
  refine hz_ld C hl w.2.2 2 (by omega) (by decide) dL_law_763 dL_law_764 dL_law_766 dL_law_767 dL_law_768 ?_
  refine hz_nz C (t1 := 776) (t2 := 777) dL_law_769 dL_law_772 dL_law_773 rfl dL_law_776 rfl ?_
  refine lv_aload_n C.1.1.1 C.1.1.2.1 dL_law_777 rfl (lv_at hl 3 rfl) ?_
  have kk2 : ∀ (f : Nat → Int64) (k : Int32) (H : Heap) (locs : List Loc), hz_w G oa s o.1 f μ H locs → W p l e room_1 s m #[Value.ref b] below meth c H locs (cells + 1) (slots + 6) Q (F0 m 781 ls [.int k]) := by
    intro f k H locs w
    refine lv_istore (lv' := (5, .int k) :: hz_lv b G oa i) C.1.1.1 C.1.1.2.1 dL_law_781 hl (by decide) rfl (fun ls hl5 => ?_)
    have hl := lv_sub (l' := hz_lv b G oa i) hl5 [1, 2, 3, 4, 5] rfl
    refine lv_aload_n C.1.1.1 C.1.1.2.1 dL_law_783 rfl (lv_at hl 2 rfl) ?_
    refine hz_ld C hl w.2.2 1 (by omega) (by decide) dL_law_784 dL_law_785 dL_law_787 dL_law_788 dL_law_789 ?_
    refine hz_ld C hl w.2.2 2 (by omega) (by decide) dL_law_790 dL_law_791 dL_law_793 dL_law_794 dL_law_795 ?_
    refine hz_nz C (t1 := 803) (t2 := 804) dL_law_796 dL_law_799 dL_law_800 rfl dL_law_803 rfl ?_
    refine hz_mc (As := [.int (xs (i + 1)), .int (if xs (i + 2) = 0 then 0 else 1)]) (rest := []) C w (fun sz => mX10_notes l G sz μ (xs (i + 1)) (if xs (i + 2) = 0 then 0 else 1) o2 hg) (cwV 2 hts gL_law_X10_notes rfl rfl rfl (by decide +kernel) ⟨Nat.le_of_ble_eq_true rfl, Nat.le_of_ble_eq_true rfl⟩) rfl rfl hl.1 rfl (Nat.le_of_ble_eq_true rfl) dL_law_804 ⟨by omega, by omega⟩ (fun H locs w => ?_)
    refine lv_istore (lv' := (6, .int o2.2) :: (5, .int k) :: hz_lv b G oa i) C.1.1.1 C.1.1.2.1 dL_law_807 hl5 (by decide) rfl (fun ls hl6 => ?_)
    have hl := lv_sub (l' := hz_lv b G oa i) hl6 [2, 3, 4, 5, 6] rfl
    refine lv_goto (tgt := 1307) C.1.1.1 C.1.1.2.1 dL_law_809 (by decide) ?_
    exact kk f H locs ls w hl
  rcases ho with h0 | h0
  · refine hz_sc (As := [.ref (G.2.2.2.1 0), .int (xs (i + 1)), .int (if xs (i + 2) = 0 then 0 else 1), .ref oa]) (rest := []) C w (fun sz => rL_notes l G oa sz σ f (xs (i + 1)) (if xs (i + 2) = 0 then 0 else 1) o hf h0) (vx_cwSW 4 hts gL_law_L_notes rfl rfl rfl (by decide +kernel) ⟨Nat.le_of_ble_eq_true rfl, Nat.le_of_ble_eq_true rfl⟩) rfl hl.1 rfl (Nat.le_of_ble_eq_true rfl) dL_law_778 ⟨by omega, by omega⟩ (fun H locs w => ?_)
    exact W.widen (k := cells + 1) (n := slots + 6) (by omega) (by omega) (kk2 _ _ H locs w)
  · refine hz_sc (As := [.ref (G.2.2.2.1 0), .int (xs (i + 1)), .int (if xs (i + 2) = 0 then 0 else 1), .ref oa]) (rest := []) C w (fun sz => qL_notes_1 l hlt G oa sz σ f (xs (i + 1)) (if xs (i + 2) = 0 then 0 else 1) o hf h0) (vx_cwSW 4 hts gL_law_L_notes rfl rfl rfl (by decide +kernel) ⟨Nat.le_of_ble_eq_true rfl, Nat.le_of_ble_eq_true rfl⟩) rfl hl.1 rfl (Nat.le_of_ble_eq_true rfl) dL_law_778 ⟨by omega, by omega⟩ (fun H locs w => ?_)
    exact kk2 _ _ H locs w
set_option maxHeartbeats 1000000 in
theorem hz_sherd {p : Program} {l : Launch} {e : Env} {s : State} {m : MethodId} {below : List Frame} {meth : Method} {c : Code} {H : Heap} {locs : List Loc} {cells slots : Nat} {Q : State → Prop} {ls : Array Slot} {G : hy_G} {b L oa i : Nat} {xs : Nat → Int32} {σ μ : hy_S} {f : Nat → Int64} (C : hz_C p s m c b L xs G) (hlt : l.stackTraces = false) (hi : i + 6 ≤ L) (hcl : cells + 1 ≤ 1106 ∧ slots + 6 ≤ 16273) (w : hz_w G oa s σ f μ H locs) (hl : lv_has ls 7 (hz_lv b G oa i)) {o : hy_O} {o2 : hy_S × Int32} (hf : fX9_sherd σ (xs (i + 1)) (xs (i + 2)) = some o) (hg : fX10_sherd μ (xs (i + 1)) (xs (i + 2)) = some o2) (ho : o.2.2 = 0 ∨ o.2.2 = 1 ∨ o.2.2 = 2 ∨ o.2.2 = 3) (kk : ∀ (f2 : Nat → Int64) (H1 : Heap) (locs1 : List Loc) (ls1 : Array Slot), hz_w G oa s o.1 f2 o2.1 H1 locs1 → lv_has ls1 7 (hz_lv b G oa i) → W p l e room_1 s m #[Value.ref b] below meth c H1 locs1 (cells + 1) (slots + 6) Q (F0 m 1307 ls1 [])) : W p l e room_1 s m #[Value.ref b] below meth c H locs cells slots Q (F0 m 812 ls []) := by
  have hcl : cells + 1 ≤ room_1.cells ∧ slots + 6 ≤ room_1.slots := hcl
  have hts := C.1.1.2.2.2.2
  refine lv_aload_n C.1.1.1 C.1.1.2.1 dL_law_812 rfl (lv_at hl 1 rfl) ?_
  refine hz_ld C hl w.2.2 1 (by omega) (by decide) dL_law_813 dL_law_814 dL_law_816 dL_law_817 dL_law_818 ?_
  refine hz_ld C hl w.2.2 2 (by omega) (by decide) dL_law_819 dL_law_820 dL_law_822 dL_law_823 dL_law_824 ?_
  refine lv_aload_n C.1.1.1 C.1.1.2.1 dL_law_825 rfl (lv_at hl 3 rfl) ?_
  have kk2 : ∀ (f : Nat → Int64) (k : Int32) (H : Heap) (locs : List Loc), hz_w G oa s o.1 f μ H locs → W p l e room_1 s m #[Value.ref b] below meth c H locs (cells + 1) (slots + 6) Q (F0 m 829 ls [.int k]) := by
    intro f k H locs w
    refine lv_istore (lv' := (5, .int k) :: hz_lv b G oa i) C.1.1.1 C.1.1.2.1 dL_law_829 hl (by decide) rfl (fun ls hl5 => ?_)
    have hl := lv_sub (l' := hz_lv b G oa i) hl5 [1, 2, 3, 4, 5] rfl
    refine lv_aload_n C.1.1.1 C.1.1.2.1 dL_law_831 rfl (lv_at hl 2 rfl) ?_
    refine hz_ld C hl w.2.2 1 (by omega) (by decide) dL_law_832 dL_law_833 dL_law_835 dL_law_836 dL_law_837 ?_
    refine hz_ld C hl w.2.2 2 (by omega) (by decide) dL_law_838 dL_law_839 dL_law_841 dL_law_842 dL_law_843 ?_
    refine hz_mc (As := [.int (xs (i + 1)), .int (xs (i + 2))]) (rest := []) C w (fun sz => mX10_sherd l G sz μ (xs (i + 1)) (xs (i + 2)) o2 hg) (cwV 2 hts gL_law_X10_sherd rfl rfl rfl (by decide +kernel) ⟨Nat.le_of_ble_eq_true rfl, Nat.le_of_ble_eq_true rfl⟩) rfl rfl hl.1 rfl (Nat.le_of_ble_eq_true rfl) dL_law_844 ⟨by omega, by omega⟩ (fun H locs w => ?_)
    refine lv_istore (lv' := (6, .int o2.2) :: (5, .int k) :: hz_lv b G oa i) C.1.1.1 C.1.1.2.1 dL_law_847 hl5 (by decide) rfl (fun ls hl6 => ?_)
    have hl := lv_sub (l' := hz_lv b G oa i) hl6 [2, 3, 4, 5, 6] rfl
    refine lv_goto (tgt := 1307) C.1.1.1 C.1.1.2.1 dL_law_849 (by decide) ?_
    exact kk f H locs ls w hl
  rcases ho with h0 | h0 | h0 | h0
  · refine hz_sc (As := [.ref (G.2.2.2.1 0), .int (xs (i + 1)), .int (xs (i + 2)), .ref oa]) (rest := []) C w (fun sz => rL_sherd l G oa sz σ f (xs (i + 1)) (xs (i + 2)) o hf h0) (vx_cwSW 4 hts gL_law_L_sherd rfl rfl rfl (by decide +kernel) ⟨Nat.le_of_ble_eq_true rfl, Nat.le_of_ble_eq_true rfl⟩) rfl hl.1 rfl (Nat.le_of_ble_eq_true rfl) dL_law_826 ⟨by omega, by omega⟩ (fun H locs w => ?_)
    exact W.widen (k := cells + 1) (n := slots + 6) (by omega) (by omega) (kk2 _ _ H locs w)
  · refine hz_sc (As := [.ref (G.2.2.2.1 0), .int (xs (i + 1)), .int (xs (i + 2)), .ref oa]) (rest := []) C w (fun sz => qL_sherd_1 l hlt G oa sz σ f (xs (i + 1)) (xs (i + 2)) o hf h0) (vx_cwSW 4 hts gL_law_L_sherd rfl rfl rfl (by decide +kernel) ⟨Nat.le_of_ble_eq_true rfl, Nat.le_of_ble_eq_true rfl⟩) rfl hl.1 rfl (Nat.le_of_ble_eq_true rfl) dL_law_826 ⟨by omega, by omega⟩ (fun H locs w => ?_)
    exact kk2 _ _ H locs w
  · refine hz_sc (As := [.ref (G.2.2.2.1 0), .int (xs (i + 1)), .int (xs (i + 2)), .ref oa]) (rest := []) C w (fun sz => qL_sherd_2 l hlt G oa sz σ f (xs (i + 1)) (xs (i + 2)) o hf h0) (vx_cwSW 4 hts gL_law_L_sherd rfl rfl rfl (by decide +kernel) ⟨Nat.le_of_ble_eq_true rfl, Nat.le_of_ble_eq_true rfl⟩) rfl hl.1 rfl (Nat.le_of_ble_eq_true rfl) dL_law_826 ⟨by omega, by omega⟩ (fun H locs w => ?_)
    exact kk2 _ _ H locs w
  · refine hz_sc (As := [.ref (G.2.2.2.1 0), .int (xs (i + 1)), .int (xs (i + 2)), .ref oa]) (rest := []) C w (fun sz => qL_sherd_3 l hlt G oa sz σ f (xs (i + 1)) (xs (i + 2)) o hf h0) (vx_cwSW 4 hts gL_law_L_sherd rfl rfl rfl (by decide +kernel) ⟨Nat.le_of_ble_eq_true rfl, Nat.le_of_ble_eq_true rfl⟩) rfl hl.1 rfl (Nat.le_of_ble_eq_true rfl) dL_law_826 ⟨by omega, by omega⟩ (fun H locs w => ?_)
    exact kk2 _ _ H locs w
set_option maxHeartbeats 1000000 in
theorem hz_join {p : Program} {l : Launch} {e : Env} {s : State} {m : MethodId} {below : List Frame} {meth : Method} {c : Code} {H : Heap} {locs : List Loc} {cells slots : Nat} {Q : State → Prop} {ls : Array Slot} {G : hy_G} {b L oa i : Nat} {xs : Nat → Int32} {σ μ : hy_S} {f : Nat → Int64} (C : hz_C p s m c b L xs G) (hlt : l.stackTraces = false) (hi : i + 6 ≤ L) (hcl : cells + 1 ≤ 1106 ∧ slots + 6 ≤ 16273) (w : hz_w G oa s σ f μ H locs) (hl : lv_has ls 7 (hz_lv b G oa i)) {o : hy_O} {o2 : hy_S × Int32} (hf : fX9_join σ (xs (i + 1)) (xs (i + 2)) = some o) (hg : fX10_join μ (xs (i + 1)) (xs (i + 2)) = some o2) (ho : o.2.2 = 0 ∨ o.2.2 = 1) (kk : ∀ (f2 : Nat → Int64) (H1 : Heap) (locs1 : List Loc) (ls1 : Array Slot), hz_w G oa s o.1 f2 o2.1 H1 locs1 → lv_has ls1 7 (hz_lv b G oa i) → W p l e room_1 s m #[Value.ref b] below meth c H1 locs1 (cells + 1) (slots + 6) Q (F0 m 1307 ls1 [])) : W p l e room_1 s m #[Value.ref b] below meth c H locs cells slots Q (F0 m 852 ls []) := by
  have hcl : cells + 1 ≤ room_1.cells ∧ slots + 6 ≤ room_1.slots := hcl
  have hts := C.1.1.2.2.2.2
  refine lv_aload_n C.1.1.1 C.1.1.2.1 dL_law_852 rfl (lv_at hl 1 rfl) ?_
  refine hz_ld C hl w.2.2 1 (by omega) (by decide) dL_law_853 dL_law_854 dL_law_856 dL_law_857 dL_law_858 ?_
  refine hz_ld C hl w.2.2 2 (by omega) (by decide) dL_law_859 dL_law_860 dL_law_862 dL_law_863 dL_law_864 ?_
  refine lv_aload_n C.1.1.1 C.1.1.2.1 dL_law_865 rfl (lv_at hl 3 rfl) ?_
  have kk2 : ∀ (f : Nat → Int64) (k : Int32) (H : Heap) (locs : List Loc), hz_w G oa s o.1 f μ H locs → W p l e room_1 s m #[Value.ref b] below meth c H locs (cells + 1) (slots + 6) Q (F0 m 869 ls [.int k]) := by
    intro f k H locs w
    refine lv_istore (lv' := (5, .int k) :: hz_lv b G oa i) C.1.1.1 C.1.1.2.1 dL_law_869 hl (by decide) rfl (fun ls hl5 => ?_)
    have hl := lv_sub (l' := hz_lv b G oa i) hl5 [1, 2, 3, 4, 5] rfl
    refine lv_aload_n C.1.1.1 C.1.1.2.1 dL_law_871 rfl (lv_at hl 2 rfl) ?_
    refine hz_ld C hl w.2.2 1 (by omega) (by decide) dL_law_872 dL_law_873 dL_law_875 dL_law_876 dL_law_877 ?_
    refine hz_ld C hl w.2.2 2 (by omega) (by decide) dL_law_878 dL_law_879 dL_law_881 dL_law_882 dL_law_883 ?_
    refine hz_mc (As := [.int (xs (i + 1)), .int (xs (i + 2))]) (rest := []) C w (fun sz => mX10_join l G sz μ (xs (i + 1)) (xs (i + 2)) o2 hg) (cwV 2 hts gL_law_X10_join rfl rfl rfl (by decide +kernel) ⟨Nat.le_of_ble_eq_true rfl, Nat.le_of_ble_eq_true rfl⟩) rfl rfl hl.1 rfl (Nat.le_of_ble_eq_true rfl) dL_law_884 ⟨by omega, by omega⟩ (fun H locs w => ?_)
    refine lv_istore (lv' := (6, .int o2.2) :: (5, .int k) :: hz_lv b G oa i) C.1.1.1 C.1.1.2.1 dL_law_887 hl5 (by decide) rfl (fun ls hl6 => ?_)
    have hl := lv_sub (l' := hz_lv b G oa i) hl6 [2, 3, 4, 5, 6] rfl
    refine lv_goto (tgt := 1307) C.1.1.1 C.1.1.2.1 dL_law_889 (by decide) ?_
    exact kk f H locs ls w hl
  rcases ho with h0 | h0
  · refine hz_sc (As := [.ref (G.2.2.2.1 0), .int (xs (i + 1)), .int (xs (i + 2)), .ref oa]) (rest := []) C w (fun sz => rL_join l G oa sz σ f (xs (i + 1)) (xs (i + 2)) o hf h0) (vx_cwSW 4 hts gL_law_L_join rfl rfl rfl (by decide +kernel) ⟨Nat.le_of_ble_eq_true rfl, Nat.le_of_ble_eq_true rfl⟩) rfl hl.1 rfl (Nat.le_of_ble_eq_true rfl) dL_law_866 ⟨by omega, by omega⟩ (fun H locs w => ?_)
    exact W.widen (k := cells + 1) (n := slots + 6) (by omega) (by omega) (kk2 _ _ H locs w)
  · refine hz_sc (As := [.ref (G.2.2.2.1 0), .int (xs (i + 1)), .int (xs (i + 2)), .ref oa]) (rest := []) C w (fun sz => qL_join_1 l hlt G oa sz σ f (xs (i + 1)) (xs (i + 2)) o hf h0) (vx_cwSW 4 hts gL_law_L_join rfl rfl rfl (by decide +kernel) ⟨Nat.le_of_ble_eq_true rfl, Nat.le_of_ble_eq_true rfl⟩) rfl hl.1 rfl (Nat.le_of_ble_eq_true rfl) dL_law_866 ⟨by omega, by omega⟩ (fun H locs w => ?_)
    exact kk2 _ _ H locs w
set_option maxHeartbeats 1000000 in
theorem hz_vessels {p : Program} {l : Launch} {e : Env} {s : State} {m : MethodId} {below : List Frame} {meth : Method} {c : Code} {H : Heap} {locs : List Loc} {cells slots : Nat} {Q : State → Prop} {ls : Array Slot} {G : hy_G} {b L oa i : Nat} {xs : Nat → Int32} {σ μ : hy_S} {f : Nat → Int64} (C : hz_C p s m c b L xs G) (hlt : l.stackTraces = false) (hi : i + 6 ≤ L) (hcl : cells + 1 ≤ 1106 ∧ slots + 6 ≤ 16273) (w : hz_w G oa s σ f μ H locs) (hl : lv_has ls 7 (hz_lv b G oa i)) {o : hy_O} {o2 : hy_S × Int32} (hf : fX9_vessels σ (xs (i + 1)) = some o) (hg : fX10_vessels μ (xs (i + 1)) = some o2) (ho : o.2.2 = 0 ∨ o.2.2 = 1) (kk : ∀ (f2 : Nat → Int64) (H1 : Heap) (locs1 : List Loc) (ls1 : Array Slot), hz_w G oa s o.1 f2 o2.1 H1 locs1 → lv_has ls1 7 (hz_lv b G oa i) → W p l e room_1 s m #[Value.ref b] below meth c H1 locs1 (cells + 1) (slots + 6) Q (F0 m 1307 ls1 [])) : W p l e room_1 s m #[Value.ref b] below meth c H locs cells slots Q (F0 m 892 ls []) := by
  have hcl : cells + 1 ≤ room_1.cells ∧ slots + 6 ≤ room_1.slots := hcl
  have hts := C.1.1.2.2.2.2
  refine lv_aload_n C.1.1.1 C.1.1.2.1 dL_law_892 rfl (lv_at hl 1 rfl) ?_
  refine hz_ld C hl w.2.2 1 (by omega) (by decide) dL_law_893 dL_law_894 dL_law_896 dL_law_897 dL_law_898 ?_
  refine lv_aload_n C.1.1.1 C.1.1.2.1 dL_law_899 rfl (lv_at hl 3 rfl) ?_
  have kk2 : ∀ (f : Nat → Int64) (k : Int32) (H : Heap) (locs : List Loc), hz_w G oa s o.1 f μ H locs → W p l e room_1 s m #[Value.ref b] below meth c H locs (cells + 1) (slots + 6) Q (F0 m 903 ls [.int k]) := by
    intro f k H locs w
    refine lv_istore (lv' := (5, .int k) :: hz_lv b G oa i) C.1.1.1 C.1.1.2.1 dL_law_903 hl (by decide) rfl (fun ls hl5 => ?_)
    have hl := lv_sub (l' := hz_lv b G oa i) hl5 [1, 2, 3, 4, 5] rfl
    refine lv_aload_n C.1.1.1 C.1.1.2.1 dL_law_905 rfl (lv_at hl 2 rfl) ?_
    refine hz_ld C hl w.2.2 1 (by omega) (by decide) dL_law_906 dL_law_907 dL_law_909 dL_law_910 dL_law_911 ?_
    refine hz_mc (As := [.int (xs (i + 1))]) (rest := []) C w (fun sz => mX10_vessels l G sz μ (xs (i + 1)) o2 hg) (cwV 1 hts gL_law_X10_vessels rfl rfl rfl (by decide +kernel) ⟨Nat.le_of_ble_eq_true rfl, Nat.le_of_ble_eq_true rfl⟩) rfl rfl hl.1 rfl (Nat.le_of_ble_eq_true rfl) dL_law_912 ⟨by omega, by omega⟩ (fun H locs w => ?_)
    refine lv_istore (lv' := (6, .int o2.2) :: (5, .int k) :: hz_lv b G oa i) C.1.1.1 C.1.1.2.1 dL_law_915 hl5 (by decide) rfl (fun ls hl6 => ?_)
    have hl := lv_sub (l' := hz_lv b G oa i) hl6 [2, 3, 4, 5, 6] rfl
    refine lv_goto (tgt := 1307) C.1.1.1 C.1.1.2.1 dL_law_917 (by decide) ?_
    exact kk f H locs ls w hl
  rcases ho with h0 | h0
  · refine hz_sc (As := [.ref (G.2.2.2.1 0), .int (xs (i + 1)), .ref oa]) (rest := []) C w (fun sz => rL_vessels l G oa sz σ f (xs (i + 1)) o hf h0) (vx_cwSW 3 hts gL_law_L_vessels rfl rfl rfl (by decide +kernel) ⟨Nat.le_of_ble_eq_true rfl, Nat.le_of_ble_eq_true rfl⟩) rfl hl.1 rfl (Nat.le_of_ble_eq_true rfl) dL_law_900 ⟨by omega, by omega⟩ (fun H locs w => ?_)
    exact W.widen (k := cells + 1) (n := slots + 6) (by omega) (by omega) (kk2 _ _ H locs w)
  · refine hz_sc (As := [.ref (G.2.2.2.1 0), .int (xs (i + 1)), .ref oa]) (rest := []) C w (fun sz => qL_vessels_1 l hlt G oa sz σ f (xs (i + 1)) o hf h0) (vx_cwSW 3 hts gL_law_L_vessels rfl rfl rfl (by decide +kernel) ⟨Nat.le_of_ble_eq_true rfl, Nat.le_of_ble_eq_true rfl⟩) rfl hl.1 rfl (Nat.le_of_ble_eq_true rfl) dL_law_900 ⟨by omega, by omega⟩ (fun H locs w => ?_)
    exact kk2 _ _ H locs w
set_option maxHeartbeats 1000000 in
theorem hz_vessel {p : Program} {l : Launch} {e : Env} {s : State} {m : MethodId} {below : List Frame} {meth : Method} {c : Code} {H : Heap} {locs : List Loc} {cells slots : Nat} {Q : State → Prop} {ls : Array Slot} {G : hy_G} {b L oa i : Nat} {xs : Nat → Int32} {σ μ : hy_S} {f : Nat → Int64} (C : hz_C p s m c b L xs G) (hlt : l.stackTraces = false) (hi : i + 6 ≤ L) (hcl : cells + 1 ≤ 1106 ∧ slots + 6 ≤ 16273) (w : hz_w G oa s σ f μ H locs) (hl : lv_has ls 7 (hz_lv b G oa i)) {o : hy_O} {o2 : hy_S × Int32} (hf : fX9_vessel σ (xs (i + 1)) (xs (i + 2)) = some o) (hg : fX10_vessel μ (xs (i + 1)) (xs (i + 2)) = some o2) (ho : o.2.2 = 0 ∨ o.2.2 = 1 ∨ o.2.2 = 4) (kk : ∀ (f2 : Nat → Int64) (H1 : Heap) (locs1 : List Loc) (ls1 : Array Slot), hz_w G oa s o.1 f2 o2.1 H1 locs1 → lv_has ls1 7 (hz_lv b G oa i) → W p l e room_1 s m #[Value.ref b] below meth c H1 locs1 (cells + 1) (slots + 6) Q (F0 m 1307 ls1 [])) : W p l e room_1 s m #[Value.ref b] below meth c H locs cells slots Q (F0 m 920 ls []) := by
  have hcl : cells + 1 ≤ room_1.cells ∧ slots + 6 ≤ room_1.slots := hcl
  have hts := C.1.1.2.2.2.2
  refine lv_aload_n C.1.1.1 C.1.1.2.1 dL_law_920 rfl (lv_at hl 1 rfl) ?_
  refine hz_ld C hl w.2.2 1 (by omega) (by decide) dL_law_921 dL_law_922 dL_law_924 dL_law_925 dL_law_926 ?_
  refine hz_ld C hl w.2.2 2 (by omega) (by decide) dL_law_927 dL_law_928 dL_law_930 dL_law_931 dL_law_932 ?_
  refine lv_aload_n C.1.1.1 C.1.1.2.1 dL_law_933 rfl (lv_at hl 3 rfl) ?_
  have kk2 : ∀ (f : Nat → Int64) (k : Int32) (H : Heap) (locs : List Loc), hz_w G oa s o.1 f μ H locs → W p l e room_1 s m #[Value.ref b] below meth c H locs (cells + 1) (slots + 6) Q (F0 m 937 ls [.int k]) := by
    intro f k H locs w
    refine lv_istore (lv' := (5, .int k) :: hz_lv b G oa i) C.1.1.1 C.1.1.2.1 dL_law_937 hl (by decide) rfl (fun ls hl5 => ?_)
    have hl := lv_sub (l' := hz_lv b G oa i) hl5 [1, 2, 3, 4, 5] rfl
    refine lv_aload_n C.1.1.1 C.1.1.2.1 dL_law_939 rfl (lv_at hl 2 rfl) ?_
    refine hz_ld C hl w.2.2 1 (by omega) (by decide) dL_law_940 dL_law_941 dL_law_943 dL_law_944 dL_law_945 ?_
    refine hz_ld C hl w.2.2 2 (by omega) (by decide) dL_law_946 dL_law_947 dL_law_949 dL_law_950 dL_law_951 ?_
    refine hz_mc (As := [.int (xs (i + 1)), .int (xs (i + 2))]) (rest := []) C w (fun sz => mX10_vessel l G sz μ (xs (i + 1)) (xs (i + 2)) o2 hg) (cwV 2 hts gL_law_X10_vessel rfl rfl rfl (by decide +kernel) ⟨Nat.le_of_ble_eq_true rfl, Nat.le_of_ble_eq_true rfl⟩) rfl rfl hl.1 rfl (Nat.le_of_ble_eq_true rfl) dL_law_952 ⟨by omega, by omega⟩ (fun H locs w => ?_)
    refine lv_istore (lv' := (6, .int o2.2) :: (5, .int k) :: hz_lv b G oa i) C.1.1.1 C.1.1.2.1 dL_law_955 hl5 (by decide) rfl (fun ls hl6 => ?_)
    have hl := lv_sub (l' := hz_lv b G oa i) hl6 [2, 3, 4, 5, 6] rfl
    refine lv_goto (tgt := 1307) C.1.1.1 C.1.1.2.1 dL_law_957 (by decide) ?_
    exact kk f H locs ls w hl
  rcases ho with h0 | h0 | h0
  · refine hz_sc (As := [.ref (G.2.2.2.1 0), .int (xs (i + 1)), .int (xs (i + 2)), .ref oa]) (rest := []) C w (fun sz => rL_vessel l G oa sz σ f (xs (i + 1)) (xs (i + 2)) o hf h0) (vx_cwSW 4 hts gL_law_L_vessel rfl rfl rfl (by decide +kernel) ⟨Nat.le_of_ble_eq_true rfl, Nat.le_of_ble_eq_true rfl⟩) rfl hl.1 rfl (Nat.le_of_ble_eq_true rfl) dL_law_934 ⟨by omega, by omega⟩ (fun H locs w => ?_)
    exact W.widen (k := cells + 1) (n := slots + 6) (by omega) (by omega) (kk2 _ _ H locs w)
  · refine hz_sc (As := [.ref (G.2.2.2.1 0), .int (xs (i + 1)), .int (xs (i + 2)), .ref oa]) (rest := []) C w (fun sz => qL_vessel_1 l hlt G oa sz σ f (xs (i + 1)) (xs (i + 2)) o hf h0) (vx_cwSW 4 hts gL_law_L_vessel rfl rfl rfl (by decide +kernel) ⟨Nat.le_of_ble_eq_true rfl, Nat.le_of_ble_eq_true rfl⟩) rfl hl.1 rfl (Nat.le_of_ble_eq_true rfl) dL_law_934 ⟨by omega, by omega⟩ (fun H locs w => ?_)
    exact kk2 _ _ H locs w
  · refine hz_sc (As := [.ref (G.2.2.2.1 0), .int (xs (i + 1)), .int (xs (i + 2)), .ref oa]) (rest := []) C w (fun sz => qL_vessel_2 l hlt G oa sz σ f (xs (i + 1)) (xs (i + 2)) o hf h0) (vx_cwSW 4 hts gL_law_L_vessel rfl rfl rfl (by decide +kernel) ⟨Nat.le_of_ble_eq_true rfl, Nat.le_of_ble_eq_true rfl⟩) rfl hl.1 rfl (Nat.le_of_ble_eq_true rfl) dL_law_934 ⟨by omega, by omega⟩ (fun H locs w => ?_)
    exact kk2 _ _ H locs w
set_option maxHeartbeats 1000000 in
theorem hz_tell {p : Program} {l : Launch} {e : Env} {s : State} {m : MethodId} {below : List Frame} {meth : Method} {c : Code} {H : Heap} {locs : List Loc} {cells slots : Nat} {Q : State → Prop} {ls : Array Slot} {G : hy_G} {b L oa i : Nat} {xs : Nat → Int32} {σ μ : hy_S} {f : Nat → Int64} (C : hz_C p s m c b L xs G) (hlt : l.stackTraces = false) (hi : i + 6 ≤ L) (hcl : cells + 1 ≤ 1106 ∧ slots + 6 ≤ 16273) (w : hz_w G oa s σ f μ H locs) (hl : lv_has ls 7 (hz_lv b G oa i)) {o : hy_O} {o2 : hy_S × Int32} (hf : fX9_tell σ (xs (i + 1)) (xs (i + 2)) (xs (i + 3)) = some o) (hg : fX10_tell μ (xs (i + 1)) (xs (i + 2)) (xs (i + 3)) = some o2) (ho : o.2.2 = 0 ∨ o.2.2 = 1 ∨ o.2.2 = 2 ∨ o.2.2 = 3) (kk : ∀ (f2 : Nat → Int64) (H1 : Heap) (locs1 : List Loc) (ls1 : Array Slot), hz_w G oa s o.1 f2 o2.1 H1 locs1 → lv_has ls1 7 (hz_lv b G oa i) → W p l e room_1 s m #[Value.ref b] below meth c H1 locs1 (cells + 1) (slots + 6) Q (F0 m 1307 ls1 [])) : W p l e room_1 s m #[Value.ref b] below meth c H locs cells slots Q (F0 m 960 ls []) := by
  have hcl : cells + 1 ≤ room_1.cells ∧ slots + 6 ≤ room_1.slots := hcl
  have hts := C.1.1.2.2.2.2
  refine lv_aload_n C.1.1.1 C.1.1.2.1 dL_law_960 rfl (lv_at hl 1 rfl) ?_
  refine hz_ld C hl w.2.2 1 (by omega) (by decide) dL_law_961 dL_law_962 dL_law_964 dL_law_965 dL_law_966 ?_
  refine hz_ld C hl w.2.2 2 (by omega) (by decide) dL_law_967 dL_law_968 dL_law_970 dL_law_971 dL_law_972 ?_
  refine hz_ld C hl w.2.2 3 (by omega) (by decide) dL_law_973 dL_law_974 dL_law_976 dL_law_977 dL_law_978 ?_
  refine lv_aload_n C.1.1.1 C.1.1.2.1 dL_law_979 rfl (lv_at hl 3 rfl) ?_
  have kk2 : ∀ (f : Nat → Int64) (k : Int32) (H : Heap) (locs : List Loc), hz_w G oa s o.1 f μ H locs → W p l e room_1 s m #[Value.ref b] below meth c H locs (cells + 1) (slots + 6) Q (F0 m 983 ls [.int k]) := by
    intro f k H locs w
    refine lv_istore (lv' := (5, .int k) :: hz_lv b G oa i) C.1.1.1 C.1.1.2.1 dL_law_983 hl (by decide) rfl (fun ls hl5 => ?_)
    have hl := lv_sub (l' := hz_lv b G oa i) hl5 [1, 2, 3, 4, 5] rfl
    refine lv_aload_n C.1.1.1 C.1.1.2.1 dL_law_985 rfl (lv_at hl 2 rfl) ?_
    refine hz_ld C hl w.2.2 1 (by omega) (by decide) dL_law_986 dL_law_987 dL_law_989 dL_law_990 dL_law_991 ?_
    refine hz_ld C hl w.2.2 2 (by omega) (by decide) dL_law_992 dL_law_993 dL_law_995 dL_law_996 dL_law_997 ?_
    refine hz_ld C hl w.2.2 3 (by omega) (by decide) dL_law_998 dL_law_999 dL_law_1001 dL_law_1002 dL_law_1003 ?_
    refine hz_mc (As := [.int (xs (i + 1)), .int (xs (i + 2)), .int (xs (i + 3))]) (rest := []) C w (fun sz => mX10_tell l G sz μ (xs (i + 1)) (xs (i + 2)) (xs (i + 3)) o2 hg) (cwV 3 hts gL_law_X10_tell rfl rfl rfl (by decide +kernel) ⟨Nat.le_of_ble_eq_true rfl, Nat.le_of_ble_eq_true rfl⟩) rfl rfl hl.1 rfl (Nat.le_of_ble_eq_true rfl) dL_law_1004 ⟨by omega, by omega⟩ (fun H locs w => ?_)
    refine lv_istore (lv' := (6, .int o2.2) :: (5, .int k) :: hz_lv b G oa i) C.1.1.1 C.1.1.2.1 dL_law_1007 hl5 (by decide) rfl (fun ls hl6 => ?_)
    have hl := lv_sub (l' := hz_lv b G oa i) hl6 [2, 3, 4, 5, 6] rfl
    refine lv_goto (tgt := 1307) C.1.1.1 C.1.1.2.1 dL_law_1009 (by decide) ?_
    exact kk f H locs ls w hl
  rcases ho with h0 | h0 | h0 | h0
  · refine hz_sc (As := [.ref (G.2.2.2.1 0), .int (xs (i + 1)), .int (xs (i + 2)), .int (xs (i + 3)), .ref oa]) (rest := []) C w (fun sz => rL_tell l G oa sz σ f (xs (i + 1)) (xs (i + 2)) (xs (i + 3)) o hf h0) (vx_cwSW 5 hts gL_law_L_tell rfl rfl rfl (by decide +kernel) ⟨Nat.le_of_ble_eq_true rfl, Nat.le_of_ble_eq_true rfl⟩) rfl hl.1 rfl (Nat.le_of_ble_eq_true rfl) dL_law_980 ⟨by omega, by omega⟩ (fun H locs w => ?_)
    exact W.widen (k := cells + 1) (n := slots + 6) (by omega) (by omega) (kk2 _ _ H locs w)
  · refine hz_sc (As := [.ref (G.2.2.2.1 0), .int (xs (i + 1)), .int (xs (i + 2)), .int (xs (i + 3)), .ref oa]) (rest := []) C w (fun sz => qL_tell_1 l hlt G oa sz σ f (xs (i + 1)) (xs (i + 2)) (xs (i + 3)) o hf h0) (vx_cwSW 5 hts gL_law_L_tell rfl rfl rfl (by decide +kernel) ⟨Nat.le_of_ble_eq_true rfl, Nat.le_of_ble_eq_true rfl⟩) rfl hl.1 rfl (Nat.le_of_ble_eq_true rfl) dL_law_980 ⟨by omega, by omega⟩ (fun H locs w => ?_)
    exact kk2 _ _ H locs w
  · refine hz_sc (As := [.ref (G.2.2.2.1 0), .int (xs (i + 1)), .int (xs (i + 2)), .int (xs (i + 3)), .ref oa]) (rest := []) C w (fun sz => qL_tell_2 l hlt G oa sz σ f (xs (i + 1)) (xs (i + 2)) (xs (i + 3)) o hf h0) (vx_cwSW 5 hts gL_law_L_tell rfl rfl rfl (by decide +kernel) ⟨Nat.le_of_ble_eq_true rfl, Nat.le_of_ble_eq_true rfl⟩) rfl hl.1 rfl (Nat.le_of_ble_eq_true rfl) dL_law_980 ⟨by omega, by omega⟩ (fun H locs w => ?_)
    exact kk2 _ _ H locs w
  · refine hz_sc (As := [.ref (G.2.2.2.1 0), .int (xs (i + 1)), .int (xs (i + 2)), .int (xs (i + 3)), .ref oa]) (rest := []) C w (fun sz => qL_tell_3 l hlt G oa sz σ f (xs (i + 1)) (xs (i + 2)) (xs (i + 3)) o hf h0) (vx_cwSW 5 hts gL_law_L_tell rfl rfl rfl (by decide +kernel) ⟨Nat.le_of_ble_eq_true rfl, Nat.le_of_ble_eq_true rfl⟩) rfl hl.1 rfl (Nat.le_of_ble_eq_true rfl) dL_law_980 ⟨by omega, by omega⟩ (fun H locs w => ?_)
    exact kk2 _ _ H locs w
