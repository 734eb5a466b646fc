set_option maxHeartbeats 1000000 in
theorem hz_fault {p : Program} {l : Launch} {e : Env} {s : State} {m : MethodId} {below : List Frame} {meth : Method} {c : Code} {H : Heap} {locs : List Loc} {cells slots : Nat} {Q : State → Prop} {ls : Array Slot} {G : hy_G} {b L oa i : Nat} {xs : Nat → Int32} {σ μ : hy_S} {f : Nat → Int64} (C : hz_C p s m c b L xs G) (hlt : l.stackTraces = false) (hi : i + 6 ≤ L) (hcl : cells + 1 ≤ 1106 ∧ slots + 6 ≤ 16273) (w : hz_w G oa s σ f μ H locs) (hl : lv_has ls 7 (hz_lv b G oa i)) {o o2 : hy_S × Int32} (hf : fX9_fault σ = some o) (hg : fX10_fault μ = some o2) (kk : ∀ (f2 : Nat → Int64) (H1 : Heap) (locs1 : List Loc) (ls1 : Array Slot), hz_w G oa s o.1 f2 o2.1 H1 locs1 → lv_has ls1 7 (hz_lv b G oa i) → W p l e room_1 s m #[Value.ref b] below meth c H1 locs1 (cells + 1) (slots + 6) Q (F0 m 1290 ls1 [])) : W p l e room_1 s m #[Value.ref b] below meth c H locs cells slots Q (F0 m 754 ls []) := by
  have hcl : cells + 1 ≤ room_1.cells ∧ slots + 6 ≤ room_1.slots := hcl
  have hts := C.1.1.2.2.2.2
  refine lv_aload_n C.1.1.1 C.1.1.2.1 dL_law_754 rfl (lv_at hl 1 rfl) ?_
  refine hz_xc (As := []) (rest := []) C w (fun sz => mX9_fault l G sz σ o hf) (cwV 0 hts gL_law_X9_fault rfl rfl rfl (by decide +kernel) ⟨Nat.le_of_ble_eq_true rfl, Nat.le_of_ble_eq_true rfl⟩) rfl rfl hl.1 rfl (Nat.le_of_ble_eq_true rfl) dL_law_755 ⟨by omega, by omega⟩ (fun H locs w => ?_)
  refine lv_pop C.1.1.1 C.1.1.2.1 dL_law_758 rfl ?_
  refine lv_aload_n C.1.1.1 C.1.1.2.1 dL_law_759 rfl (lv_at hl 2 rfl) ?_
  refine hz_mc (As := []) (rest := []) C w (fun sz => mX10_fault l G sz μ o2 hg) (cwV 0 hts gL_law_X10_fault rfl rfl rfl (by decide +kernel) ⟨Nat.le_of_ble_eq_true rfl, Nat.le_of_ble_eq_true rfl⟩) rfl rfl hl.1 rfl (Nat.le_of_ble_eq_true rfl) dL_law_760 ⟨by omega, by omega⟩ (fun H locs w => ?_)
  refine lv_pop C.1.1.1 C.1.1.2.1 dL_law_763 rfl ?_
  refine lv_goto (tgt := 1290) C.1.1.1 C.1.1.2.1 dL_law_764 (by decide) ?_
  exact W.widen (k := cells + 1) (n := slots + 6) (by omega) (by omega) (kk f H locs ls w hl)
set_option maxHeartbeats 1000000 in
theorem hz_notes {p : Program} {l : Launch} {e : Env} {s : State} {m : MethodId} {below : List Frame} {meth : Method} {c : Code} {H : Heap} {locs : List Loc} {cells slots : Nat} {Q : State → Prop} {ls : Array Slot} {G : hy_G} {b L oa i : Nat} {xs : Nat → Int32} {σ μ : hy_S} {f : Nat → Int64} (C : hz_C p s m c b L xs G) (hlt : l.stackTraces = false) (hi : i + 6 ≤ L) (hcl : cells + 1 ≤ 1106 ∧ slots + 6 ≤ 16273) (w : hz_w G oa s σ f μ H locs) (hl : lv_has ls 7 (hz_lv b G oa i)) {o : hy_O} {o2 : hy_S × Int32} (hf : fX9_notes σ (xs (i + 1)) (if xs (i + 2) = 0 then 0 else 1) = some o) (hg : fX10_notes μ (xs (i + 1)) (if xs (i + 2) = 0 then 0 else 1) = some o2) (ho : o.2.2 = 0 ∨ o.2.2 = 1) (kk : ∀ (f2 : Nat → Int64) (H1 : Heap) (locs1 : List Loc) (ls1 : Array Slot), hz_w G oa s o.1 f2 o2.1 H1 locs1 → lv_has ls1 7 (hz_lv b G oa i) → W p l e room_1 s m #[Value.ref b] below meth c H1 locs1 (cells + 1) (slots + 6) Q (F0 m 1290 ls1 [])) : W p l e room_1 s m #[Value.ref b] below meth c H locs cells slots Q (F0 m 767 ls []) := by
  have hcl : cells + 1 ≤ room_1.cells ∧ slots + 6 ≤ room_1.slots := hcl
  have hts := C.1.1.2.2.2.2
  refine lv_aload_n C.1.1.1 C.1.1.2.1 dL_law_767 rfl (lv_at hl 1 rfl) ?_
  refine hz_ld C hl w.2.2 1 (by omega) (by decide) dL_law_768 dL_law_769 dL_law_771 dL_law_772 dL_law_773 ?_
  refine hz_ld C hl w.2.2 2 (by omega) (by decide) dL_law_774 dL_law_775 dL_law_777 dL_law_778 dL_law_779 ?_
  refine hz_nz C (t1 := 787) (t2 := 788) dL_law_780 dL_law_783 dL_law_784 rfl dL_law_787 rfl ?_
  refine lv_aload_n C.1.1.1 C.1.1.2.1 dL_law_788 rfl (lv_at hl 3 rfl) ?_
  have kk2 : ∀ (f : Nat → Int64) (k : Int32) (H : Heap) (locs : List Loc), hz_w G oa s o.1 f μ H locs → W p l e room_1 s m #[Value.ref b] below meth c H locs (cells + 1) (slots + 6) Q (F0 m 792 ls [.int k]) := by
    intro f k H locs w
    refine lv_istore (lv' := (5, .int k) :: hz_lv b G oa i) C.1.1.1 C.1.1.2.1 dL_law_792 hl (by decide) rfl (fun ls hl5 => ?_)
    have hl := lv_sub (l' := hz_lv b G oa i) hl5 [1, 2, 3, 4, 5] rfl
    refine lv_aload_n C.1.1.1 C.1.1.2.1 dL_law_794 rfl (lv_at hl 2 rfl) ?_
    refine hz_ld C hl w.2.2 1 (by omega) (by decide) dL_law_795 dL_law_796 dL_law_798 dL_law_799 dL_law_800 ?_
    refine hz_ld C hl w.2.2 2 (by omega) (by decide) dL_law_801 dL_law_802 dL_law_804 dL_law_805 dL_law_806 ?_
    refine hz_nz C (t1 := 814) (t2 := 815) dL_law_807 dL_law_810 dL_law_811 rfl dL_law_814 rfl ?_
    refine hz_mc (As := [.int (xs (i + 1)), .int (if xs (i + 2) = 0 then 0 else 1)]) (rest := []) C w (fun sz => mX10_notes l G sz μ (xs (i + 1)) (if xs (i + 2) = 0 then 0 else 1) o2 hg) (cwV 2 hts gL_law_X10_notes rfl rfl rfl (by decide +kernel) ⟨Nat.le_of_ble_eq_true rfl, Nat.le_of_ble_eq_true rfl⟩) rfl rfl hl.1 rfl (Nat.le_of_ble_eq_true rfl) dL_law_815 ⟨by omega, by omega⟩ (fun H locs w => ?_)
    refine lv_istore (lv' := (6, .int o2.2) :: hz_lv b G oa i) C.1.1.1 C.1.1.2.1 dL_law_818 hl (by decide) rfl (fun ls hl => ?_)
    have hl := lv_sub (l' := hz_lv b G oa i) hl [1, 2, 3, 4, 5] rfl
    refine lv_goto (tgt := 1290) C.1.1.1 C.1.1.2.1 dL_law_820 (by decide) ?_
    exact kk f H locs ls w hl
  rcases ho with h0 | h0
  · refine hz_sc (As := [.ref (G.2.2.2.1 0), .int (xs (i + 1)), .int (if xs (i + 2) = 0 then 0 else 1), .ref oa]) (rest := []) C w (fun sz => rL_notes l G oa sz σ f (xs (i + 1)) (if xs (i + 2) = 0 then 0 else 1) o hf h0) (vx_cwSW 4 hts gL_law_L_notes rfl rfl rfl (by decide +kernel) ⟨Nat.le_of_ble_eq_true rfl, Nat.le_of_ble_eq_true rfl⟩) rfl hl.1 rfl (Nat.le_of_ble_eq_true rfl) dL_law_789 ⟨by omega, by omega⟩ (fun H locs w => ?_)
    exact W.widen (k := cells + 1) (n := slots + 6) (by omega) (by omega) (kk2 _ _ H locs w)
  · refine hz_sc (As := [.ref (G.2.2.2.1 0), .int (xs (i + 1)), .int (if xs (i + 2) = 0 then 0 else 1), .ref oa]) (rest := []) C w (fun sz => qL_notes_1 l hlt G oa sz σ f (xs (i + 1)) (if xs (i + 2) = 0 then 0 else 1) o hf h0) (vx_cwSW 4 hts gL_law_L_notes rfl rfl rfl (by decide +kernel) ⟨Nat.le_of_ble_eq_true rfl, Nat.le_of_ble_eq_true rfl⟩) rfl hl.1 rfl (Nat.le_of_ble_eq_true rfl) dL_law_789 ⟨by omega, by omega⟩ (fun H locs w => ?_)
    exact kk2 _ _ H locs w
set_option maxHeartbeats 1000000 in
theorem hz_sherd {p : Program} {l : Launch} {e : Env} {s : State} {m : MethodId} {below : List Frame} {meth : Method} {c : Code} {H : Heap} {locs : List Loc} {cells slots : Nat} {Q : State → Prop} {ls : Array Slot} {G : hy_G} {b L oa i : Nat} {xs : Nat → Int32} {σ μ : hy_S} {f : Nat → Int64} (C : hz_C p s m c b L xs G) (hlt : l.stackTraces = false) (hi : i + 6 ≤ L) (hcl : cells + 1 ≤ 1106 ∧ slots + 6 ≤ 16273) (w : hz_w G oa s σ f μ H locs) (hl : lv_has ls 7 (hz_lv b G oa i)) {o : hy_O} {o2 : hy_S × Int32} (hf : fX9_sherd σ (xs (i + 1)) (xs (i + 2)) = some o) (hg : fX10_sherd μ (xs (i + 1)) (xs (i + 2)) = some o2) (ho : o.2.2 = 0 ∨ o.2.2 = 1 ∨ o.2.2 = 2 ∨ o.2.2 = 3) (kk : ∀ (f2 : Nat → Int64) (H1 : Heap) (locs1 : List Loc) (ls1 : Array Slot), hz_w G oa s o.1 f2 o2.1 H1 locs1 → lv_has ls1 7 (hz_lv b G oa i) → W p l e room_1 s m #[Value.ref b] below meth c H1 locs1 (cells + 1) (slots + 6) Q (F0 m 1290 ls1 [])) : W p l e room_1 s m #[Value.ref b] below meth c H locs cells slots Q (F0 m 823 ls []) := by
  have hcl : cells + 1 ≤ room_1.cells ∧ slots + 6 ≤ room_1.slots := hcl
  have hts := C.1.1.2.2.2.2
  refine lv_aload_n C.1.1.1 C.1.1.2.1 dL_law_823 rfl (lv_at hl 1 rfl) ?_
  refine hz_ld C hl w.2.2 1 (by omega) (by decide) dL_law_824 dL_law_825 dL_law_827 dL_law_828 dL_law_829 ?_
  refine hz_ld C hl w.2.2 2 (by omega) (by decide) dL_law_830 dL_law_831 dL_law_833 dL_law_834 dL_law_835 ?_
  refine lv_aload_n C.1.1.1 C.1.1.2.1 dL_law_836 rfl (lv_at hl 3 rfl) ?_
  have kk2 : ∀ (f : Nat → Int64) (k : Int32) (H : Heap) (locs : List Loc), hz_w G oa s o.1 f μ H locs → W p l e room_1 s m #[Value.ref b] below meth c H locs (cells + 1) (slots + 6) Q (F0 m 840 ls [.int k]) := by
    intro f k H locs w
    refine lv_istore (lv' := (5, .int k) :: hz_lv b G oa i) C.1.1.1 C.1.1.2.1 dL_law_840 hl (by decide) rfl (fun ls hl5 => ?_)
    have hl := lv_sub (l' := hz_lv b G oa i) hl5 [1, 2, 3, 4, 5] rfl
    refine lv_aload_n C.1.1.1 C.1.1.2.1 dL_law_842 rfl (lv_at hl 2 rfl) ?_
    refine hz_ld C hl w.2.2 1 (by omega) (by decide) dL_law_843 dL_law_844 dL_law_846 dL_law_847 dL_law_848 ?_
    refine hz_ld C hl w.2.2 2 (by omega) (by decide) dL_law_849 dL_law_850 dL_law_852 dL_law_853 dL_law_854 ?_
    refine hz_mc (As := [.int (xs (i + 1)), .int (xs (i + 2))]) (rest := []) C w (fun sz => mX10_sherd l G sz μ (xs (i + 1)) (xs (i + 2)) o2 hg) (cwV 2 hts gL_law_X10_sherd rfl rfl rfl (by decide +kernel) ⟨Nat.le_of_ble_eq_true rfl, Nat.le_of_ble_eq_true rfl⟩) rfl rfl hl.1 rfl (Nat.le_of_ble_eq_true rfl) dL_law_855 ⟨by omega, by omega⟩ (fun H locs w => ?_)
    refine lv_istore (lv' := (6, .int o2.2) :: hz_lv b G oa i) C.1.1.1 C.1.1.2.1 dL_law_858 hl (by decide) rfl (fun ls hl => ?_)
    have hl := lv_sub (l' := hz_lv b G oa i) hl [1, 2, 3, 4, 5] rfl
    refine lv_goto (tgt := 1290) C.1.1.1 C.1.1.2.1 dL_law_860 (by decide) ?_
    exact kk f H locs ls w hl
  rcases ho with h0 | h0 | h0 | h0
  · refine hz_sc (As := [.ref (G.2.2.2.1 0), .int (xs (i + 1)), .int (xs (i + 2)), .ref oa]) (rest := []) C w (fun sz => rL_sherd l G oa sz σ f (xs (i + 1)) (xs (i + 2)) o hf h0) (vx_cwSW 4 hts gL_law_L_sherd rfl rfl rfl (by decide +kernel) ⟨Nat.le_of_ble_eq_true rfl, Nat.le_of_ble_eq_true rfl⟩) rfl hl.1 rfl (Nat.le_of_ble_eq_true rfl) dL_law_837 ⟨by omega, by omega⟩ (fun H locs w => ?_)
    exact W.widen (k := cells + 1) (n := slots + 6) (by omega) (by omega) (kk2 _ _ H locs w)
  · refine hz_sc (As := [.ref (G.2.2.2.1 0), .int (xs (i + 1)), .int (xs (i + 2)), .ref oa]) (rest := []) C w (fun sz => qL_sherd_1 l hlt G oa sz σ f (xs (i + 1)) (xs (i + 2)) o hf h0) (vx_cwSW 4 hts gL_law_L_sherd rfl rfl rfl (by decide +kernel) ⟨Nat.le_of_ble_eq_true rfl, Nat.le_of_ble_eq_true rfl⟩) rfl hl.1 rfl (Nat.le_of_ble_eq_true rfl) dL_law_837 ⟨by omega, by omega⟩ (fun H locs w => ?_)
    exact kk2 _ _ H locs w
  · refine hz_sc (As := [.ref (G.2.2.2.1 0), .int (xs (i + 1)), .int (xs (i + 2)), .ref oa]) (rest := []) C w (fun sz => qL_sherd_2 l hlt G oa sz σ f (xs (i + 1)) (xs (i + 2)) o hf h0) (vx_cwSW 4 hts gL_law_L_sherd rfl rfl rfl (by decide +kernel) ⟨Nat.le_of_ble_eq_true rfl, Nat.le_of_ble_eq_true rfl⟩) rfl hl.1 rfl (Nat.le_of_ble_eq_true rfl) dL_law_837 ⟨by omega, by omega⟩ (fun H locs w => ?_)
    exact kk2 _ _ H locs w
  · refine hz_sc (As := [.ref (G.2.2.2.1 0), .int (xs (i + 1)), .int (xs (i + 2)), .ref oa]) (rest := []) C w (fun sz => qL_sherd_3 l hlt G oa sz σ f (xs (i + 1)) (xs (i + 2)) o hf h0) (vx_cwSW 4 hts gL_law_L_sherd rfl rfl rfl (by decide +kernel) ⟨Nat.le_of_ble_eq_true rfl, Nat.le_of_ble_eq_true rfl⟩) rfl hl.1 rfl (Nat.le_of_ble_eq_true rfl) dL_law_837 ⟨by omega, by omega⟩ (fun H locs w => ?_)
    exact kk2 _ _ H locs w
set_option maxHeartbeats 1000000 in
theorem hz_join {p : Program} {l : Launch} {e : Env} {s : State} {m : MethodId} {below : List Frame} {meth : Method} {c : Code} {H : Heap} {locs : List Loc} {cells slots : Nat} {Q : State → Prop} {ls : Array Slot} {G : hy_G} {b L oa i : Nat} {xs : Nat → Int32} {σ μ : hy_S} {f : Nat → Int64} (C : hz_C p s m c b L xs G) (hlt : l.stackTraces = false) (hi : i + 6 ≤ L) (hcl : cells + 1 ≤ 1106 ∧ slots + 6 ≤ 16273) (w : hz_w G oa s σ f μ H locs) (hl : lv_has ls 7 (hz_lv b G oa i)) {o : hy_O} {o2 : hy_S × Int32} (hf : fX9_join σ (xs (i + 1)) (xs (i + 2)) = some o) (hg : fX10_join μ (xs (i + 1)) (xs (i + 2)) = some o2) (ho : o.2.2 = 0 ∨ o.2.2 = 1) (kk : ∀ (f2 : Nat → Int64) (H1 : Heap) (locs1 : List Loc) (ls1 : Array Slot), hz_w G oa s o.1 f2 o2.1 H1 locs1 → lv_has ls1 7 (hz_lv b G oa i) → W p l e room_1 s m #[Value.ref b] below meth c H1 locs1 (cells + 1) (slots + 6) Q (F0 m 1290 ls1 [])) : W p l e room_1 s m #[Value.ref b] below meth c H locs cells slots Q (F0 m 863 ls []) := by
  have hcl : cells + 1 ≤ room_1.cells ∧ slots + 6 ≤ room_1.slots := hcl
  have hts := C.1.1.2.2.2.2
  refine lv_aload_n C.1.1.1 C.1.1.2.1 dL_law_863 rfl (lv_at hl 1 rfl) ?_
  refine hz_ld C hl w.2.2 1 (by omega) (by decide) dL_law_864 dL_law_865 dL_law_867 dL_law_868 dL_law_869 ?_
  refine hz_ld C hl w.2.2 2 (by omega) (by decide) dL_law_870 dL_law_871 dL_law_873 dL_law_874 dL_law_875 ?_
  refine lv_aload_n C.1.1.1 C.1.1.2.1 dL_law_876 rfl (lv_at hl 3 rfl) ?_
  have kk2 : ∀ (f : Nat → Int64) (k : Int32) (H : Heap) (locs : List Loc), hz_w G oa s o.1 f μ H locs → W p l e room_1 s m #[Value.ref b] below meth c H locs (cells + 1) (slots + 6) Q (F0 m 880 ls [.int k]) := by
    intro f k H locs w
    refine lv_istore (lv' := (5, .int k) :: hz_lv b G oa i) C.1.1.1 C.1.1.2.1 dL_law_880 hl (by decide) rfl (fun ls hl5 => ?_)
    have hl := lv_sub (l' := hz_lv b G oa i) hl5 [1, 2, 3, 4, 5] rfl
    refine lv_aload_n C.1.1.1 C.1.1.2.1 dL_law_882 rfl (lv_at hl 2 rfl) ?_
    refine hz_ld C hl w.2.2 1 (by omega) (by decide) dL_law_883 dL_law_884 dL_law_886 dL_law_887 dL_law_888 ?_
    refine hz_ld C hl w.2.2 2 (by omega) (by decide) dL_law_889 dL_law_890 dL_law_892 dL_law_893 dL_law_894 ?_
    refine hz_mc (As := [.int (xs (i + 1)), .int (xs (i + 2))]) (rest := []) C w (fun sz => mX10_join l G sz μ (xs (i + 1)) (xs (i + 2)) o2 hg) (cwV 2 hts gL_law_X10_join rfl rfl rfl (by decide +kernel) ⟨Nat.le_of_ble_eq_true rfl, Nat.le_of_ble_eq_true rfl⟩) rfl rfl hl.1 rfl (Nat.le_of_ble_eq_true rfl) dL_law_895 ⟨by omega, by omega⟩ (fun H locs w => ?_)
    refine lv_istore (lv' := (6, .int o2.2) :: hz_lv b G oa i) C.1.1.1 C.1.1.2.1 dL_law_898 hl (by decide) rfl (fun ls hl => ?_)
    have hl := lv_sub (l' := hz_lv b G oa i) hl [1, 2, 3, 4, 5] rfl
    refine lv_goto (tgt := 1290) C.1.1.1 C.1.1.2.1 dL_law_900 (by decide) ?_
    exact kk f H locs ls w hl
  rcases ho with h0 | h0
  · refine hz_sc (As := [.ref (G.2.2.2.1 0), .int (xs (i + 1)), .int (xs (i + 2)), .ref oa]) (rest := []) C w (fun sz => rL_join l G oa sz σ f (xs (i + 1)) (xs (i + 2)) o hf h0) (vx_cwSW 4 hts gL_law_L_join rfl rfl rfl (by decide +kernel) ⟨Nat.le_of_ble_eq_true rfl, Nat.le_of_ble_eq_true rfl⟩) rfl hl.1 rfl (Nat.le_of_ble_eq_true rfl) dL_law_877 ⟨by omega, by omega⟩ (fun H locs w => ?_)
    exact W.widen (k := cells + 1) (n := slots + 6) (by omega) (by omega) (kk2 _ _ H locs w)
  · refine hz_sc (As := [.ref (G.2.2.2.1 0), .int (xs (i + 1)), .int (xs (i + 2)), .ref oa]) (rest := []) C w (fun sz => qL_join_1 l hlt G oa sz σ f (xs (i + 1)) (xs (i + 2)) o hf h0) (vx_cwSW 4 hts gL_law_L_join rfl rfl rfl (by decide +kernel) ⟨Nat.le_of_ble_eq_true rfl, Nat.le_of_ble_eq_true rfl⟩) rfl hl.1 rfl (Nat.le_of_ble_eq_true rfl) dL_law_877 ⟨by omega, by omega⟩ (fun H locs w => ?_)
    exact kk2 _ _ H locs w
set_option maxHeartbeats 1000000 in
theorem hz_vessels {p : Program} {l : Launch} {e : Env} {s : State} {m : MethodId} {below : List Frame} {meth : Method} {c : Code} {H : Heap} {locs : List Loc} {cells slots : Nat} {Q : State → Prop} {ls : Array Slot} {G : hy_G} {b L oa i : Nat} {xs : Nat → Int32} {σ μ : hy_S} {f : Nat → Int64} (C : hz_C p s m c b L xs G) (hlt : l.stackTraces = false) (hi : i + 6 ≤ L) (hcl : cells + 1 ≤ 1106 ∧ slots + 6 ≤ 16273) (w : hz_w G oa s σ f μ H locs) (hl : lv_has ls 7 (hz_lv b G oa i)) {o : hy_O} {o2 : hy_S × Int32} (hf : fX9_vessels σ (xs (i + 1)) = some o) (hg : fX10_vessels μ (xs (i + 1)) = some o2) (ho : o.2.2 = 0 ∨ o.2.2 = 1) (kk : ∀ (f2 : Nat → Int64) (H1 : Heap) (locs1 : List Loc) (ls1 : Array Slot), hz_w G oa s o.1 f2 o2.1 H1 locs1 → lv_has ls1 7 (hz_lv b G oa i) → W p l e room_1 s m #[Value.ref b] below meth c H1 locs1 (cells + 1) (slots + 6) Q (F0 m 1290 ls1 [])) : W p l e room_1 s m #[Value.ref b] below meth c H locs cells slots Q (F0 m 903 ls []) := by
  have hcl : cells + 1 ≤ room_1.cells ∧ slots + 6 ≤ room_1.slots := hcl
  have hts := C.1.1.2.2.2.2
  refine lv_aload_n C.1.1.1 C.1.1.2.1 dL_law_903 rfl (lv_at hl 1 rfl) ?_
  refine hz_ld C hl w.2.2 1 (by omega) (by decide) dL_law_904 dL_law_905 dL_law_907 dL_law_908 dL_law_909 ?_
  refine lv_aload_n C.1.1.1 C.1.1.2.1 dL_law_910 rfl (lv_at hl 3 rfl) ?_
  have kk2 : ∀ (f : Nat → Int64) (k : Int32) (H : Heap) (locs : List Loc), hz_w G oa s o.1 f μ H locs → W p l e room_1 s m #[Value.ref b] below meth c H locs (cells + 1) (slots + 6) Q (F0 m 914 ls [.int k]) := by
    intro f k H locs w
    refine lv_istore (lv' := (5, .int k) :: hz_lv b G oa i) C.1.1.1 C.1.1.2.1 dL_law_914 hl (by decide) rfl (fun ls hl5 => ?_)
    have hl := lv_sub (l' := hz_lv b G oa i) hl5 [1, 2, 3, 4, 5] rfl
    refine lv_aload_n C.1.1.1 C.1.1.2.1 dL_law_916 rfl (lv_at hl 2 rfl) ?_
    refine hz_ld C hl w.2.2 1 (by omega) (by decide) dL_law_917 dL_law_918 dL_law_920 dL_law_921 dL_law_922 ?_
    refine hz_mc (As := [.int (xs (i + 1))]) (rest := []) C w (fun sz => mX10_vessels l G sz μ (xs (i + 1)) o2 hg) (cwV 1 hts gL_law_X10_vessels rfl rfl rfl (by decide +kernel) ⟨Nat.le_of_ble_eq_true rfl, Nat.le_of_ble_eq_true rfl⟩) rfl rfl hl.1 rfl (Nat.le_of_ble_eq_true rfl) dL_law_923 ⟨by omega, by omega⟩ (fun H locs w => ?_)
    refine lv_istore (lv' := (6, .int o2.2) :: hz_lv b G oa i) C.1.1.1 C.1.1.2.1 dL_law_926 hl (by decide) rfl (fun ls hl => ?_)
    have hl := lv_sub (l' := hz_lv b G oa i) hl [1, 2, 3, 4, 5] rfl
    refine lv_goto (tgt := 1290) C.1.1.1 C.1.1.2.1 dL_law_928 (by decide) ?_
    exact kk f H locs ls w hl
  rcases ho with h0 | h0
  · refine hz_sc (As := [.ref (G.2.2.2.1 0), .int (xs (i + 1)), .ref oa]) (rest := []) C w (fun sz => rL_vessels l G oa sz σ f (xs (i + 1)) o hf h0) (vx_cwSW 3 hts gL_law_L_vessels rfl rfl rfl (by decide +kernel) ⟨Nat.le_of_ble_eq_true rfl, Nat.le_of_ble_eq_true rfl⟩) rfl hl.1 rfl (Nat.le_of_ble_eq_true rfl) dL_law_911 ⟨by omega, by omega⟩ (fun H locs w => ?_)
    exact W.widen (k := cells + 1) (n := slots + 6) (by omega) (by omega) (kk2 _ _ H locs w)
  · refine hz_sc (As := [.ref (G.2.2.2.1 0), .int (xs (i + 1)), .ref oa]) (rest := []) C w (fun sz => qL_vessels_1 l hlt G oa sz σ f (xs (i + 1)) o hf h0) (vx_cwSW 3 hts gL_law_L_vessels rfl rfl rfl (by decide +kernel) ⟨Nat.le_of_ble_eq_true rfl, Nat.le_of_ble_eq_true rfl⟩) rfl hl.1 rfl (Nat.le_of_ble_eq_true rfl) dL_law_911 ⟨by omega, by omega⟩ (fun H locs w => ?_)
    exact kk2 _ _ H locs w
set_option maxHeartbeats 1000000 in
theorem hz_vessel {p : Program} {l : Launch} {e : Env} {s : State} {m : MethodId} {below : List Frame} {meth : Method} {c : Code} {H : Heap} {locs : List Loc} {cells slots : Nat} {Q : State → Prop} {ls : Array Slot} {G : hy_G} {b L oa i : Nat} {xs : Nat → Int32} {σ μ : hy_S} {f : Nat → Int64} (C : hz_C p s m c b L xs G) (hlt : l.stackTraces = false) (hi : i + 6 ≤ L) (hcl : cells + 1 ≤ 1106 ∧ slots + 6 ≤ 16273) (w : hz_w G oa s σ f μ H locs) (hl : lv_has ls 7 (hz_lv b G oa i)) {o : hy_O} {o2 : hy_S × Int32} (hf : fX9_vessel σ (xs (i + 1)) (xs (i + 2)) = some o) (hg : fX10_vessel μ (xs (i + 1)) (xs (i + 2)) = some o2) (ho : o.2.2 = 0 ∨ o.2.2 = 1 ∨ o.2.2 = 4) (kk : ∀ (f2 : Nat → Int64) (H1 : Heap) (locs1 : List Loc) (ls1 : Array Slot), hz_w G oa s o.1 f2 o2.1 H1 locs1 → lv_has ls1 7 (hz_lv b G oa i) → W p l e room_1 s m #[Value.ref b] below meth c H1 locs1 (cells + 1) (slots + 6) Q (F0 m 1290 ls1 [])) : W p l e room_1 s m #[Value.ref b] below meth c H locs cells slots Q (F0 m 931 ls []) := by
  have hcl : cells + 1 ≤ room_1.cells ∧ slots + 6 ≤ room_1.slots := hcl
  have hts := C.1.1.2.2.2.2
  refine lv_aload_n C.1.1.1 C.1.1.2.1 dL_law_931 rfl (lv_at hl 1 rfl) ?_
  refine hz_ld C hl w.2.2 1 (by omega) (by decide) dL_law_932 dL_law_933 dL_law_935 dL_law_936 dL_law_937 ?_
  refine hz_ld C hl w.2.2 2 (by omega) (by decide) dL_law_938 dL_law_939 dL_law_941 dL_law_942 dL_law_943 ?_
  refine lv_aload_n C.1.1.1 C.1.1.2.1 dL_law_944 rfl (lv_at hl 3 rfl) ?_
  have kk2 : ∀ (f : Nat → Int64) (k : Int32) (H : Heap) (locs : List Loc), hz_w G oa s o.1 f μ H locs → W p l e room_1 s m #[Value.ref b] below meth c H locs (cells + 1) (slots + 6) Q (F0 m 948 ls [.int k]) := by
    intro f k H locs w
    refine lv_istore (lv' := (5, .int k) :: hz_lv b G oa i) C.1.1.1 C.1.1.2.1 dL_law_948 hl (by decide) rfl (fun ls hl5 => ?_)
    have hl := lv_sub (l' := hz_lv b G oa i) hl5 [1, 2, 3, 4, 5] rfl
    refine lv_aload_n C.1.1.1 C.1.1.2.1 dL_law_950 rfl (lv_at hl 2 rfl) ?_
    refine hz_ld C hl w.2.2 1 (by omega) (by decide) dL_law_951 dL_law_952 dL_law_954 dL_law_955 dL_law_956 ?_
    refine hz_ld C hl w.2.2 2 (by omega) (by decide) dL_law_957 dL_law_958 dL_law_960 dL_law_961 dL_law_962 ?_
    refine hz_mc (As := [.int (xs (i + 1)), .int (xs (i + 2))]) (rest := []) C w (fun sz => mX10_vessel l G sz μ (xs (i + 1)) (xs (i + 2)) o2 hg) (cwV 2 hts gL_law_X10_vessel rfl rfl rfl (by decide +kernel) ⟨Nat.le_of_ble_eq_true rfl, Nat.le_of_ble_eq_true rfl⟩) rfl rfl hl.1 rfl (Nat.le_of_ble_eq_true rfl) dL_law_963 ⟨by omega, by omega⟩ (fun H locs w => ?_)
    refine lv_istore (lv' := (6, .int o2.2) :: hz_lv b G oa i) C.1.1.1 C.1.1.2.1 dL_law_966 hl (by decide) rfl (fun ls hl => ?_)
    have hl := lv_sub (l' := hz_lv b G oa i) hl [1, 2, 3, 4, 5] rfl
    refine lv_goto (tgt := 1290) C.1.1.1 C.1.1.2.1 dL_law_968 (by decide) ?_
    exact kk f H locs ls w hl
  rcases ho with h0 | h0 | h0
  · refine hz_sc (As := [.ref (G.2.2.2.1 0), .int (xs (i + 1)), .int (xs (i + 2)), .ref oa]) (rest := []) C w (fun sz => rL_vessel l G oa sz σ f (xs (i + 1)) (xs (i + 2)) o hf h0) (vx_cwSW 4 hts gL_law_L_vessel rfl rfl rfl (by decide +kernel) ⟨Nat.le_of_ble_eq_true rfl, Nat.le_of_ble_eq_true rfl⟩) rfl hl.1 rfl (Nat.le_of_ble_eq_true rfl) dL_law_945 ⟨by omega, by omega⟩ (fun H locs w => ?_)
    exact W.widen (k := cells + 1) (n := slots + 6) (by omega) (by omega) (kk2 _ _ H locs w)
  · refine hz_sc (As := [.ref (G.2.2.2.1 0), .int (xs (i + 1)), .int (xs (i + 2)), .ref oa]) (rest := []) C w (fun sz => qL_vessel_1 l hlt G oa sz σ f (xs (i + 1)) (xs (i + 2)) o hf h0) (vx_cwSW 4 hts gL_law_L_vessel rfl rfl rfl (by decide +kernel) ⟨Nat.le_of_ble_eq_true rfl, Nat.le_of_ble_eq_true rfl⟩) rfl hl.1 rfl (Nat.le_of_ble_eq_true rfl) dL_law_945 ⟨by omega, by omega⟩ (fun H locs w => ?_)
    exact kk2 _ _ H locs w
  · refine hz_sc (As := [.ref (G.2.2.2.1 0), .int (xs (i + 1)), .int (xs (i + 2)), .ref oa]) (rest := []) C w (fun sz => qL_vessel_2 l hlt G oa sz σ f (xs (i + 1)) (xs (i + 2)) o hf h0) (vx_cwSW 4 hts gL_law_L_vessel rfl rfl rfl (by decide +kernel) ⟨Nat.le_of_ble_eq_true rfl, Nat.le_of_ble_eq_true rfl⟩) rfl hl.1 rfl (Nat.le_of_ble_eq_true rfl) dL_law_945 ⟨by omega, by omega⟩ (fun H locs w => ?_)
    exact kk2 _ _ H locs w
set_option maxHeartbeats 1000000 in
theorem hz_tell {p : Program} {l : Launch} {e : Env} {s : State} {m : MethodId} {below : List Frame} {meth : Method} {c : Code} {H : Heap} {locs : List Loc} {cells slots : Nat} {Q : State → Prop} {ls : Array Slot} {G : hy_G} {b L oa i : Nat} {xs : Nat → Int32} {σ μ : hy_S} {f : Nat → Int64} (C : hz_C p s m c b L xs G) (hlt : l.stackTraces = false) (hi : i + 6 ≤ L) (hcl : cells + 1 ≤ 1106 ∧ slots + 6 ≤ 16273) (w : hz_w G oa s σ f μ H locs) (hl : lv_has ls 7 (hz_lv b G oa i)) {o : hy_O} {o2 : hy_S × Int32} (hf : fX9_tell σ (xs (i + 1)) (xs (i + 2)) (xs (i + 3)) = some o) (hg : fX10_tell μ (xs (i + 1)) (xs (i + 2)) (xs (i + 3)) = some o2) (ho : o.2.2 = 0 ∨ o.2.2 = 1 ∨ o.2.2 = 2 ∨ o.2.2 = 3) (kk : ∀ (f2 : Nat → Int64) (H1 : Heap) (locs1 : List Loc) (ls1 : Array Slot), hz_w G oa s o.1 f2 o2.1 H1 locs1 → lv_has ls1 7 (hz_lv b G oa i) → W p l e room_1 s m #[Value.ref b] below meth c H1 locs1 (cells + 1) (slots + 6) Q (F0 m 1290 ls1 [])) : W p l e room_1 s m #[Value.ref b] below meth c H locs cells slots Q (F0 m 971 ls []) := by
  have hcl : cells + 1 ≤ room_1.cells ∧ slots + 6 ≤ room_1.slots := hcl
  have hts := C.1.1.2.2.2.2
  refine lv_aload_n C.1.1.1 C.1.1.2.1 dL_law_971 rfl (lv_at hl 1 rfl) ?_
  refine hz_ld C hl w.2.2 1 (by omega) (by decide) dL_law_972 dL_law_973 dL_law_975 dL_law_976 dL_law_977 ?_
  refine hz_ld C hl w.2.2 2 (by omega) (by decide) dL_law_978 dL_law_979 dL_law_981 dL_law_982 dL_law_983 ?_
  refine hz_ld C hl w.2.2 3 (by omega) (by decide) dL_law_984 dL_law_985 dL_law_987 dL_law_988 dL_law_989 ?_
  refine lv_aload_n C.1.1.1 C.1.1.2.1 dL_law_990 rfl (lv_at hl 3 rfl) ?_
  have kk2 : ∀ (f : Nat → Int64) (k : Int32) (H : Heap) (locs : List Loc), hz_w G oa s o.1 f μ H locs → W p l e room_1 s m #[Value.ref b] below meth c H locs (cells + 1) (slots + 6) Q (F0 m 994 ls [.int k]) := by
    intro f k H locs w
    refine lv_istore (lv' := (5, .int k) :: hz_lv b G oa i) C.1.1.1 C.1.1.2.1 dL_law_994 hl (by decide) rfl (fun ls hl5 => ?_)
    have hl := lv_sub (l' := hz_lv b G oa i) hl5 [1, 2, 3, 4, 5] rfl
    refine lv_aload_n C.1.1.1 C.1.1.2.1 dL_law_996 rfl (lv_at hl 2 rfl) ?_
    refine hz_ld C hl w.2.2 1 (by omega) (by decide) dL_law_997 dL_law_998 dL_law_1000 dL_law_1001 dL_law_1002 ?_
    refine hz_ld C hl w.2.2 2 (by omega) (by decide) dL_law_1003 dL_law_1004 dL_law_1006 dL_law_1007 dL_law_1008 ?_
    refine hz_ld C hl w.2.2 3 (by omega) (by decide) dL_law_1009 dL_law_1010 dL_law_1012 dL_law_1013 dL_law_1014 ?_
    refine hz_mc (As := [.int (xs (i + 1)), .int (xs (i + 2)), .int (xs (i + 3))]) (rest := []) C w (fun sz => mX10_tell l G sz μ (xs (i + 1)) (xs (i + 2)) (xs (i + 3)) o2 hg) (cwV 3 hts gL_law_X10_tell rfl rfl rfl (by decide +kernel) ⟨Nat.le_of_ble_eq_true rfl, Nat.le_of_ble_eq_true rfl⟩) rfl rfl hl.1 rfl (Nat.le_of_ble_eq_true rfl) dL_law_1015 ⟨by omega, by omega⟩ (fun H locs w => ?_)
    refine lv_istore (lv' := (6, .int o2.2) :: hz_lv b G oa i) C.1.1.1 C.1.1.2.1 dL_law_1018 hl (by decide) rfl (fun ls hl => ?_)
    have hl := lv_sub (l' := hz_lv b G oa i) hl [1, 2, 3, 4, 5] rfl
    refine lv_goto (tgt := 1290) C.1.1.1 C.1.1.2.1 dL_law_1020 (by decide) ?_
    exact kk f H locs ls w hl
  rcases ho with h0 | h0 | h0 | h0
  · refine hz_sc (As := [.ref (G.2.2.2.1 0), .int (xs (i + 1)), .int (xs (i + 2)), .int (xs (i + 3)), .ref oa]) (rest := []) C w (fun sz => rL_tell l G oa sz σ f (xs (i + 1)) (xs (i + 2)) (xs (i + 3)) o hf h0) (vx_cwSW 5 hts gL_law_L_tell rfl rfl rfl (by decide +kernel) ⟨Nat.le_of_ble_eq_true rfl, Nat.le_of_ble_eq_true rfl⟩) rfl hl.1 rfl (Nat.le_of_ble_eq_true rfl) dL_law_991 ⟨by omega, by omega⟩ (fun H locs w => ?_)
    exact W.widen (k := cells + 1) (n := slots + 6) (by omega) (by omega) (kk2 _ _ H locs w)
  · refine hz_sc (As := [.ref (G.2.2.2.1 0), .int (xs (i + 1)), .int (xs (i + 2)), .int (xs (i + 3)), .ref oa]) (rest := []) C w (fun sz => qL_tell_1 l hlt G oa sz σ f (xs (i + 1)) (xs (i + 2)) (xs (i + 3)) o hf h0) (vx_cwSW 5 hts gL_law_L_tell rfl rfl rfl (by decide +kernel) ⟨Nat.le_of_ble_eq_true rfl, Nat.le_of_ble_eq_true rfl⟩) rfl hl.1 rfl (Nat.le_of_ble_eq_true rfl) dL_law_991 ⟨by omega, by omega⟩ (fun H locs w => ?_)
    exact kk2 _ _ H locs w
  · refine hz_sc (As := [.ref (G.2.2.2.1 0), .int (xs (i + 1)), .int (xs (i + 2)), .int (xs (i + 3)), .ref oa]) (rest := []) C w (fun sz => qL_tell_2 l hlt G oa sz σ f (xs (i + 1)) (xs (i + 2)) (xs (i + 3)) o hf h0) (vx_cwSW 5 hts gL_law_L_tell rfl rfl rfl (by decide +kernel) ⟨Nat.le_of_ble_eq_true rfl, Nat.le_of_ble_eq_true rfl⟩) rfl hl.1 rfl (Nat.le_of_ble_eq_true rfl) dL_law_991 ⟨by omega, by omega⟩ (fun H locs w => ?_)
    exact kk2 _ _ H locs w
  · refine hz_sc (As := [.ref (G.2.2.2.1 0), .int (xs (i + 1)), .int (xs (i + 2)), .int (xs (i + 3)), .ref oa]) (rest := []) C w (fun sz => qL_tell_3 l hlt G oa sz σ f (xs (i + 1)) (xs (i + 2)) (xs (i + 3)) o hf h0) (vx_cwSW 5 hts gL_law_L_tell rfl rfl rfl (by decide +kernel) ⟨Nat.le_of_ble_eq_true rfl, Nat.le_of_ble_eq_true rfl⟩) rfl hl.1 rfl (Nat.le_of_ble_eq_true rfl) dL_law_991 ⟨by omega, by omega⟩ (fun H locs w => ?_)
    exact kk2 _ _ H locs w
