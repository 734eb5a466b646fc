set_option maxHeartbeats 1000000 in
theorem hz_bound {p : Program} {l : Launch} {e : Env} {s : State} {m : MethodId} {below : List Frame} {meth : Method} {c : Code} {H : Heap} {locs : List Loc} {cells slots : Nat} {Q : State → Prop} {ls : Array Slot} {G : hy_G} {b L oa i : Nat} {xs : Nat → Int32} {σ μ : hy_S} {f : Nat → Int64} (C : hz_C p s m c b L xs G) (hlt : l.stackTraces = false) (hi : i + 6 ≤ L) (hcl : cells + 1 ≤ 1106 ∧ slots + 6 ≤ 16273) (w : hz_w G oa s σ f μ H locs) (hl : lv_has ls 7 (hz_lv b G oa i)) {o : hy_O} {o2 : hy_S × Int32} (hf : fX9_bound σ (xs (i + 1)) (xs (i + 2)) (if xs (i + 3) = 0 then 0 else 1) = some o) (hg : fX10_bound μ (xs (i + 1)) (xs (i + 2)) (if xs (i + 3) = 0 then 0 else 1) = some o2) (ho : o.2.2 = 0 ∨ o.2.2 = 1 ∨ o.2.2 = 2 ∨ o.2.2 = 3) (kk : ∀ (f2 : Nat → Int64) (H1 : Heap) (locs1 : List Loc) (ls1 : Array Slot), hz_w G oa s o.1 f2 o2.1 H1 locs1 → lv_has ls1 7 (hz_lv b G oa i) → W p l e room_1 s m #[Value.ref b] below meth c H1 locs1 (cells + 1) (slots + 6) Q (F0 m 1307 ls1 [])) : W p l e room_1 s m #[Value.ref b] below meth c H locs cells slots Q (F0 m 1012 ls []) := by
  have hcl : cells + 1 ≤ room_1.cells ∧ slots + 6 ≤ room_1.slots := hcl
  have hts := C.1.1.2.2.2.2
  refine lv_aload_n C.1.1.1 C.1.1.2.1 dL_law_1012 rfl (lv_at hl 1 rfl) ?_
  refine hz_ld C hl w.2.2 1 (by omega) (by decide) dL_law_1013 dL_law_1014 dL_law_1016 dL_law_1017 dL_law_1018 ?_
  refine hz_ld C hl w.2.2 2 (by omega) (by decide) dL_law_1019 dL_law_1020 dL_law_1022 dL_law_1023 dL_law_1024 ?_
  refine hz_ld C hl w.2.2 3 (by omega) (by decide) dL_law_1025 dL_law_1026 dL_law_1028 dL_law_1029 dL_law_1030 ?_
  refine hz_nz C (t1 := 1038) (t2 := 1039) dL_law_1031 dL_law_1034 dL_law_1035 rfl dL_law_1038 rfl ?_
  refine lv_aload_n C.1.1.1 C.1.1.2.1 dL_law_1039 rfl (lv_at hl 3 rfl) ?_
  have kk2 : ∀ (f : Nat → Int64) (k : Int32) (H : Heap) (locs : List Loc), hz_w G oa s o.1 f μ H locs → W p l e room_1 s m #[Value.ref b] below meth c H locs (cells + 1) (slots + 6) Q (F0 m 1043 ls [.int k]) := by
    intro f k H locs w
    refine lv_istore (lv' := (5, .int k) :: hz_lv b G oa i) C.1.1.1 C.1.1.2.1 dL_law_1043 hl (by decide) rfl (fun ls hl5 => ?_)
    have hl := lv_sub (l' := hz_lv b G oa i) hl5 [1, 2, 3, 4, 5] rfl
    refine lv_aload_n C.1.1.1 C.1.1.2.1 dL_law_1045 rfl (lv_at hl 2 rfl) ?_
    refine hz_ld C hl w.2.2 1 (by omega) (by decide) dL_law_1046 dL_law_1047 dL_law_1049 dL_law_1050 dL_law_1051 ?_
    refine hz_ld C hl w.2.2 2 (by omega) (by decide) dL_law_1052 dL_law_1053 dL_law_1055 dL_law_1056 dL_law_1057 ?_
    refine hz_ld C hl w.2.2 3 (by omega) (by decide) dL_law_1058 dL_law_1059 dL_law_1061 dL_law_1062 dL_law_1063 ?_
    refine hz_nz C (t1 := 1071) (t2 := 1072) dL_law_1064 dL_law_1067 dL_law_1068 rfl dL_law_1071 rfl ?_
    refine hz_mc (As := [.int (xs (i + 1)), .int (xs (i + 2)), .int (if xs (i + 3) = 0 then 0 else 1)]) (rest := []) C w (fun sz => mX10_bound l G sz μ (xs (i + 1)) (xs (i + 2)) (if xs (i + 3) = 0 then 0 else 1) o2 hg) (cwV 3 hts gL_law_X10_bound rfl rfl rfl (by decide +kernel) ⟨Nat.le_of_ble_eq_true rfl, Nat.le_of_ble_eq_true rfl⟩) rfl rfl hl.1 rfl (Nat.le_of_ble_eq_true rfl) dL_law_1072 ⟨by omega, by omega⟩ (fun H locs w => ?_)
    refine lv_istore (lv' := (6, .int o2.2) :: (5, .int k) :: hz_lv b G oa i) C.1.1.1 C.1.1.2.1 dL_law_1075 hl5 (by decide) rfl (fun ls hl6 => ?_)
    have hl := lv_sub (l' := hz_lv b G oa i) hl6 [2, 3, 4, 5, 6] rfl
    refine lv_goto (tgt := 1307) C.1.1.1 C.1.1.2.1 dL_law_1077 (by decide) ?_
    exact kk f H locs ls w hl
  rcases ho with h0 | h0 | h0 | h0
  · refine hz_sc (As := [.ref (G.2.2.2.1 0), .int (xs (i + 1)), .int (xs (i + 2)), .int (if xs (i + 3) = 0 then 0 else 1), .ref oa]) (rest := []) C w (fun sz => rL_bound l G oa sz σ f (xs (i + 1)) (xs (i + 2)) (if xs (i + 3) = 0 then 0 else 1) o hf h0) (vx_cwSW 5 hts gL_law_L_bound rfl rfl rfl (by decide +kernel) ⟨Nat.le_of_ble_eq_true rfl, Nat.le_of_ble_eq_true rfl⟩) rfl hl.1 rfl (Nat.le_of_ble_eq_true rfl) dL_law_1040 ⟨by omega, by omega⟩ (fun H locs w => ?_)
    exact W.widen (k := cells + 1) (n := slots + 6) (by omega) (by omega) (kk2 _ _ H locs w)
  · refine hz_sc (As := [.ref (G.2.2.2.1 0), .int (xs (i + 1)), .int (xs (i + 2)), .int (if xs (i + 3) = 0 then 0 else 1), .ref oa]) (rest := []) C w (fun sz => qL_bound_1 l hlt G oa sz σ f (xs (i + 1)) (xs (i + 2)) (if xs (i + 3) = 0 then 0 else 1) o hf h0) (vx_cwSW 5 hts gL_law_L_bound rfl rfl rfl (by decide +kernel) ⟨Nat.le_of_ble_eq_true rfl, Nat.le_of_ble_eq_true rfl⟩) rfl hl.1 rfl (Nat.le_of_ble_eq_true rfl) dL_law_1040 ⟨by omega, by omega⟩ (fun H locs w => ?_)
    exact kk2 _ _ H locs w
  · refine hz_sc (As := [.ref (G.2.2.2.1 0), .int (xs (i + 1)), .int (xs (i + 2)), .int (if xs (i + 3) = 0 then 0 else 1), .ref oa]) (rest := []) C w (fun sz => qL_bound_2 l hlt G oa sz σ f (xs (i + 1)) (xs (i + 2)) (if xs (i + 3) = 0 then 0 else 1) o hf h0) (vx_cwSW 5 hts gL_law_L_bound rfl rfl rfl (by decide +kernel) ⟨Nat.le_of_ble_eq_true rfl, Nat.le_of_ble_eq_true rfl⟩) rfl hl.1 rfl (Nat.le_of_ble_eq_true rfl) dL_law_1040 ⟨by omega, by omega⟩ (fun H locs w => ?_)
    exact kk2 _ _ H locs w
  · refine hz_sc (As := [.ref (G.2.2.2.1 0), .int (xs (i + 1)), .int (xs (i + 2)), .int (if xs (i + 3) = 0 then 0 else 1), .ref oa]) (rest := []) C w (fun sz => qL_bound_3 l hlt G oa sz σ f (xs (i + 1)) (xs (i + 2)) (if xs (i + 3) = 0 then 0 else 1) o hf h0) (vx_cwSW 5 hts gL_law_L_bound rfl rfl rfl (by decide +kernel) ⟨Nat.le_of_ble_eq_true rfl, Nat.le_of_ble_eq_true rfl⟩) rfl hl.1 rfl (Nat.le_of_ble_eq_true rfl) dL_law_1040 ⟨by omega, by omega⟩ (fun H locs w => ?_)
    exact kk2 _ _ H locs w
set_option maxHeartbeats 1000000 in
theorem hz_undo {p : Program} {l : Launch} {e : Env} {s : State} {m : MethodId} {below : List Frame} {meth : Method} {c : Code} {H : Heap} {locs : List Loc} {cells slots : Nat} {Q : State → Prop} {ls : Array Slot} {G : hy_G} {b L oa i : Nat} {xs : Nat → Int32} {σ μ : hy_S} {f : Nat → Int64} (C : hz_C p s m c b L xs G) (hlt : l.stackTraces = false) (hi : i + 6 ≤ L) (hcl : cells + 1 ≤ 1106 ∧ slots + 6 ≤ 16273) (w : hz_w G oa s σ f μ H locs) (hl : lv_has ls 7 (hz_lv b G oa i)) {o : hy_O} {o2 : hy_S × Int32} (hf : fX9_undo σ (xs (i + 1)) = some o) (hg : fX10_undo μ (xs (i + 1)) = some o2) (ho : o.2.2 = 0 ∨ o.2.2 = 1) (kk : ∀ (f2 : Nat → Int64) (H1 : Heap) (locs1 : List Loc) (ls1 : Array Slot), hz_w G oa s o.1 f2 o2.1 H1 locs1 → lv_has ls1 7 (hz_lv b G oa i) → W p l e room_1 s m #[Value.ref b] below meth c H1 locs1 (cells + 1) (slots + 6) Q (F0 m 1307 ls1 [])) : W p l e room_1 s m #[Value.ref b] below meth c H locs cells slots Q (F0 m 1080 ls []) := by
  have hcl : cells + 1 ≤ room_1.cells ∧ slots + 6 ≤ room_1.slots := hcl
  have hts := C.1.1.2.2.2.2
  refine lv_aload_n C.1.1.1 C.1.1.2.1 dL_law_1080 rfl (lv_at hl 1 rfl) ?_
  refine hz_ld C hl w.2.2 1 (by omega) (by decide) dL_law_1081 dL_law_1082 dL_law_1084 dL_law_1085 dL_law_1086 ?_
  refine lv_aload_n C.1.1.1 C.1.1.2.1 dL_law_1087 rfl (lv_at hl 3 rfl) ?_
  have kk2 : ∀ (f : Nat → Int64) (k : Int32) (H : Heap) (locs : List Loc), hz_w G oa s o.1 f μ H locs → W p l e room_1 s m #[Value.ref b] below meth c H locs (cells + 1) (slots + 6) Q (F0 m 1091 ls [.int k]) := by
    intro f k H locs w
    refine lv_istore (lv' := (5, .int k) :: hz_lv b G oa i) C.1.1.1 C.1.1.2.1 dL_law_1091 hl (by decide) rfl (fun ls hl5 => ?_)
    have hl := lv_sub (l' := hz_lv b G oa i) hl5 [1, 2, 3, 4, 5] rfl
    refine lv_aload_n C.1.1.1 C.1.1.2.1 dL_law_1093 rfl (lv_at hl 2 rfl) ?_
    refine hz_ld C hl w.2.2 1 (by omega) (by decide) dL_law_1094 dL_law_1095 dL_law_1097 dL_law_1098 dL_law_1099 ?_
    refine hz_mc (As := [.int (xs (i + 1))]) (rest := []) C w (fun sz => mX10_undo l G sz μ (xs (i + 1)) o2 hg) (cwV 1 hts gL_law_X10_undo rfl rfl rfl (by decide +kernel) ⟨Nat.le_of_ble_eq_true rfl, Nat.le_of_ble_eq_true rfl⟩) rfl rfl hl.1 rfl (Nat.le_of_ble_eq_true rfl) dL_law_1100 ⟨by omega, by omega⟩ (fun H locs w => ?_)
    refine lv_istore (lv' := (6, .int o2.2) :: (5, .int k) :: hz_lv b G oa i) C.1.1.1 C.1.1.2.1 dL_law_1103 hl5 (by decide) rfl (fun ls hl6 => ?_)
    have hl := lv_sub (l' := hz_lv b G oa i) hl6 [2, 3, 4, 5, 6] rfl
    refine lv_goto (tgt := 1307) C.1.1.1 C.1.1.2.1 dL_law_1105 (by decide) ?_
    exact kk f H locs ls w hl
  rcases ho with h0 | h0
  · refine hz_sc (As := [.ref (G.2.2.2.1 0), .int (xs (i + 1)), .ref oa]) (rest := []) C w (fun sz => rL_undo l G oa sz σ f (xs (i + 1)) o hf h0) (vx_cwSW 3 hts gL_law_L_undo rfl rfl rfl (by decide +kernel) ⟨Nat.le_of_ble_eq_true rfl, Nat.le_of_ble_eq_true rfl⟩) rfl hl.1 rfl (Nat.le_of_ble_eq_true rfl) dL_law_1088 ⟨by omega, by omega⟩ (fun H locs w => ?_)
    exact W.widen (k := cells + 1) (n := slots + 6) (by omega) (by omega) (kk2 _ _ H locs w)
  · refine hz_sc (As := [.ref (G.2.2.2.1 0), .int (xs (i + 1)), .ref oa]) (rest := []) C w (fun sz => qL_undo_1 l hlt G oa sz σ f (xs (i + 1)) o hf h0) (vx_cwSW 3 hts gL_law_L_undo rfl rfl rfl (by decide +kernel) ⟨Nat.le_of_ble_eq_true rfl, Nat.le_of_ble_eq_true rfl⟩) rfl hl.1 rfl (Nat.le_of_ble_eq_true rfl) dL_law_1088 ⟨by omega, by omega⟩ (fun H locs w => ?_)
    exact kk2 _ _ H locs w
set_option maxHeartbeats 1000000 in
theorem hz_days {p : Program} {l : Launch} {e : Env} {s : State} {m : MethodId} {below : List Frame} {meth : Method} {c : Code} {H : Heap} {locs : List Loc} {cells slots : Nat} {Q : State → Prop} {ls : Array Slot} {G : hy_G} {b L oa i : Nat} {xs : Nat → Int32} {σ μ : hy_S} {f : Nat → Int64} (C : hz_C p s m c b L xs G) (hlt : l.stackTraces = false) (hi : i + 6 ≤ L) (hcl : cells + 1 ≤ 1106 ∧ slots + 6 ≤ 16273) (w : hz_w G oa s σ f μ H locs) (hl : lv_has ls 7 (hz_lv b G oa i)) {o : hy_O} {o2 : hy_S × Int32} (hf : fX9_days σ (xs (i + 1)) = some o) (hg : fX10_days μ (xs (i + 1)) = some o2) (ho : o.2.2 = 0 ∨ o.2.2 = 2) (kk : ∀ (f2 : Nat → Int64) (H1 : Heap) (locs1 : List Loc) (ls1 : Array Slot), hz_w G oa s o.1 f2 o2.1 H1 locs1 → lv_has ls1 7 (hz_lv b G oa i) → W p l e room_1 s m #[Value.ref b] below meth c H1 locs1 (cells + 1) (slots + 6) Q (F0 m 1307 ls1 [])) : W p l e room_1 s m #[Value.ref b] below meth c H locs cells slots Q (F0 m 1108 ls []) := by
  have hcl : cells + 1 ≤ room_1.cells ∧ slots + 6 ≤ room_1.slots := hcl
  have hts := C.1.1.2.2.2.2
  refine lv_aload_n C.1.1.1 C.1.1.2.1 dL_law_1108 rfl (lv_at hl 1 rfl) ?_
  refine hz_ld C hl w.2.2 1 (by omega) (by decide) dL_law_1109 dL_law_1110 dL_law_1112 dL_law_1113 dL_law_1114 ?_
  refine lv_aload_n C.1.1.1 C.1.1.2.1 dL_law_1115 rfl (lv_at hl 3 rfl) ?_
  have kk2 : ∀ (f : Nat → Int64) (k : Int32) (H : Heap) (locs : List Loc), hz_w G oa s o.1 f μ H locs → W p l e room_1 s m #[Value.ref b] below meth c H locs (cells + 1) (slots + 6) Q (F0 m 1119 ls [.int k]) := by
    intro f k H locs w
    refine lv_istore (lv' := (5, .int k) :: hz_lv b G oa i) C.1.1.1 C.1.1.2.1 dL_law_1119 hl (by decide) rfl (fun ls hl5 => ?_)
    have hl := lv_sub (l' := hz_lv b G oa i) hl5 [1, 2, 3, 4, 5] rfl
    refine lv_aload_n C.1.1.1 C.1.1.2.1 dL_law_1121 rfl (lv_at hl 2 rfl) ?_
    refine hz_ld C hl w.2.2 1 (by omega) (by decide) dL_law_1122 dL_law_1123 dL_law_1125 dL_law_1126 dL_law_1127 ?_
    refine hz_mc (As := [.int (xs (i + 1))]) (rest := []) C w (fun sz => mX10_days l G sz μ (xs (i + 1)) o2 hg) (cwV 1 hts gL_law_X10_days rfl rfl rfl (by decide +kernel) ⟨Nat.le_of_ble_eq_true rfl, Nat.le_of_ble_eq_true rfl⟩) rfl rfl hl.1 rfl (Nat.le_of_ble_eq_true rfl) dL_law_1128 ⟨by omega, by omega⟩ (fun H locs w => ?_)
    refine lv_istore (lv' := (6, .int o2.2) :: (5, .int k) :: hz_lv b G oa i) C.1.1.1 C.1.1.2.1 dL_law_1131 hl5 (by decide) rfl (fun ls hl6 => ?_)
    have hl := lv_sub (l' := hz_lv b G oa i) hl6 [2, 3, 4, 5, 6] rfl
    refine lv_goto (tgt := 1307) C.1.1.1 C.1.1.2.1 dL_law_1133 (by decide) ?_
    exact kk f H locs ls w hl
  rcases ho with h0 | h0
  · refine hz_sc (As := [.ref (G.2.2.2.1 0), .int (xs (i + 1)), .ref oa]) (rest := []) C w (fun sz => rL_days l G oa sz σ f (xs (i + 1)) o hf h0) (vx_cwSW 3 hts gL_law_L_days rfl rfl rfl (by decide +kernel) ⟨Nat.le_of_ble_eq_true rfl, Nat.le_of_ble_eq_true rfl⟩) rfl hl.1 rfl (Nat.le_of_ble_eq_true rfl) dL_law_1116 ⟨by omega, by omega⟩ (fun H locs w => ?_)
    exact W.widen (k := cells + 1) (n := slots + 6) (by omega) (by omega) (kk2 _ _ H locs w)
  · refine hz_sc (As := [.ref (G.2.2.2.1 0), .int (xs (i + 1)), .ref oa]) (rest := []) C w (fun sz => qL_days_1 l hlt G oa sz σ f (xs (i + 1)) o hf h0) (vx_cwSW 3 hts gL_law_L_days rfl rfl rfl (by decide +kernel) ⟨Nat.le_of_ble_eq_true rfl, Nat.le_of_ble_eq_true rfl⟩) rfl hl.1 rfl (Nat.le_of_ble_eq_true rfl) dL_law_1116 ⟨by omega, by omega⟩ (fun H locs w => ?_)
    exact kk2 _ _ H locs w
set_option maxHeartbeats 1000000 in
theorem hz_agree {p : Program} {l : Launch} {e : Env} {s : State} {m : MethodId} {below : List Frame} {meth : Method} {c : Code} {H : Heap} {locs : List Loc} {cells slots : Nat} {Q : State → Prop} {ls : Array Slot} {G : hy_G} {b L oa i : Nat} {xs : Nat → Int32} {σ μ : hy_S} {f : Nat → Int64} (C : hz_C p s m c b L xs G) (hlt : l.stackTraces = false) (hi : i + 6 ≤ L) (hcl : cells + 1 ≤ 1106 ∧ slots + 6 ≤ 16273) (w : hz_w G oa s σ f μ H locs) (hl : lv_has ls 7 (hz_lv b G oa i)) {o o2 : hy_S × Int32} (hf : fX9_agree σ (xs (i + 1)) = some o) (hg : fX10_agree μ (xs (i + 1)) = some o2) (kk : ∀ (f2 : Nat → Int64) (H1 : Heap) (locs1 : List Loc) (ls1 : Array Slot), hz_w G oa s o.1 f2 o2.1 H1 locs1 → lv_has ls1 7 (hz_lv b G oa i) → W p l e room_1 s m #[Value.ref b] below meth c H1 locs1 (cells + 1) (slots + 6) Q (F0 m 1307 ls1 [])) : W p l e room_1 s m #[Value.ref b] below meth c H locs cells slots Q (F0 m 1136 ls []) := by
  have hcl : cells + 1 ≤ room_1.cells ∧ slots + 6 ≤ room_1.slots := hcl
  have hts := C.1.1.2.2.2.2
  refine lv_aload_n C.1.1.1 C.1.1.2.1 dL_law_1136 rfl (lv_at hl 1 rfl) ?_
  refine hz_ld C hl w.2.2 1 (by omega) (by decide) dL_law_1137 dL_law_1138 dL_law_1140 dL_law_1141 dL_law_1142 ?_
  refine hz_xc (As := [.int (xs (i + 1))]) (rest := []) C w (fun sz => mX9_agree l G sz σ (xs (i + 1)) o hf) (cwV 1 hts gL_law_X9_agree rfl rfl rfl (by decide +kernel) ⟨Nat.le_of_ble_eq_true rfl, Nat.le_of_ble_eq_true rfl⟩) rfl rfl hl.1 rfl (Nat.le_of_ble_eq_true rfl) dL_law_1143 ⟨by omega, by omega⟩ (fun H locs w => ?_)
  refine lv_pop C.1.1.1 C.1.1.2.1 dL_law_1146 rfl ?_
  refine lv_aload_n C.1.1.1 C.1.1.2.1 dL_law_1147 rfl (lv_at hl 2 rfl) ?_
  refine hz_ld C hl w.2.2 1 (by omega) (by decide) dL_law_1148 dL_law_1149 dL_law_1151 dL_law_1152 dL_law_1153 ?_
  refine hz_mc (As := [.int (xs (i + 1))]) (rest := []) C w (fun sz => mX10_agree l G sz μ (xs (i + 1)) o2 hg) (cwV 1 hts gL_law_X10_agree rfl rfl rfl (by decide +kernel) ⟨Nat.le_of_ble_eq_true rfl, Nat.le_of_ble_eq_true rfl⟩) rfl rfl hl.1 rfl (Nat.le_of_ble_eq_true rfl) dL_law_1154 ⟨by omega, by omega⟩ (fun H locs w => ?_)
  refine lv_pop C.1.1.1 C.1.1.2.1 dL_law_1157 rfl ?_
  refine lv_goto (tgt := 1307) C.1.1.1 C.1.1.2.1 dL_law_1158 (by decide) ?_
  exact W.widen (k := cells + 1) (n := slots + 6) (by omega) (by omega) (kk f H locs ls w hl)
set_option maxHeartbeats 1000000 in
theorem hz_span {p : Program} {l : Launch} {e : Env} {s : State} {m : MethodId} {below : List Frame} {meth : Method} {c : Code} {H : Heap} {locs : List Loc} {cells slots : Nat} {Q : State → Prop} {ls : Array Slot} {G : hy_G} {b L oa i : Nat} {xs : Nat → Int32} {σ μ : hy_S} {f : Nat → Int64} (C : hz_C p s m c b L xs G) (hlt : l.stackTraces = false) (hi : i + 6 ≤ L) (hcl : cells + 1 ≤ 1106 ∧ slots + 6 ≤ 16273) (w : hz_w G oa s σ f μ H locs) (hl : lv_has ls 7 (hz_lv b G oa i)) {o : hy_O} {o2 : hy_S × Int32} (hf : fX9_span σ (xs (i + 1)) (if xs (i + 2) = 0 then 0 else 1) (xs (i + 3)) = some o) (hg : fX10_span μ (xs (i + 1)) (if xs (i + 2) = 0 then 0 else 1) (xs (i + 3)) = some o2) {o3 : hy_S × Int32} (hh : fX10_thrown o2.1 = some o3) (ho : (o.2.2 = 0 ∧ o3.2 = 0) ∨ (o.2.2 = 1 ∧ o3.2 = 1) ∨ (o.2.2 = 4 ∧ o3.2 = 2)) (hv : o.2.2 = 0 → o2.2 = o.2.1) (kk : ∀ (f2 : Nat → Int64) (H1 : Heap) (locs1 : List Loc) (ls1 : Array Slot), hz_w G oa s o.1 f2 o3.1 H1 locs1 → lv_has ls1 7 (hz_lv b G oa i) → W p l e room_1 s m #[Value.ref b] below meth c H1 locs1 (cells + 1) (slots + 6) Q (F0 m 1307 ls1 [])) : W p l e room_1 s m #[Value.ref b] below meth c H locs cells slots Q (F0 m 1161 ls []) := by
  have hcl : cells + 1 ≤ room_1.cells ∧ slots + 6 ≤ room_1.slots := hcl
  have hts := C.1.1.2.2.2.2
  refine lv_aload_n C.1.1.1 C.1.1.2.1 dL_law_1161 rfl (lv_at hl 1 rfl) ?_
  refine hz_ld C hl w.2.2 1 (by omega) (by decide) dL_law_1162 dL_law_1163 dL_law_1165 dL_law_1166 dL_law_1167 ?_
  refine hz_ld C hl w.2.2 2 (by omega) (by decide) dL_law_1168 dL_law_1169 dL_law_1171 dL_law_1172 dL_law_1173 ?_
  refine hz_nz C (t1 := 1181) (t2 := 1182) dL_law_1174 dL_law_1177 dL_law_1178 rfl dL_law_1181 rfl ?_
  refine hz_ld C hl w.2.2 3 (by omega) (by decide) dL_law_1182 dL_law_1183 dL_law_1185 dL_law_1186 dL_law_1187 ?_
  refine lv_aload_n C.1.1.1 C.1.1.2.1 dL_law_1188 rfl (lv_at hl 3 rfl) ?_
  have kk2 : ∀ (f : Nat → Int64) (k : Int32) (H : Heap) (locs : List Loc), hz_w G oa s o.1 f μ H locs → k = o3.2 → (k = 0 → f (Int32.toNatClampNeg 0) = o2.2.toInt64) → W p l e room_1 s m #[Value.ref b] below meth c H locs (cells + 1) (slots + 6) Q (F0 m 1192 ls [.int k]) := by
    intro f k H locs w hk hf0
    refine lv_istore (lv' := (5, .int k) :: hz_lv b G oa i) C.1.1.1 C.1.1.2.1 dL_law_1192 hl (by decide) rfl (fun ls hl5 => ?_)
    have hl := lv_sub (l' := hz_lv b G oa i) hl5 [1, 2, 3, 4, 5] rfl
    refine lv_aload_n C.1.1.1 C.1.1.2.1 dL_law_1194 rfl (lv_at hl 2 rfl) ?_
    refine hz_ld C hl w.2.2 1 (by omega) (by decide) dL_law_1195 dL_law_1196 dL_law_1198 dL_law_1199 dL_law_1200 ?_
    refine hz_ld C hl w.2.2 2 (by omega) (by decide) dL_law_1201 dL_law_1202 dL_law_1204 dL_law_1205 dL_law_1206 ?_
    refine hz_nz C (t1 := 1214) (t2 := 1215) dL_law_1207 dL_law_1210 dL_law_1211 rfl dL_law_1214 rfl ?_
    refine hz_ld C hl w.2.2 3 (by omega) (by decide) dL_law_1215 dL_law_1216 dL_law_1218 dL_law_1219 dL_law_1220 ?_
    refine hz_mc (As := [.int (xs (i + 1)), .int (if xs (i + 2) = 0 then 0 else 1), .int (xs (i + 3))]) (rest := []) C w (fun sz => mX10_span l G sz μ (xs (i + 1)) (if xs (i + 2) = 0 then 0 else 1) (xs (i + 3)) o2 hg) (cwV 3 hts gL_law_X10_span rfl rfl rfl (by decide +kernel) ⟨Nat.le_of_ble_eq_true rfl, Nat.le_of_ble_eq_true rfl⟩) rfl rfl hl.1 rfl (Nat.le_of_ble_eq_true rfl) dL_law_1221 ⟨by omega, by omega⟩ (fun H locs w => ?_)
    refine lv_istore (lv' := (6, .int o2.2) :: (5, .int k) :: hz_lv b G oa i) C.1.1.1 C.1.1.2.1 dL_law_1224 hl5 (by decide) rfl (fun ls hl6 => ?_)
    have hl := lv_sub (l' := hz_lv b G oa i) hl6 [2, 3, 4, 5, 6] rfl
    refine lv_aload_n C.1.1.1 C.1.1.2.1 dL_law_1226 rfl (lv_at hl 2 rfl) ?_
    refine hz_mc (As := []) (rest := []) C w (fun sz => mX10_thrown l G sz o2.1 o3 hh) (cwV 0 hts gL_law_X10_thrown rfl rfl rfl (by decide +kernel) ⟨Nat.le_of_ble_eq_true rfl, Nat.le_of_ble_eq_true rfl⟩) rfl rfl hl.1 rfl (Nat.le_of_ble_eq_true rfl) dL_law_1227 ⟨by omega, by omega⟩ (fun H locs w => ?_)
    refine lv_iload C.1.1.1 C.1.1.2.1 dL_law_1230 (lv_at hl6 1 rfl) ?_
    refine lv_icmp_eq (tgt := 1237) C.1.1.1 C.1.1.2.1 dL_law_1232 (by decide) (fun h => ?_) (fun h => absurd hk.symm h)
    refine lv_iload C.1.1.1 C.1.1.2.1 dL_law_1237 (lv_at hl6 1 rfl) ?_
    refine lv_if_ne (tgt := 1254) C.1.1.1 C.1.1.2.1 dL_law_1239 (by decide) (fun h0 => ?_) (fun h0 => ?_)
    · refine lv_goto (tgt := 1307) C.1.1.1 C.1.1.2.1 dL_law_1254 (by decide) ?_
      exact kk f H locs ls w hl
    · refine lv_aload_n C.1.1.1 C.1.1.2.1 dL_law_1242 rfl (lv_at hl 3 rfl) ?_
      refine lv_iconst (v := 0) C.1.1.1 C.1.1.2.1 dL_law_1243 (by decide) ?_
      refine va_lald C.1.1.1 C.1.1.2.1 C.1.2.1 w.1 40 3 rfl rfl (by unfold vp_in; decide) dL_law_1244 ?_
      rw [hf0 h0]
      refine lv_iload C.1.1.1 C.1.1.2.1 dL_law_1245 (lv_at hl6 0 rfl) ?_
      refine lv_i2l (v := o2.2.toInt64) C.1.1.1 C.1.1.2.1 dL_law_1247 rfl ?_
      refine W.lcmp C.1.1.1 C.1.1.2.1 dL_law_1248 ?_
      rw [hz_cmp]
      refine lv_if_eq (tgt := 1254) C.1.1.1 C.1.1.2.1 dL_law_1249 (by decide) (fun _ => ?_) (fun h => absurd rfl h)
      refine lv_goto (tgt := 1307) C.1.1.1 C.1.1.2.1 dL_law_1254 (by decide) ?_
      exact kk f H locs ls w hl
  rcases ho with ⟨h0, h1⟩ | ⟨h0, h1⟩ | ⟨h0, h1⟩
  · refine hz_sc (As := [.ref (G.2.2.2.1 0), .int (xs (i + 1)), .int (if xs (i + 2) = 0 then 0 else 1), .int (xs (i + 3)), .ref oa]) (rest := []) C w (fun sz => rL_span l G oa sz σ f (xs (i + 1)) (if xs (i + 2) = 0 then 0 else 1) (xs (i + 3)) o hf h0) (vx_cwSW 5 hts gL_law_L_span rfl rfl rfl (by decide +kernel) ⟨Nat.le_of_ble_eq_true rfl, Nat.le_of_ble_eq_true rfl⟩) rfl hl.1 rfl (Nat.le_of_ble_eq_true rfl) dL_law_1189 ⟨by omega, by omega⟩ (fun H locs w => ?_)
    exact W.widen (k := cells + 1) (n := slots + 6) (by omega) (by omega) (kk2 _ _ H locs w h1.symm (fun _ => by rw [hv h0]; exact hz_upd))
  · refine hz_sc (As := [.ref (G.2.2.2.1 0), .int (xs (i + 1)), .int (if xs (i + 2) = 0 then 0 else 1), .int (xs (i + 3)), .ref oa]) (rest := []) C w (fun sz => qL_span_1 l hlt G oa sz σ f (xs (i + 1)) (if xs (i + 2) = 0 then 0 else 1) (xs (i + 3)) o hf h0) (vx_cwSW 5 hts gL_law_L_span rfl rfl rfl (by decide +kernel) ⟨Nat.le_of_ble_eq_true rfl, Nat.le_of_ble_eq_true rfl⟩) rfl hl.1 rfl (Nat.le_of_ble_eq_true rfl) dL_law_1189 ⟨by omega, by omega⟩ (fun H locs w => ?_)
    exact kk2 _ _ H locs w h1.symm (fun h => absurd h (by decide))
  · refine hz_sc (As := [.ref (G.2.2.2.1 0), .int (xs (i + 1)), .int (if xs (i + 2) = 0 then 0 else 1), .int (xs (i + 3)), .ref oa]) (rest := []) C w (fun sz => qL_span_2 l hlt G oa sz σ f (xs (i + 1)) (if xs (i + 2) = 0 then 0 else 1) (xs (i + 3)) o hf h0) (vx_cwSW 5 hts gL_law_L_span rfl rfl rfl (by decide +kernel) ⟨Nat.le_of_ble_eq_true rfl, Nat.le_of_ble_eq_true rfl⟩) rfl hl.1 rfl (Nat.le_of_ble_eq_true rfl) dL_law_1189 ⟨by omega, by omega⟩ (fun H locs w => ?_)
    exact kk2 _ _ H locs w h1.symm (fun h => absurd h (by decide))
set_option maxHeartbeats 1000000 in
theorem hz_quarrel {p : Program} {l : Launch} {e : Env} {s : State} {m : MethodId} {below : List Frame} {meth : Method} {c : Code} {H : Heap} {locs : List Loc} {cells slots : Nat} {Q : State → Prop} {ls : Array Slot} {G : hy_G} {b L oa i : Nat} {xs : Nat → Int32} {σ μ : hy_S} {f : Nat → Int64} (C : hz_C p s m c b L xs G) (hlt : l.stackTraces = false) (hi : i + 6 ≤ L) (hcl : cells + 1 ≤ 1106 ∧ slots + 6 ≤ 16273) (w : hz_w G oa s σ f μ H locs) (hl : lv_has ls 7 (hz_lv b G oa i)) {o o2 : hy_S × Int32} (hf : fX9_quarrel σ (xs (i + 1)) = some o) (hg : fX10_quarrel μ (xs (i + 1)) = some o2) (kk : ∀ (f2 : Nat → Int64) (H1 : Heap) (locs1 : List Loc) (ls1 : Array Slot), hz_w G oa s o.1 f2 o2.1 H1 locs1 → lv_has ls1 7 (hz_lv b G oa i) → W p l e room_1 s m #[Value.ref b] below meth c H1 locs1 (cells + 1) (slots + 6) Q (F0 m 1307 ls1 [])) : W p l e room_1 s m #[Value.ref b] below meth c H locs cells slots Q (F0 m 1257 ls []) := by
  have hcl : cells + 1 ≤ room_1.cells ∧ slots + 6 ≤ room_1.slots := hcl
  have hts := C.1.1.2.2.2.2
  refine lv_aload_n C.1.1.1 C.1.1.2.1 dL_law_1257 rfl (lv_at hl 1 rfl) ?_
  refine hz_ld C hl w.2.2 1 (by omega) (by decide) dL_law_1258 dL_law_1259 dL_law_1261 dL_law_1262 dL_law_1263 ?_
  refine hz_xc (As := [.int (xs (i + 1))]) (rest := []) C w (fun sz => mX9_quarrel l G sz σ (xs (i + 1)) o hf) (cwV 1 hts gL_law_X9_quarrel rfl rfl rfl (by decide +kernel) ⟨Nat.le_of_ble_eq_true rfl, Nat.le_of_ble_eq_true rfl⟩) rfl rfl hl.1 rfl (Nat.le_of_ble_eq_true rfl) dL_law_1264 ⟨by omega, by omega⟩ (fun H locs w => ?_)
  refine lv_pop C.1.1.1 C.1.1.2.1 dL_law_1267 rfl ?_
  refine lv_aload_n C.1.1.1 C.1.1.2.1 dL_law_1268 rfl (lv_at hl 2 rfl) ?_
  refine hz_ld C hl w.2.2 1 (by omega) (by decide) dL_law_1269 dL_law_1270 dL_law_1272 dL_law_1273 dL_law_1274 ?_
  refine hz_mc (As := [.int (xs (i + 1))]) (rest := []) C w (fun sz => mX10_quarrel l G sz μ (xs (i + 1)) o2 hg) (cwV 1 hts gL_law_X10_quarrel rfl rfl rfl (by decide +kernel) ⟨Nat.le_of_ble_eq_true rfl, Nat.le_of_ble_eq_true rfl⟩) rfl rfl hl.1 rfl (Nat.le_of_ble_eq_true rfl) dL_law_1275 ⟨by omega, by omega⟩ (fun H locs w => ?_)
  refine lv_pop C.1.1.1 C.1.1.2.1 dL_law_1278 rfl ?_
  refine lv_goto (tgt := 1307) C.1.1.1 C.1.1.2.1 dL_law_1279 (by decide) ?_
  exact W.widen (k := cells + 1) (n := slots + 6) (by omega) (by omega) (kk f H locs ls w hl)
set_option maxHeartbeats 1000000 in
theorem hz_count {p : Program} {l : Launch} {e : Env} {s : State} {m : MethodId} {below : List Frame} {meth : Method} {c : Code} {H : Heap} {locs : List Loc} {cells slots : Nat} {Q : State → Prop} {ls : Array Slot} {G : hy_G} {b L oa i : Nat} {xs : Nat → Int32} {σ μ : hy_S} {f : Nat → Int64} (C : hz_C p s m c b L xs G) (hlt : l.stackTraces = false) (hi : i + 6 ≤ L) (hcl : cells + 1 ≤ 1106 ∧ slots + 6 ≤ 16273) (w : hz_w G oa s σ f μ H locs) (hl : lv_has ls 7 (hz_lv b G oa i)) {o o2 : hy_S × Int32} (hf : fX9_count σ (xs (i + 1)) = some o) (hg : fX10_count μ (xs (i + 1)) = some o2) (kk : ∀ (f2 : Nat → Int64) (H1 : Heap) (locs1 : List Loc) (ls1 : Array Slot), hz_w G oa s o.1 f2 o2.1 H1 locs1 → lv_has ls1 7 (hz_lv b G oa i) → W p l e room_1 s m #[Value.ref b] below meth c H1 locs1 (cells + 1) (slots + 6) Q (F0 m 1307 ls1 [])) : W p l e room_1 s m #[Value.ref b] below meth c H locs cells slots Q (F0 m 1282 ls []) := by
  have hcl : cells + 1 ≤ room_1.cells ∧ slots + 6 ≤ room_1.slots := hcl
  have hts := C.1.1.2.2.2.2
  refine lv_aload_n C.1.1.1 C.1.1.2.1 dL_law_1282 rfl (lv_at hl 1 rfl) ?_
  refine hz_ld C hl w.2.2 1 (by omega) (by decide) dL_law_1283 dL_law_1284 dL_law_1286 dL_law_1287 dL_law_1288 ?_
  refine hz_xc (As := [.int (xs (i + 1))]) (rest := []) C w (fun sz => mX9_count l G sz σ (xs (i + 1)) o hf) (cwV 1 hts gL_law_X9_count rfl rfl rfl (by decide +kernel) ⟨Nat.le_of_ble_eq_true rfl, Nat.le_of_ble_eq_true rfl⟩) rfl rfl hl.1 rfl (Nat.le_of_ble_eq_true rfl) dL_law_1289 ⟨by omega, by omega⟩ (fun H locs w => ?_)
  refine lv_pop C.1.1.1 C.1.1.2.1 dL_law_1292 rfl ?_
  refine lv_aload_n C.1.1.1 C.1.1.2.1 dL_law_1293 rfl (lv_at hl 2 rfl) ?_
  refine hz_ld C hl w.2.2 1 (by omega) (by decide) dL_law_1294 dL_law_1295 dL_law_1297 dL_law_1298 dL_law_1299 ?_
  refine hz_mc (As := [.int (xs (i + 1))]) (rest := []) C w (fun sz => mX10_count l G sz μ (xs (i + 1)) o2 hg) (cwV 1 hts gL_law_X10_count rfl rfl rfl (by decide +kernel) ⟨Nat.le_of_ble_eq_true rfl, Nat.le_of_ble_eq_true rfl⟩) rfl rfl hl.1 rfl (Nat.le_of_ble_eq_true rfl) dL_law_1300 ⟨by omega, by omega⟩ (fun H locs w => ?_)
  refine lv_pop C.1.1.1 C.1.1.2.1 dL_law_1303 rfl ?_
  refine lv_goto (tgt := 1307) C.1.1.1 C.1.1.2.1 dL_law_1304 (by decide) ?_
  exact W.widen (k := cells + 1) (n := slots + 6) (by omega) (by omega) (kk f H locs ls w hl)
