set_option maxHeartbeats 1000000 in
theorem hz_feed {p : Program} {l : Launch} {e : Env} {s : State} {m : MethodId} {below : List Frame} {meth : Method} {c : Code} {H : Heap} {locs : List Loc} {cells slots : Nat} {Q : State → Prop} {ls : Array Slot} {G : hy_G} {b L oa i : Nat} {xs : Nat → Int32} {σ μ : hy_S} {f : Nat → Int64} (C : hz_C p s m c b L xs G) (hlt : l.stackTraces = false) (hi : i + 6 ≤ L) (hcl : cells + 1 ≤ 1106 ∧ slots + 6 ≤ 16273) (w : hz_w G oa s σ f μ H locs) (hl : lv_has ls 7 (hz_lv b G oa i)) {o o2 : hy_S × Int32} (hf : fX9_feed σ (xs (i + 1)) (xs (i + 2)) (xs (i + 3)) (xs (i + 4)) (xs (i + 5)) = some o) (hg : fX10_feed μ (xs (i + 1)) (xs (i + 2)) (xs (i + 3)) (xs (i + 4)) (xs (i + 5)) = some o2) (kk : ∀ (f2 : Nat → Int64) (H1 : Heap) (locs1 : List Loc) (ls1 : Array Slot), hz_w G oa s o.1 f2 o2.1 H1 locs1 → lv_has ls1 7 (hz_lv b G oa i) → W p l e room_1 s m #[Value.ref b] below meth c H1 locs1 (cells + 1) (slots + 6) Q (F0 m 1307 ls1 [])) : W p l e room_1 s m #[Value.ref b] below meth c H locs cells slots Q (F0 m 168 ls []) := by
  have hcl : cells + 1 ≤ room_1.cells ∧ slots + 6 ≤ room_1.slots := hcl
  have hts := C.1.1.2.2.2.2
  refine lv_aload_n C.1.1.1 C.1.1.2.1 dL_law_168 rfl (lv_at hl 1 rfl) ?_
  refine hz_ld C hl w.2.2 1 (by omega) (by decide) dL_law_169 dL_law_170 dL_law_172 dL_law_173 dL_law_174 ?_
  refine hz_ld C hl w.2.2 2 (by omega) (by decide) dL_law_175 dL_law_176 dL_law_178 dL_law_179 dL_law_180 ?_
  refine hz_ld C hl w.2.2 3 (by omega) (by decide) dL_law_181 dL_law_182 dL_law_184 dL_law_185 dL_law_186 ?_
  refine hz_ld C hl w.2.2 4 (by omega) (by decide) dL_law_187 dL_law_188 dL_law_190 dL_law_191 dL_law_192 ?_
  refine hz_ld C hl w.2.2 5 (by omega) (by decide) dL_law_193 dL_law_194 dL_law_196 dL_law_197 dL_law_198 ?_
  refine hz_xc (As := [.int (xs (i + 1)), .int (xs (i + 2)), .int (xs (i + 3)), .int (xs (i + 4)), .int (xs (i + 5))]) (rest := []) C w (fun sz => mX9_feed l G sz σ (xs (i + 1)) (xs (i + 2)) (xs (i + 3)) (xs (i + 4)) (xs (i + 5)) o hf) (cwV 5 hts gL_law_X9_feed rfl rfl rfl (by decide +kernel) ⟨Nat.le_of_ble_eq_true rfl, Nat.le_of_ble_eq_true rfl⟩) rfl rfl hl.1 rfl (Nat.le_of_ble_eq_true rfl) dL_law_199 ⟨by omega, by omega⟩ (fun H locs w => ?_)
  refine lv_pop C.1.1.1 C.1.1.2.1 dL_law_202 rfl ?_
  refine lv_aload_n C.1.1.1 C.1.1.2.1 dL_law_203 rfl (lv_at hl 2 rfl) ?_
  refine hz_ld C hl w.2.2 1 (by omega) (by decide) dL_law_204 dL_law_205 dL_law_207 dL_law_208 dL_law_209 ?_
  refine hz_ld C hl w.2.2 2 (by omega) (by decide) dL_law_210 dL_law_211 dL_law_213 dL_law_214 dL_law_215 ?_
  refine hz_ld C hl w.2.2 3 (by omega) (by decide) dL_law_216 dL_law_217 dL_law_219 dL_law_220 dL_law_221 ?_
  refine hz_ld C hl w.2.2 4 (by omega) (by decide) dL_law_222 dL_law_223 dL_law_225 dL_law_226 dL_law_227 ?_
  refine hz_ld C hl w.2.2 5 (by omega) (by decide) dL_law_228 dL_law_229 dL_law_231 dL_law_232 dL_law_233 ?_
  refine hz_mc (As := [.int (xs (i + 1)), .int (xs (i + 2)), .int (xs (i + 3)), .int (xs (i + 4)), .int (xs (i + 5))]) (rest := []) C w (fun sz => mX10_feed l G sz μ (xs (i + 1)) (xs (i + 2)) (xs (i + 3)) (xs (i + 4)) (xs (i + 5)) o2 hg) (cwV 5 hts gL_law_X10_feed rfl rfl rfl (by decide +kernel) ⟨Nat.le_of_ble_eq_true rfl, Nat.le_of_ble_eq_true rfl⟩) rfl rfl hl.1 rfl (Nat.le_of_ble_eq_true rfl) dL_law_234 ⟨by omega, by omega⟩ (fun H locs w => ?_)
  refine lv_pop C.1.1.1 C.1.1.2.1 dL_law_237 rfl ?_
  refine lv_goto (tgt := 1307) C.1.1.1 C.1.1.2.1 dL_law_238 (by decide) ?_
  exact W.widen (k := cells + 1) (n := slots + 6) (by omega) (by omega) (kk f H locs ls w hl)
set_option maxHeartbeats 1000000 in
theorem hz_end {p : Program} {l : Launch} {e : Env} {s : State} {m : MethodId} {below : List Frame} {meth : Method} {c : Code} {H : Heap} {locs : List Loc} {cells slots : Nat} {Q : State → Prop} {ls : Array Slot} {G : hy_G} {b L oa i : Nat} {xs : Nat → Int32} {σ μ : hy_S} {f : Nat → Int64} (C : hz_C p s m c b L xs G) (hlt : l.stackTraces = false) (hi : i + 6 ≤ L) (hcl : cells + 1 ≤ 1106 ∧ slots + 6 ≤ 16273) (w : hz_w G oa s σ f μ H locs) (hl : lv_has ls 7 (hz_lv b G oa i)) {o o2 : hy_S × Int32} (hf : fX9_end σ (xs (i + 1)) = some o) (hg : fX10_end μ (xs (i + 1)) = some o2) (kk : ∀ (f2 : Nat → Int64) (H1 : Heap) (locs1 : List Loc) (ls1 : Array Slot), hz_w G oa s o.1 f2 o2.1 H1 locs1 → lv_has ls1 7 (hz_lv b G oa i) → W p l e room_1 s m #[Value.ref b] below meth c H1 locs1 (cells + 1) (slots + 6) Q (F0 m 1307 ls1 [])) : W p l e room_1 s m #[Value.ref b] below meth c H locs cells slots Q (F0 m 241 ls []) := by
  have hcl : cells + 1 ≤ room_1.cells ∧ slots + 6 ≤ room_1.slots := hcl
  have hts := C.1.1.2.2.2.2
  refine lv_aload_n C.1.1.1 C.1.1.2.1 dL_law_241 rfl (lv_at hl 1 rfl) ?_
  refine hz_ld C hl w.2.2 1 (by omega) (by decide) dL_law_242 dL_law_243 dL_law_245 dL_law_246 dL_law_247 ?_
  refine hz_xc (As := [.int (xs (i + 1))]) (rest := []) C w (fun sz => mX9_end l G sz σ (xs (i + 1)) o hf) (cwV 1 hts gL_law_X9_end rfl rfl rfl (by decide +kernel) ⟨Nat.le_of_ble_eq_true rfl, Nat.le_of_ble_eq_true rfl⟩) rfl rfl hl.1 rfl (Nat.le_of_ble_eq_true rfl) dL_law_248 ⟨by omega, by omega⟩ (fun H locs w => ?_)
  refine lv_pop C.1.1.1 C.1.1.2.1 dL_law_251 rfl ?_
  refine lv_aload_n C.1.1.1 C.1.1.2.1 dL_law_252 rfl (lv_at hl 2 rfl) ?_
  refine hz_ld C hl w.2.2 1 (by omega) (by decide) dL_law_253 dL_law_254 dL_law_256 dL_law_257 dL_law_258 ?_
  refine hz_mc (As := [.int (xs (i + 1))]) (rest := []) C w (fun sz => mX10_end l G sz μ (xs (i + 1)) o2 hg) (cwV 1 hts gL_law_X10_end rfl rfl rfl (by decide +kernel) ⟨Nat.le_of_ble_eq_true rfl, Nat.le_of_ble_eq_true rfl⟩) rfl rfl hl.1 rfl (Nat.le_of_ble_eq_true rfl) dL_law_259 ⟨by omega, by omega⟩ (fun H locs w => ?_)
  refine lv_pop C.1.1.1 C.1.1.2.1 dL_law_262 rfl ?_
  refine lv_goto (tgt := 1307) C.1.1.1 C.1.1.2.1 dL_law_263 (by decide) ?_
  exact W.widen (k := cells + 1) (n := slots + 6) (by omega) (by omega) (kk f H locs ls w hl)
set_option maxHeartbeats 1000000 in
theorem hz_kind {p : Program} {l : Launch} {e : Env} {s : State} {m : MethodId} {below : List Frame} {meth : Method} {c : Code} {H : Heap} {locs : List Loc} {cells slots : Nat} {Q : State → Prop} {ls : Array Slot} {G : hy_G} {b L oa i : Nat} {xs : Nat → Int32} {σ μ : hy_S} {f : Nat → Int64} (C : hz_C p s m c b L xs G) (hlt : l.stackTraces = false) (hi : i + 6 ≤ L) (hcl : cells + 1 ≤ 1106 ∧ slots + 6 ≤ 16273) (w : hz_w G oa s σ f μ H locs) (hl : lv_has ls 7 (hz_lv b G oa i)) {o : hy_O} {o2 : hy_S × Int32} (hf : fX9_kind σ (xs (i + 1)) (xs (i + 2)) (xs (i + 3)) = some o) (hg : fX10_kind μ (xs (i + 1)) (xs (i + 2)) (xs (i + 3)) = some o2) (ho : o.2.2 = 0 ∨ o.2.2 = 2 ∨ o.2.2 = 3) (kk : ∀ (f2 : Nat → Int64) (H1 : Heap) (locs1 : List Loc) (ls1 : Array Slot), hz_w G oa s o.1 f2 o2.1 H1 locs1 → lv_has ls1 7 (hz_lv b G oa i) → W p l e room_1 s m #[Value.ref b] below meth c H1 locs1 (cells + 1) (slots + 6) Q (F0 m 1307 ls1 [])) : W p l e room_1 s m #[Value.ref b] below meth c H locs cells slots Q (F0 m 266 ls []) := by
  have hcl : cells + 1 ≤ room_1.cells ∧ slots + 6 ≤ room_1.slots := hcl
  have hts := C.1.1.2.2.2.2
  refine lv_aload_n C.1.1.1 C.1.1.2.1 dL_law_266 rfl (lv_at hl 1 rfl) ?_
  refine hz_ld C hl w.2.2 1 (by omega) (by decide) dL_law_267 dL_law_268 dL_law_270 dL_law_271 dL_law_272 ?_
  refine hz_ld C hl w.2.2 2 (by omega) (by decide) dL_law_273 dL_law_274 dL_law_276 dL_law_277 dL_law_278 ?_
  refine hz_ld C hl w.2.2 3 (by omega) (by decide) dL_law_279 dL_law_280 dL_law_282 dL_law_283 dL_law_284 ?_
  refine lv_aload_n C.1.1.1 C.1.1.2.1 dL_law_285 rfl (lv_at hl 3 rfl) ?_
  have kk2 : ∀ (f : Nat → Int64) (k : Int32) (H : Heap) (locs : List Loc), hz_w G oa s o.1 f μ H locs → W p l e room_1 s m #[Value.ref b] below meth c H locs (cells + 1) (slots + 6) Q (F0 m 289 ls [.int k]) := by
    intro f k H locs w
    refine lv_istore (lv' := (5, .int k) :: hz_lv b G oa i) C.1.1.1 C.1.1.2.1 dL_law_289 hl (by decide) rfl (fun ls hl5 => ?_)
    have hl := lv_sub (l' := hz_lv b G oa i) hl5 [1, 2, 3, 4, 5] rfl
    refine lv_aload_n C.1.1.1 C.1.1.2.1 dL_law_291 rfl (lv_at hl 2 rfl) ?_
    refine hz_ld C hl w.2.2 1 (by omega) (by decide) dL_law_292 dL_law_293 dL_law_295 dL_law_296 dL_law_297 ?_
    refine hz_ld C hl w.2.2 2 (by omega) (by decide) dL_law_298 dL_law_299 dL_law_301 dL_law_302 dL_law_303 ?_
    refine hz_ld C hl w.2.2 3 (by omega) (by decide) dL_law_304 dL_law_305 dL_law_307 dL_law_308 dL_law_309 ?_
    refine hz_mc (As := [.int (xs (i + 1)), .int (xs (i + 2)), .int (xs (i + 3))]) (rest := []) C w (fun sz => mX10_kind l G sz μ (xs (i + 1)) (xs (i + 2)) (xs (i + 3)) o2 hg) (cwV 3 hts gL_law_X10_kind rfl rfl rfl (by decide +kernel) ⟨Nat.le_of_ble_eq_true rfl, Nat.le_of_ble_eq_true rfl⟩) rfl rfl hl.1 rfl (Nat.le_of_ble_eq_true rfl) dL_law_310 ⟨by omega, by omega⟩ (fun H locs w => ?_)
    refine lv_istore (lv' := (6, .int o2.2) :: (5, .int k) :: hz_lv b G oa i) C.1.1.1 C.1.1.2.1 dL_law_313 hl5 (by decide) rfl (fun ls hl6 => ?_)
    have hl := lv_sub (l' := hz_lv b G oa i) hl6 [2, 3, 4, 5, 6] rfl
    refine lv_goto (tgt := 1307) C.1.1.1 C.1.1.2.1 dL_law_315 (by decide) ?_
    exact kk f H locs ls w hl
  rcases ho with h0 | h0 | h0
  · refine hz_sc (As := [.ref (G.2.2.2.1 0), .int (xs (i + 1)), .int (xs (i + 2)), .int (xs (i + 3)), .ref oa]) (rest := []) C w (fun sz => rL_kind l G oa sz σ f (xs (i + 1)) (xs (i + 2)) (xs (i + 3)) o hf h0) (vx_cwSW 5 hts gL_law_L_kind rfl rfl rfl (by decide +kernel) ⟨Nat.le_of_ble_eq_true rfl, Nat.le_of_ble_eq_true rfl⟩) rfl hl.1 rfl (Nat.le_of_ble_eq_true rfl) dL_law_286 ⟨by omega, by omega⟩ (fun H locs w => ?_)
    exact W.widen (k := cells + 1) (n := slots + 6) (by omega) (by omega) (kk2 _ _ H locs w)
  · refine hz_sc (As := [.ref (G.2.2.2.1 0), .int (xs (i + 1)), .int (xs (i + 2)), .int (xs (i + 3)), .ref oa]) (rest := []) C w (fun sz => qL_kind_1 l hlt G oa sz σ f (xs (i + 1)) (xs (i + 2)) (xs (i + 3)) o hf h0) (vx_cwSW 5 hts gL_law_L_kind rfl rfl rfl (by decide +kernel) ⟨Nat.le_of_ble_eq_true rfl, Nat.le_of_ble_eq_true rfl⟩) rfl hl.1 rfl (Nat.le_of_ble_eq_true rfl) dL_law_286 ⟨by omega, by omega⟩ (fun H locs w => ?_)
    exact kk2 _ _ H locs w
  · refine hz_sc (As := [.ref (G.2.2.2.1 0), .int (xs (i + 1)), .int (xs (i + 2)), .int (xs (i + 3)), .ref oa]) (rest := []) C w (fun sz => qL_kind_2 l hlt G oa sz σ f (xs (i + 1)) (xs (i + 2)) (xs (i + 3)) o hf h0) (vx_cwSW 5 hts gL_law_L_kind rfl rfl rfl (by decide +kernel) ⟨Nat.le_of_ble_eq_true rfl, Nat.le_of_ble_eq_true rfl⟩) rfl hl.1 rfl (Nat.le_of_ble_eq_true rfl) dL_law_286 ⟨by omega, by omega⟩ (fun H locs w => ?_)
    exact kk2 _ _ H locs w
set_option maxHeartbeats 1000000 in
theorem hz_fire {p : Program} {l : Launch} {e : Env} {s : State} {m : MethodId} {below : List Frame} {meth : Method} {c : Code} {H : Heap} {locs : List Loc} {cells slots : Nat} {Q : State → Prop} {ls : Array Slot} {G : hy_G} {b L oa i : Nat} {xs : Nat → Int32} {σ μ : hy_S} {f : Nat → Int64} (C : hz_C p s m c b L xs G) (hlt : l.stackTraces = false) (hi : i + 6 ≤ L) (hcl : cells + 1 ≤ 1106 ∧ slots + 6 ≤ 16273) (w : hz_w G oa s σ f μ H locs) (hl : lv_has ls 7 (hz_lv b G oa i)) {o : hy_O} {o2 : hy_S × Int32} (hf : fX9_fire σ (xs (i + 1)) (xs (i + 2)) (xs (i + 3)) = some o) (hg : fX10_fire μ (xs (i + 1)) (xs (i + 2)) (xs (i + 3)) = some o2) (ho : o.2.2 = 0 ∨ o.2.2 = 1 ∨ o.2.2 = 2 ∨ o.2.2 = 3) (kk : ∀ (f2 : Nat → Int64) (H1 : Heap) (locs1 : List Loc) (ls1 : Array Slot), hz_w G oa s o.1 f2 o2.1 H1 locs1 → lv_has ls1 7 (hz_lv b G oa i) → W p l e room_1 s m #[Value.ref b] below meth c H1 locs1 (cells + 1) (slots + 6) Q (F0 m 1307 ls1 [])) : W p l e room_1 s m #[Value.ref b] below meth c H locs cells slots Q (F0 m 318 ls []) := by
  have hcl : cells + 1 ≤ room_1.cells ∧ slots + 6 ≤ room_1.slots := hcl
  have hts := C.1.1.2.2.2.2
  refine lv_aload_n C.1.1.1 C.1.1.2.1 dL_law_318 rfl (lv_at hl 1 rfl) ?_
  refine hz_ld C hl w.2.2 1 (by omega) (by decide) dL_law_319 dL_law_320 dL_law_322 dL_law_323 dL_law_324 ?_
  refine hz_ld C hl w.2.2 2 (by omega) (by decide) dL_law_325 dL_law_326 dL_law_328 dL_law_329 dL_law_330 ?_
  refine hz_ld C hl w.2.2 3 (by omega) (by decide) dL_law_331 dL_law_332 dL_law_334 dL_law_335 dL_law_336 ?_
  refine lv_aload_n C.1.1.1 C.1.1.2.1 dL_law_337 rfl (lv_at hl 3 rfl) ?_
  have kk2 : ∀ (f : Nat → Int64) (k : Int32) (H : Heap) (locs : List Loc), hz_w G oa s o.1 f μ H locs → W p l e room_1 s m #[Value.ref b] below meth c H locs (cells + 1) (slots + 6) Q (F0 m 341 ls [.int k]) := by
    intro f k H locs w
    refine lv_istore (lv' := (5, .int k) :: hz_lv b G oa i) C.1.1.1 C.1.1.2.1 dL_law_341 hl (by decide) rfl (fun ls hl5 => ?_)
    have hl := lv_sub (l' := hz_lv b G oa i) hl5 [1, 2, 3, 4, 5] rfl
    refine lv_aload_n C.1.1.1 C.1.1.2.1 dL_law_343 rfl (lv_at hl 2 rfl) ?_
    refine hz_ld C hl w.2.2 1 (by omega) (by decide) dL_law_344 dL_law_345 dL_law_347 dL_law_348 dL_law_349 ?_
    refine hz_ld C hl w.2.2 2 (by omega) (by decide) dL_law_350 dL_law_351 dL_law_353 dL_law_354 dL_law_355 ?_
    refine hz_ld C hl w.2.2 3 (by omega) (by decide) dL_law_356 dL_law_357 dL_law_359 dL_law_360 dL_law_361 ?_
    refine hz_mc (As := [.int (xs (i + 1)), .int (xs (i + 2)), .int (xs (i + 3))]) (rest := []) C w (fun sz => mX10_fire l G sz μ (xs (i + 1)) (xs (i + 2)) (xs (i + 3)) o2 hg) (cwV 3 hts gL_law_X10_fire rfl rfl rfl (by decide +kernel) ⟨Nat.le_of_ble_eq_true rfl, Nat.le_of_ble_eq_true rfl⟩) rfl rfl hl.1 rfl (Nat.le_of_ble_eq_true rfl) dL_law_362 ⟨by omega, by omega⟩ (fun H locs w => ?_)
    refine lv_istore (lv' := (6, .int o2.2) :: (5, .int k) :: hz_lv b G oa i) C.1.1.1 C.1.1.2.1 dL_law_365 hl5 (by decide) rfl (fun ls hl6 => ?_)
    have hl := lv_sub (l' := hz_lv b G oa i) hl6 [2, 3, 4, 5, 6] rfl
    refine lv_goto (tgt := 1307) C.1.1.1 C.1.1.2.1 dL_law_367 (by decide) ?_
    exact kk f H locs ls w hl
  rcases ho with h0 | h0 | h0 | h0
  · refine hz_sc (As := [.ref (G.2.2.2.1 0), .int (xs (i + 1)), .int (xs (i + 2)), .int (xs (i + 3)), .ref oa]) (rest := []) C w (fun sz => rL_fire l G oa sz σ f (xs (i + 1)) (xs (i + 2)) (xs (i + 3)) o hf h0) (vx_cwSW 5 hts gL_law_L_fire rfl rfl rfl (by decide +kernel) ⟨Nat.le_of_ble_eq_true rfl, Nat.le_of_ble_eq_true rfl⟩) rfl hl.1 rfl (Nat.le_of_ble_eq_true rfl) dL_law_338 ⟨by omega, by omega⟩ (fun H locs w => ?_)
    exact W.widen (k := cells + 1) (n := slots + 6) (by omega) (by omega) (kk2 _ _ H locs w)
  · refine hz_sc (As := [.ref (G.2.2.2.1 0), .int (xs (i + 1)), .int (xs (i + 2)), .int (xs (i + 3)), .ref oa]) (rest := []) C w (fun sz => qL_fire_1 l hlt G oa sz σ f (xs (i + 1)) (xs (i + 2)) (xs (i + 3)) o hf h0) (vx_cwSW 5 hts gL_law_L_fire rfl rfl rfl (by decide +kernel) ⟨Nat.le_of_ble_eq_true rfl, Nat.le_of_ble_eq_true rfl⟩) rfl hl.1 rfl (Nat.le_of_ble_eq_true rfl) dL_law_338 ⟨by omega, by omega⟩ (fun H locs w => ?_)
    exact kk2 _ _ H locs w
  · refine hz_sc (As := [.ref (G.2.2.2.1 0), .int (xs (i + 1)), .int (xs (i + 2)), .int (xs (i + 3)), .ref oa]) (rest := []) C w (fun sz => qL_fire_2 l hlt G oa sz σ f (xs (i + 1)) (xs (i + 2)) (xs (i + 3)) o hf h0) (vx_cwSW 5 hts gL_law_L_fire rfl rfl rfl (by decide +kernel) ⟨Nat.le_of_ble_eq_true rfl, Nat.le_of_ble_eq_true rfl⟩) rfl hl.1 rfl (Nat.le_of_ble_eq_true rfl) dL_law_338 ⟨by omega, by omega⟩ (fun H locs w => ?_)
    exact kk2 _ _ H locs w
  · refine hz_sc (As := [.ref (G.2.2.2.1 0), .int (xs (i + 1)), .int (xs (i + 2)), .int (xs (i + 3)), .ref oa]) (rest := []) C w (fun sz => qL_fire_3 l hlt G oa sz σ f (xs (i + 1)) (xs (i + 2)) (xs (i + 3)) o hf h0) (vx_cwSW 5 hts gL_law_L_fire rfl rfl rfl (by decide +kernel) ⟨Nat.le_of_ble_eq_true rfl, Nat.le_of_ble_eq_true rfl⟩) rfl hl.1 rfl (Nat.le_of_ble_eq_true rfl) dL_law_338 ⟨by omega, by omega⟩ (fun H locs w => ?_)
    exact kk2 _ _ H locs w
set_option maxHeartbeats 1000000 in
theorem hz_fill {p : Program} {l : Launch} {e : Env} {s : State} {m : MethodId} {below : List Frame} {meth : Method} {c : Code} {H : Heap} {locs : List Loc} {cells slots : Nat} {Q : State → Prop} {ls : Array Slot} {G : hy_G} {b L oa i : Nat} {xs : Nat → Int32} {σ μ : hy_S} {f : Nat → Int64} (C : hz_C p s m c b L xs G) (hlt : l.stackTraces = false) (hi : i + 6 ≤ L) (hcl : cells + 1 ≤ 1106 ∧ slots + 6 ≤ 16273) (w : hz_w G oa s σ f μ H locs) (hl : lv_has ls 7 (hz_lv b G oa i)) {o : hy_O} {o2 : hy_S × Int32} (hf : fX9_fill σ (xs (i + 1)) (xs (i + 2)) = some o) (hg : fX10_fill μ (xs (i + 1)) (xs (i + 2)) = some o2) (ho : o.2.2 = 0 ∨ o.2.2 = 1 ∨ o.2.2 = 2) (kk : ∀ (f2 : Nat → Int64) (H1 : Heap) (locs1 : List Loc) (ls1 : Array Slot), hz_w G oa s o.1 f2 o2.1 H1 locs1 → lv_has ls1 7 (hz_lv b G oa i) → W p l e room_1 s m #[Value.ref b] below meth c H1 locs1 (cells + 1) (slots + 6) Q (F0 m 1307 ls1 [])) : W p l e room_1 s m #[Value.ref b] below meth c H locs cells slots Q (F0 m 370 ls []) := by
  have hcl : cells + 1 ≤ room_1.cells ∧ slots + 6 ≤ room_1.slots := hcl
  have hts := C.1.1.2.2.2.2
  refine lv_aload_n C.1.1.1 C.1.1.2.1 dL_law_370 rfl (lv_at hl 1 rfl) ?_
  refine hz_ld C hl w.2.2 1 (by omega) (by decide) dL_law_371 dL_law_372 dL_law_374 dL_law_375 dL_law_376 ?_
  refine hz_ld C hl w.2.2 2 (by omega) (by decide) dL_law_377 dL_law_378 dL_law_380 dL_law_381 dL_law_382 ?_
  refine lv_aload_n C.1.1.1 C.1.1.2.1 dL_law_383 rfl (lv_at hl 3 rfl) ?_
  have kk2 : ∀ (f : Nat → Int64) (k : Int32) (H : Heap) (locs : List Loc), hz_w G oa s o.1 f μ H locs → W p l e room_1 s m #[Value.ref b] below meth c H locs (cells + 1) (slots + 6) Q (F0 m 387 ls [.int k]) := by
    intro f k H locs w
    refine lv_istore (lv' := (5, .int k) :: hz_lv b G oa i) C.1.1.1 C.1.1.2.1 dL_law_387 hl (by decide) rfl (fun ls hl5 => ?_)
    have hl := lv_sub (l' := hz_lv b G oa i) hl5 [1, 2, 3, 4, 5] rfl
    refine lv_aload_n C.1.1.1 C.1.1.2.1 dL_law_389 rfl (lv_at hl 2 rfl) ?_
    refine hz_ld C hl w.2.2 1 (by omega) (by decide) dL_law_390 dL_law_391 dL_law_393 dL_law_394 dL_law_395 ?_
    refine hz_ld C hl w.2.2 2 (by omega) (by decide) dL_law_396 dL_law_397 dL_law_399 dL_law_400 dL_law_401 ?_
    refine hz_mc (As := [.int (xs (i + 1)), .int (xs (i + 2))]) (rest := []) C w (fun sz => mX10_fill l G sz μ (xs (i + 1)) (xs (i + 2)) o2 hg) (cwV 2 hts gL_law_X10_fill rfl rfl rfl (by decide +kernel) ⟨Nat.le_of_ble_eq_true rfl, Nat.le_of_ble_eq_true rfl⟩) rfl rfl hl.1 rfl (Nat.le_of_ble_eq_true rfl) dL_law_402 ⟨by omega, by omega⟩ (fun H locs w => ?_)
    refine lv_istore (lv' := (6, .int o2.2) :: (5, .int k) :: hz_lv b G oa i) C.1.1.1 C.1.1.2.1 dL_law_405 hl5 (by decide) rfl (fun ls hl6 => ?_)
    have hl := lv_sub (l' := hz_lv b G oa i) hl6 [2, 3, 4, 5, 6] rfl
    refine lv_goto (tgt := 1307) C.1.1.1 C.1.1.2.1 dL_law_407 (by decide) ?_
    exact kk f H locs ls w hl
  rcases ho with h0 | h0 | h0
  · refine hz_sc (As := [.ref (G.2.2.2.1 0), .int (xs (i + 1)), .int (xs (i + 2)), .ref oa]) (rest := []) C w (fun sz => rL_fill l G oa sz σ f (xs (i + 1)) (xs (i + 2)) o hf h0) (vx_cwSW 4 hts gL_law_L_fill rfl rfl rfl (by decide +kernel) ⟨Nat.le_of_ble_eq_true rfl, Nat.le_of_ble_eq_true rfl⟩) rfl hl.1 rfl (Nat.le_of_ble_eq_true rfl) dL_law_384 ⟨by omega, by omega⟩ (fun H locs w => ?_)
    exact W.widen (k := cells + 1) (n := slots + 6) (by omega) (by omega) (kk2 _ _ H locs w)
  · refine hz_sc (As := [.ref (G.2.2.2.1 0), .int (xs (i + 1)), .int (xs (i + 2)), .ref oa]) (rest := []) C w (fun sz => qL_fill_1 l hlt G oa sz σ f (xs (i + 1)) (xs (i + 2)) o hf h0) (vx_cwSW 4 hts gL_law_L_fill rfl rfl rfl (by decide +kernel) ⟨Nat.le_of_ble_eq_true rfl, Nat.le_of_ble_eq_true rfl⟩) rfl hl.1 rfl (Nat.le_of_ble_eq_true rfl) dL_law_384 ⟨by omega, by omega⟩ (fun H locs w => ?_)
    exact kk2 _ _ H locs w
  · refine hz_sc (As := [.ref (G.2.2.2.1 0), .int (xs (i + 1)), .int (xs (i + 2)), .ref oa]) (rest := []) C w (fun sz => qL_fill_2 l hlt G oa sz σ f (xs (i + 1)) (xs (i + 2)) o hf h0) (vx_cwSW 4 hts gL_law_L_fill rfl rfl rfl (by decide +kernel) ⟨Nat.le_of_ble_eq_true rfl, Nat.le_of_ble_eq_true rfl⟩) rfl hl.1 rfl (Nat.le_of_ble_eq_true rfl) dL_law_384 ⟨by omega, by omega⟩ (fun H locs w => ?_)
    exact kk2 _ _ H locs w
set_option maxHeartbeats 1000000 in
theorem hz_ship {p : Program} {l : Launch} {e : Env} {s : State} {m : MethodId} {below : List Frame} {meth : Method} {c : Code} {H : Heap} {locs : List Loc} {cells slots : Nat} {Q : State → Prop} {ls : Array Slot} {G : hy_G} {b L oa i : Nat} {xs : Nat → Int32} {σ μ : hy_S} {f : Nat → Int64} (C : hz_C p s m c b L xs G) (hlt : l.stackTraces = false) (hi : i + 6 ≤ L) (hcl : cells + 1 ≤ 1106 ∧ slots + 6 ≤ 16273) (w : hz_w G oa s σ f μ H locs) (hl : lv_has ls 7 (hz_lv b G oa i)) {o : hy_O} {o2 : hy_S × Int32} (hf : fX9_ship σ = some o) (hg : fX10_ship μ = some o2) (ho : o.2.2 = 0 ∨ o.2.2 = 3) (kk : ∀ (f2 : Nat → Int64) (H1 : Heap) (locs1 : List Loc) (ls1 : Array Slot), hz_w G oa s o.1 f2 o2.1 H1 locs1 → lv_has ls1 7 (hz_lv b G oa i) → W p l e room_1 s m #[Value.ref b] below meth c H1 locs1 (cells + 1) (slots + 6) Q (F0 m 1307 ls1 [])) : W p l e room_1 s m #[Value.ref b] below meth c H locs cells slots Q (F0 m 410 ls []) := by
  have hcl : cells + 1 ≤ room_1.cells ∧ slots + 6 ≤ room_1.slots := hcl
  have hts := C.1.1.2.2.2.2
  refine lv_aload_n C.1.1.1 C.1.1.2.1 dL_law_410 rfl (lv_at hl 1 rfl) ?_
  refine lv_aload_n C.1.1.1 C.1.1.2.1 dL_law_411 rfl (lv_at hl 3 rfl) ?_
  have kk2 : ∀ (f : Nat → Int64) (k : Int32) (H : Heap) (locs : List Loc), hz_w G oa s o.1 f μ H locs → W p l e room_1 s m #[Value.ref b] below meth c H locs (cells + 1) (slots + 6) Q (F0 m 415 ls [.int k]) := by
    intro f k H locs w
    refine lv_istore (lv' := (5, .int k) :: hz_lv b G oa i) C.1.1.1 C.1.1.2.1 dL_law_415 hl (by decide) rfl (fun ls hl5 => ?_)
    have hl := lv_sub (l' := hz_lv b G oa i) hl5 [1, 2, 3, 4, 5] rfl
    refine lv_aload_n C.1.1.1 C.1.1.2.1 dL_law_417 rfl (lv_at hl 2 rfl) ?_
    refine hz_mc (As := []) (rest := []) C w (fun sz => mX10_ship l G sz μ o2 hg) (cwV 0 hts gL_law_X10_ship rfl rfl rfl (by decide +kernel) ⟨Nat.le_of_ble_eq_true rfl, Nat.le_of_ble_eq_true rfl⟩) rfl rfl hl.1 rfl (Nat.le_of_ble_eq_true rfl) dL_law_418 ⟨by omega, by omega⟩ (fun H locs w => ?_)
    refine lv_istore (lv' := (6, .int o2.2) :: (5, .int k) :: hz_lv b G oa i) C.1.1.1 C.1.1.2.1 dL_law_421 hl5 (by decide) rfl (fun ls hl6 => ?_)
    have hl := lv_sub (l' := hz_lv b G oa i) hl6 [2, 3, 4, 5, 6] rfl
    refine lv_goto (tgt := 1307) C.1.1.1 C.1.1.2.1 dL_law_423 (by decide) ?_
    exact kk f H locs ls w hl
  rcases ho with h0 | h0
  · refine hz_sc (As := [.ref (G.2.2.2.1 0), .ref oa]) (rest := []) C w (fun sz => rL_ship l G oa sz σ f o hf h0) (vx_cwSW 2 hts gL_law_L_ship rfl rfl rfl (by decide +kernel) ⟨Nat.le_of_ble_eq_true rfl, Nat.le_of_ble_eq_true rfl⟩) rfl hl.1 rfl (Nat.le_of_ble_eq_true rfl) dL_law_412 ⟨by omega, by omega⟩ (fun H locs w => ?_)
    exact W.widen (k := cells + 1) (n := slots + 6) (by omega) (by omega) (kk2 _ _ H locs w)
  · refine hz_sc (As := [.ref (G.2.2.2.1 0), .ref oa]) (rest := []) C w (fun sz => qL_ship_1 l hlt G oa sz σ f o hf h0) (vx_cwSW 2 hts gL_law_L_ship rfl rfl rfl (by decide +kernel) ⟨Nat.le_of_ble_eq_true rfl, Nat.le_of_ble_eq_true rfl⟩) rfl hl.1 rfl (Nat.le_of_ble_eq_true rfl) dL_law_412 ⟨by omega, by omega⟩ (fun H locs w => ?_)
    exact kk2 _ _ H locs w
set_option maxHeartbeats 1000000 in
theorem hz_load {p : Program} {l : Launch} {e : Env} {s : State} {m : MethodId} {below : List Frame} {meth : Method} {c : Code} {H : Heap} {locs : List Loc} {cells slots : Nat} {Q : State → Prop} {ls : Array Slot} {G : hy_G} {b L oa i : Nat} {xs : Nat → Int32} {σ μ : hy_S} {f : Nat → Int64} (C : hz_C p s m c b L xs G) (hlt : l.stackTraces = false) (hi : i + 6 ≤ L) (hcl : cells + 1 ≤ 1106 ∧ slots + 6 ≤ 16273) (w : hz_w G oa s σ f μ H locs) (hl : lv_has ls 7 (hz_lv b G oa i)) {o : hy_O} {o2 : hy_S × Int32} (hf : fX9_load σ (xs (i + 1)) (xs (i + 2)) (xs (i + 3)) = some o) (hg : fX10_load μ (xs (i + 1)) (xs (i + 2)) (xs (i + 3)) = some o2) (ho : o.2.2 = 0 ∨ o.2.2 = 1) (kk : ∀ (f2 : Nat → Int64) (H1 : Heap) (locs1 : List Loc) (ls1 : Array Slot), hz_w G oa s o.1 f2 o2.1 H1 locs1 → lv_has ls1 7 (hz_lv b G oa i) → W p l e room_1 s m #[Value.ref b] below meth c H1 locs1 (cells + 1) (slots + 6) Q (F0 m 1307 ls1 [])) : W p l e room_1 s m #[Value.ref b] below meth c H locs cells slots Q (F0 m 426 ls []) := by
  have hcl : cells + 1 ≤ room_1.cells ∧ slots + 6 ≤ room_1.slots := hcl
  have hts := C.1.1.2.2.2.2
  refine lv_aload_n C.1.1.1 C.1.1.2.1 dL_law_426 rfl (lv_at hl 1 rfl) ?_
  refine hz_ld C hl w.2.2 1 (by omega) (by decide) dL_law_427 dL_law_428 dL_law_430 dL_law_431 dL_law_432 ?_
  refine hz_ld C hl w.2.2 2 (by omega) (by decide) dL_law_433 dL_law_434 dL_law_436 dL_law_437 dL_law_438 ?_
  refine hz_ld C hl w.2.2 3 (by omega) (by decide) dL_law_439 dL_law_440 dL_law_442 dL_law_443 dL_law_444 ?_
  refine lv_aload_n C.1.1.1 C.1.1.2.1 dL_law_445 rfl (lv_at hl 3 rfl) ?_
  have kk2 : ∀ (f : Nat → Int64) (k : Int32) (H : Heap) (locs : List Loc), hz_w G oa s o.1 f μ H locs → W p l e room_1 s m #[Value.ref b] below meth c H locs (cells + 1) (slots + 6) Q (F0 m 449 ls [.int k]) := by
    intro f k H locs w
    refine lv_istore (lv' := (5, .int k) :: hz_lv b G oa i) C.1.1.1 C.1.1.2.1 dL_law_449 hl (by decide) rfl (fun ls hl5 => ?_)
    have hl := lv_sub (l' := hz_lv b G oa i) hl5 [1, 2, 3, 4, 5] rfl
    refine lv_aload_n C.1.1.1 C.1.1.2.1 dL_law_451 rfl (lv_at hl 2 rfl) ?_
    refine hz_ld C hl w.2.2 1 (by omega) (by decide) dL_law_452 dL_law_453 dL_law_455 dL_law_456 dL_law_457 ?_
    refine hz_ld C hl w.2.2 2 (by omega) (by decide) dL_law_458 dL_law_459 dL_law_461 dL_law_462 dL_law_463 ?_
    refine hz_ld C hl w.2.2 3 (by omega) (by decide) dL_law_464 dL_law_465 dL_law_467 dL_law_468 dL_law_469 ?_
    refine hz_mc (As := [.int (xs (i + 1)), .int (xs (i + 2)), .int (xs (i + 3))]) (rest := []) C w (fun sz => mX10_load l G sz μ (xs (i + 1)) (xs (i + 2)) (xs (i + 3)) o2 hg) (cwV 3 hts gL_law_X10_load rfl rfl rfl (by decide +kernel) ⟨Nat.le_of_ble_eq_true rfl, Nat.le_of_ble_eq_true rfl⟩) rfl rfl hl.1 rfl (Nat.le_of_ble_eq_true rfl) dL_law_470 ⟨by omega, by omega⟩ (fun H locs w => ?_)
    refine lv_istore (lv' := (6, .int o2.2) :: (5, .int k) :: hz_lv b G oa i) C.1.1.1 C.1.1.2.1 dL_law_473 hl5 (by decide) rfl (fun ls hl6 => ?_)
    have hl := lv_sub (l' := hz_lv b G oa i) hl6 [2, 3, 4, 5, 6] rfl
    refine lv_goto (tgt := 1307) C.1.1.1 C.1.1.2.1 dL_law_475 (by decide) ?_
    exact kk f H locs ls w hl
  rcases ho with h0 | h0
  · refine hz_sc (As := [.ref (G.2.2.2.1 0), .int (xs (i + 1)), .int (xs (i + 2)), .int (xs (i + 3)), .ref oa]) (rest := []) C w (fun sz => rL_load l G oa sz σ f (xs (i + 1)) (xs (i + 2)) (xs (i + 3)) o hf h0) (vx_cwSW 5 hts gL_law_L_load rfl rfl rfl (by decide +kernel) ⟨Nat.le_of_ble_eq_true rfl, Nat.le_of_ble_eq_true rfl⟩) rfl hl.1 rfl (Nat.le_of_ble_eq_true rfl) dL_law_446 ⟨by omega, by omega⟩ (fun H locs w => ?_)
    exact W.widen (k := cells + 1) (n := slots + 6) (by omega) (by omega) (kk2 _ _ H locs w)
  · refine hz_sc (As := [.ref (G.2.2.2.1 0), .int (xs (i + 1)), .int (xs (i + 2)), .int (xs (i + 3)), .ref oa]) (rest := []) C w (fun sz => qL_load_1 l hlt G oa sz σ f (xs (i + 1)) (xs (i + 2)) (xs (i + 3)) o hf h0) (vx_cwSW 5 hts gL_law_L_load rfl rfl rfl (by decide +kernel) ⟨Nat.le_of_ble_eq_true rfl, Nat.le_of_ble_eq_true rfl⟩) rfl hl.1 rfl (Nat.le_of_ble_eq_true rfl) dL_law_446 ⟨by omega, by omega⟩ (fun H locs w => ?_)
    exact kk2 _ _ H locs w
