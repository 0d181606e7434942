section WK
variable {p : Program} {l : Launch} {e : Env} {s : State} {m : MethodId} {args : Array Value} {below : List Frame} {meth : Method} {c : Code} {D : va_G} {cA : Nat → ClassId} {dA z0 : Nat}
abbrev rm_Mo_lattice : Room := { frames := 2, cells := 0, slots := 0, locals := 49 }
theorem h_Mo_lattice : mCV y_Mo_lattice b_Mo_lattice 13 none 2 := ⟨k_1100, k_79, ⟨by decide, by decide, by decide +kernel⟩, k_1099, k_59⟩
set_option maxHeartbeats 4000000 in
set_option maxRecDepth 100000 in
theorem w_Mo_lattice_409 {h0 : Nat} {r : mM} (X : mX p m meth c s args b_Mo_lattice 13 none "ColourLinkerModel") (G : mG D cA dA z0 s) {H : Heap} {locs : List Loc} {μ : mM} {ls : Array Slot}  (I : mI D cA z0 s μ H locs s.heap.size) (hf : f_Mo_lattice_409 h0 μ = some r) (hl : lv_has ls 13 [(0, va_rf (some h0))]) : W p l e rm_Mo_lattice s m args below meth c H locs 0 0 (MQ below (mQW D cA z0 none r) args s 0 0 (mA z0)) (F0 m 409 ls []) := by
  have hx := X.ex
  have hb := X.by_
  unfold f_Mo_lattice_409 at hf
  obtain rfl := Option.some.inj hf
  exact r_vretW X I d_Mo_lattice_409

set_option maxHeartbeats 4000000 in
set_option maxRecDepth 100000 in
theorem w_Mo_lattice_278 {h0 : Nat} {r : mM} (X : mX p m meth c s args b_Mo_lattice 13 none "ColourLinkerModel") (G : mG D cA dA z0 s) {kx409 : mM → Option (mM)} (hkx409 : ∀ (H : Heap) (locs : List Loc) (μ : mM) (ls : Array Slot), mI D cA z0 s μ H locs s.heap.size → kx409 μ = some r → lv_has ls 13 [(0, va_rf (some h0))] → W p l e rm_Mo_lattice s m args below meth c H locs 0 0 (MQ below (mQW D cA z0 none r) args s 0 0 (mA z0)) (F0 m 409 ls [])) : ∀ (n : Nat) (H : Heap) (locs : List Loc) (μ : mM) (ls : Array Slot) (x1 : Int32) (x2 : Int32) (x4 : Int32) (x5 : Int32) (x6 : Int32) (x7 : Int32) (x8 : Int32) (x9 : Int32) (x10 : Int32), mI D cA z0 s μ H locs s.heap.size → f_Mo_lattice_278 h0 kx409 n μ x1 x2 x4 x5 x6 x7 x8 x9 x10 = some r → lv_has ls 13 [(0, va_rf (some h0)), (1, .int x1), (2, .int x2), (4, .int x4), (5, .int x5), (6, .int x6), (7, .int x7), (8, .int x8), (9, .int x9), (10, .int x10)] → W p l e rm_Mo_lattice s m args below meth c H locs 0 0 (MQ below (mQW D cA z0 none r) args s 0 0 (mA z0)) (F0 m 278 ls []) := by
  have hx := X.ex
  have hb := X.by_
  intro n
  induction n with
  | zero => intro H locs μ ls x1 x2 x4 x5 x6 x7 x8 x9 x10 I hf hl; rw [f_Mo_lattice_278] at hf; cases hf
  | succ n ih =>
    intro H locs μ ls x1 x2 x4 x5 x6 x7 x8 x9 x10 I hf hl
    rw [f_Mo_lattice_278] at hf
    refine lv_iload hx hb d_Mo_lattice_278 (lv_at hl 9 rfl) ?_
    refine lv_iconst (v := 3) hx hb d_Mo_lattice_280 (by decide) ?_
    refine lv_icmp_ge (tgt := 409) hx hb d_Mo_lattice_281 (by decide) (fun hc => ?_) (fun hc => ?_)
    · have hf := mift hf hc
      exact hkx409 _ _ _ _ I hf (lv_sub hl [0] rfl)
    · have hf := miff hf hc
      refine lv_ldc2 (v := 65535) hx hb X.ow (X.w k_992) d_Mo_lattice_284 ?_
      refine r_aload_n X d_Mo_lattice_287 rfl (lv_at hl 0 rfl) ?_
      obtain ⟨v26, hv, hf⟩ := mbind hf
      refine r_getf X G I (mfA_e hv) o_Mo_old k_853 (Or.inl rfl) d_Mo_lattice_288 ?_
      refine lv_iload hx hb d_Mo_lattice_291 (lv_at hl 4 rfl) ?_
      obtain ⟨v27, hv, hf⟩ := mbind hf
      refine r_lald X G I hv d_Mo_lattice_293 ?_
      refine lv_lsub hx hb d_Mo_lattice_294 ?_
      refine r_aload_n X d_Mo_lattice_295 rfl (lv_at hl 0 rfl) ?_
      refine lv_iload_n hx hb d_Mo_lattice_296 rfl (lv_at hl 1 rfl) ?_
      refine lv_iload_n hx hb d_Mo_lattice_297 rfl (lv_at hl 2 rfl) ?_
      refine lv_iload hx hb d_Mo_lattice_298 (lv_at hl 3 rfl) ?_
      refine lv_iload hx hb d_Mo_lattice_300 (lv_at hl 9 rfl) ?_
      obtain ⟨q28, hv, hf⟩ := mbind hf
      obtain ⟨a, ha, hv⟩ := mbind hv
      obtain ⟨ha, fs, hm⟩ := mrc_e ha
      refine m_caR (m_runV (As := [.int x1, .int x2, .int x4, .int x10]) (r := some h0) (rest := [.long ((65535 : Int64) - v27)]) X G I h_Mo_node k_1101 (c_Mo_node hv) mPr_blind (m_pre G I) hm rfl ha rfl rfl hl.1 (Nat.le_of_ble_eq_true rfl) rfl rfl ⟨Nat.le_of_ble_eq_true rfl, Nat.le_of_ble_eq_true rfl⟩ ⟨Nat.le_refl _, Nat.le_refl _⟩ d_Mo_lattice_302) ?_
      refine lv_lmul hx hb d_Mo_lattice_305 ?_
      refine r_aload_n X d_Mo_lattice_306 rfl (lv_at hl 0 rfl) ?_
      obtain ⟨v29, hv, hf⟩ := mbind hf
      refine r_getf X G I (mfA_e hv) o_Mo_old k_853 (Or.inl rfl) d_Mo_lattice_307 ?_
      refine lv_iload hx hb d_Mo_lattice_310 (lv_at hl 4 rfl) ?_
      obtain ⟨v30, hv, hf⟩ := mbind hf
      refine r_lald X G I hv d_Mo_lattice_312 ?_
      refine r_aload_n X d_Mo_lattice_313 rfl (lv_at hl 0 rfl) ?_
      obtain ⟨v31, hv, hf⟩ := mbind hf
      refine r_getf X G I (mfA_e hv) o_Mo_old k_853 (Or.inl rfl) d_Mo_lattice_314 ?_
      refine lv_iload hx hb d_Mo_lattice_317 (lv_at hl 6 rfl) ?_
      obtain ⟨v32, hv, hf⟩ := mbind hf
      refine r_lald X G I hv d_Mo_lattice_319 ?_
      refine lv_lsub hx hb d_Mo_lattice_320 ?_
      refine r_aload_n X d_Mo_lattice_321 rfl (lv_at hl 0 rfl) ?_
      refine lv_iload_n hx hb d_Mo_lattice_322 rfl (lv_at hl 1 rfl) ?_
      refine lv_iload_n hx hb d_Mo_lattice_323 rfl (lv_at hl 2 rfl) ?_
      refine lv_iload hx hb d_Mo_lattice_324 (lv_at hl 7 rfl) ?_
      refine lv_iload hx hb d_Mo_lattice_326 (lv_at hl 9 rfl) ?_
      obtain ⟨q33, hv, hf⟩ := mbind hf
      obtain ⟨a, ha, hv⟩ := mbind hv
      obtain ⟨ha, fs, hm⟩ := mrc_e ha
      refine m_caR (m_runV (As := [.int x1, .int x2, .int x8, .int x10]) (r := some h0) (rest := [.long (v30 - v32), .long (((65535 : Int64) - v27) * q28)]) X G I h_Mo_node k_1101 (c_Mo_node hv) mPr_blind (m_pre G I) hm rfl ha rfl rfl hl.1 (Nat.le_of_ble_eq_true rfl) rfl rfl ⟨Nat.le_of_ble_eq_true rfl, Nat.le_of_ble_eq_true rfl⟩ ⟨Nat.le_refl _, Nat.le_refl _⟩ d_Mo_lattice_328) ?_
      refine lv_lmul hx hb d_Mo_lattice_331 ?_
      refine lv_ladd hx hb d_Mo_lattice_332 ?_
      refine lv_lstore (i := 11) (lv' := [(11, .long ((((65535 : Int64) - v27) * q28) + ((v30 - v32) * q33))), (0, va_rf (some h0)), (1, .int x1), (2, .int x2), (4, .int x4), (5, .int x5), (6, .int x6), (7, .int x7), (8, .int x8), (9, .int x9), (10, .int x10)]) hx hb d_Mo_lattice_333 hl (by decide) rfl (fun ls hl => ?_)
      refine lv_lload hx hb d_Mo_lattice_335 (lv_at hl 0 rfl) ?_
      refine r_aload_n X d_Mo_lattice_337 rfl (lv_at hl 1 rfl) ?_
      obtain ⟨v34, hv, hf⟩ := mbind hf
      refine r_getf X G I (mfA_e hv) o_Mo_old k_853 (Or.inl rfl) d_Mo_lattice_338 ?_
      refine lv_iload hx hb d_Mo_lattice_341 (lv_at hl 7 rfl) ?_
      obtain ⟨v35, hv, hf⟩ := mbind hf
      refine r_lald X G I hv d_Mo_lattice_343 ?_
      refine r_aload_n X d_Mo_lattice_344 rfl (lv_at hl 1 rfl) ?_
      obtain ⟨v36, hv, hf⟩ := mbind hf
      refine r_getf X G I (mfA_e hv) o_Mo_old k_853 (Or.inl rfl) d_Mo_lattice_345 ?_
      refine lv_iload hx hb d_Mo_lattice_348 (lv_at hl 6 rfl) ?_
      obtain ⟨v37, hv, hf⟩ := mbind hf
      refine r_lald X G I hv d_Mo_lattice_350 ?_
      refine lv_lsub hx hb d_Mo_lattice_351 ?_
      refine r_aload_n X d_Mo_lattice_352 rfl (lv_at hl 1 rfl) ?_
      refine lv_iload_n hx hb d_Mo_lattice_353 rfl (lv_at hl 2 rfl) ?_
      refine lv_iload_n hx hb d_Mo_lattice_354 rfl (lv_at hl 3 rfl) ?_
      refine lv_iload hx hb d_Mo_lattice_355 (lv_at hl 9 rfl) ?_
      refine lv_iload hx hb d_Mo_lattice_357 (lv_at hl 10 rfl) ?_
      obtain ⟨q38, hv, hf⟩ := mbind hf
      obtain ⟨a, ha, hv⟩ := mbind hv
      obtain ⟨ha, fs, hm⟩ := mrc_e ha
      refine m_caR (m_runV (As := [.int x1, .int x2, .int x9, .int x10]) (r := some h0) (rest := [.long (v35 - v37), .long ((((65535 : Int64) - v27) * q28) + ((v30 - v32) * q33))]) X G I h_Mo_node k_1101 (c_Mo_node hv) mPr_blind (m_pre G I) hm rfl ha rfl rfl hl.1 (Nat.le_of_ble_eq_true rfl) rfl rfl ⟨Nat.le_of_ble_eq_true rfl, Nat.le_of_ble_eq_true rfl⟩ ⟨Nat.le_refl _, Nat.le_refl _⟩ d_Mo_lattice_359) ?_
      refine lv_lmul hx hb d_Mo_lattice_362 ?_
      refine r_aload_n X d_Mo_lattice_363 rfl (lv_at hl 1 rfl) ?_
      obtain ⟨v39, hv, hf⟩ := mbind hf
      refine r_getf X G I (mfA_e hv) o_Mo_old k_853 (Or.inl rfl) d_Mo_lattice_364 ?_
      refine lv_iload hx hb d_Mo_lattice_367 (lv_at hl 6 rfl) ?_
      obtain ⟨v40, hv, hf⟩ := mbind hf
      refine r_lald X G I hv d_Mo_lattice_369 ?_
      refine r_aload_n X d_Mo_lattice_370 rfl (lv_at hl 1 rfl) ?_
      refine lv_iload_n hx hb d_Mo_lattice_371 rfl (lv_at hl 2 rfl) ?_
      refine lv_iload_n hx hb d_Mo_lattice_372 rfl (lv_at hl 3 rfl) ?_
      refine lv_iload hx hb d_Mo_lattice_373 (lv_at hl 4 rfl) ?_
      refine lv_bipush (v := 21) hx hb d_Mo_lattice_375 (by decide) ?_
      refine lv_iadd hx hb d_Mo_lattice_377 ?_
      refine lv_iload hx hb d_Mo_lattice_378 (lv_at hl 10 rfl) ?_
      obtain ⟨q41, hv, hf⟩ := mbind hf
      obtain ⟨a, ha, hv⟩ := mbind hv
      obtain ⟨ha, fs, hm⟩ := mrc_e ha
      refine m_caR (m_runV (As := [.int x1, .int x2, .int (x4 + (21 : Int32)), .int x10]) (r := some h0) (rest := [.long v40, .long ((v35 - v37) * q38), .long ((((65535 : Int64) - v27) * q28) + ((v30 - v32) * q33))]) X G I h_Mo_node k_1101 (c_Mo_node hv) mPr_blind (m_pre G I) hm rfl ha rfl rfl hl.1 (Nat.le_of_ble_eq_true rfl) rfl rfl ⟨Nat.le_of_ble_eq_true rfl, Nat.le_of_ble_eq_true rfl⟩ ⟨Nat.le_refl _, Nat.le_refl _⟩ d_Mo_lattice_380) ?_
      refine lv_lmul hx hb d_Mo_lattice_383 ?_
      refine lv_ladd hx hb d_Mo_lattice_384 ?_
      refine lv_ladd hx hb d_Mo_lattice_385 ?_
      refine lv_lstore (i := 11) (lv' := [(11, .long (((((65535 : Int64) - v27) * q28) + ((v30 - v32) * q33)) + (((v35 - v37) * q38) + (v40 * q41)))), (0, va_rf (some h0)), (1, .int x1), (2, .int x2), (4, .int x4), (5, .int x5), (6, .int x6), (7, .int x7), (8, .int x8), (9, .int x9), (10, .int x10)]) hx hb d_Mo_lattice_386 hl (by decide) rfl (fun ls hl => ?_)
      refine r_aload_n X d_Mo_lattice_388 rfl (lv_at hl 1 rfl) ?_
      obtain ⟨v42, hv, hf⟩ := mbind hf
      refine r_getf X G I (mfA_e hv) o_Mo_v k_852 (Or.inl rfl) d_Mo_lattice_389 ?_
      refine lv_iload hx hb d_Mo_lattice_392 (lv_at hl 10 rfl) ?_
      refine lv_lload hx hb d_Mo_lattice_394 (lv_at hl 0 rfl) ?_
      refine lv_ldc2 (v := 65535) hx hb X.ow (X.w k_992) d_Mo_lattice_396 ?_
      obtain ⟨q43, hv, hf⟩ := mbind hf
      refine m_caR (m_runS (As := [.long (((((65535 : Int64) - v27) * q28) + ((v30 - v32) * q33)) + (((v35 - v37) * q38) + (v40 * q41))), .long (65535 : Int64)]) (rest := [.int x10, va_rf v42]) X h_Mo_near k_993 (c_Mo_near hv) mPr_blind (m_pre G I) rfl rfl hl.1 (Nat.le_of_ble_eq_true rfl) rfl rfl ⟨Nat.le_of_ble_eq_true rfl, Nat.le_of_ble_eq_true rfl⟩ ⟨Nat.le_refl _, Nat.le_refl _⟩ d_Mo_lattice_399) ?_
      obtain ⟨m44, hv, hf⟩ := mbind hf
      refine r_last X G I hv d_Mo_lattice_402 (fun H locs I => ?_)
      refine lv_iinc (i := 10) (k := 10) (v := (x10 + (1 : Int32))) (lv' := [(10, .int (x10 + (1 : Int32))), (11, .long (((((65535 : Int64) - v27) * q28) + ((v30 - v32) * q33)) + (((v35 - v37) * q38) + (v40 * q41)))), (0, va_rf (some h0)), (1, .int x1), (2, .int x2), (4, .int x4), (5, .int x5), (6, .int x6), (7, .int x7), (8, .int x8), (9, .int x9)]) hx hb d_Mo_lattice_403 hl rfl (congrArg (fun t => x10 + t) (by decide : Int32.ofInt (1) = (1 : Int32))) (by decide) rfl (fun ls hl => ?_)
      refine lv_goto (tgt := 278) hx hb d_Mo_lattice_406 (by decide) ?_
      exact ih _ _ _ _ _ _ _ _ _ _ _ _ _ I hf (lv_sub hl [2, 3, 4, 5, 6, 7, 8, 9, 10, 0] rfl)

set_option maxHeartbeats 4000000 in
set_option maxRecDepth 100000 in
theorem w_Mo_lattice_272 {h0 : Nat} {r : mM} (X : mX p m meth c s args b_Mo_lattice 13 none "ColourLinkerModel") (G : mG D cA dA z0 s) {H : Heap} {locs : List Loc} {μ : mM} {ls : Array Slot} {x1 : Int32} {x2 : Int32} {x4 : Int32} {x5 : Int32} {x6 : Int32} {x7 : Int32} {x8 : Int32} {s0 : Int32} {s1 : Int32} (I : mI D cA z0 s μ H locs s.heap.size) (hf : f_Mo_lattice_272 h0 μ x1 x2 x4 x5 x6 x7 x8 s0 s1 = some r) (hl : lv_has ls 13 [(0, va_rf (some h0)), (1, .int x1), (2, .int x2), (4, .int x4), (5, .int x5), (6, .int x6), (7, .int x7), (8, .int x8)]) : W p l e rm_Mo_lattice s m args below meth c H locs 0 0 (MQ below (mQW D cA z0 none r) args s 0 0 (mA z0)) (F0 m 272 ls [.int s1, .int s0]) := by
  have hx := X.ex
  have hb := X.by_
  unfold f_Mo_lattice_272 at hf
  refine lv_iadd hx hb d_Mo_lattice_272 ?_
  refine lv_istore (i := 9) (lv' := [(9, .int (s0 + s1)), (0, va_rf (some h0)), (1, .int x1), (2, .int x2), (4, .int x4), (5, .int x5), (6, .int x6), (7, .int x7), (8, .int x8)]) hx hb d_Mo_lattice_273 hl (by decide) rfl (fun ls hl => ?_)
  refine lv_iconst (v := 0) hx hb d_Mo_lattice_275 (by decide) ?_
  refine lv_istore (i := 10) (lv' := [(10, .int (0 : Int32)), (9, .int (s0 + s1)), (0, va_rf (some h0)), (1, .int x1), (2, .int x2), (4, .int x4), (5, .int x5), (6, .int x6), (7, .int x7), (8, .int x8)]) hx hb d_Mo_lattice_276 hl (by decide) rfl (fun ls hl => ?_)
  exact w_Mo_lattice_278 X G (fun H locs μ ls I hf hl => w_Mo_lattice_409 X G I hf hl) 4096 _ _ _ _ _ _ _ _ _ _ _ _ _ I hf (lv_sub hl [2, 3, 4, 5, 6, 7, 8, 9, 1, 0] rfl)

set_option maxHeartbeats 4000000 in
set_option maxRecDepth 100000 in
theorem w_Mo_lattice_246 {h0 : Nat} {r : mM} (X : mX p m meth c s args b_Mo_lattice 13 none "ColourLinkerModel") (G : mG D cA dA z0 s) {H : Heap} {locs : List Loc} {μ : mM} {ls : Array Slot} {x1 : Int32} {x2 : Int32} {x4 : Int32} {x5 : Int32} {x6 : Int32} {x7 : Int32} {s0 : Int32} {s1 : Int32} (I : mI D cA z0 s μ H locs s.heap.size) (hf : f_Mo_lattice_246 h0 μ x1 x2 x4 x5 x6 x7 s0 s1 = some r) (hl : lv_has ls 13 [(0, va_rf (some h0)), (1, .int x1), (2, .int x2), (4, .int x4), (5, .int x5), (6, .int x6), (7, .int x7)]) : W p l e rm_Mo_lattice s m args below meth c H locs 0 0 (MQ below (mQW D cA z0 none r) args s 0 0 (mA z0)) (F0 m 246 ls [.int s1, .int s0]) := by
  have hx := X.ex
  have hb := X.by_
  unfold f_Mo_lattice_246 at hf
  refine lv_iadd hx hb d_Mo_lattice_246 ?_
  refine lv_istore (i := 8) (lv' := [(8, .int (s0 + s1)), (0, va_rf (some h0)), (1, .int x1), (2, .int x2), (4, .int x4), (5, .int x5), (6, .int x6), (7, .int x7)]) hx hb d_Mo_lattice_247 hl (by decide) rfl (fun ls hl => ?_)
  refine lv_iload hx hb d_Mo_lattice_249 (lv_at hl 0 rfl) ?_
  refine lv_iload hx hb d_Mo_lattice_251 (lv_at hl 7 rfl) ?_
  refine lv_if_ne (tgt := 261) hx hb d_Mo_lattice_253 (by decide) (fun hc => ?_) (fun hc => ?_)
  · have hf := miff hf hc
    refine lv_iload hx hb d_Mo_lattice_261 (lv_at hl 7 rfl) ?_
    refine lv_iconst (v := 1) hx hb d_Mo_lattice_263 (by decide) ?_
    refine lv_icmp_ne (tgt := 271) hx hb d_Mo_lattice_264 (by decide) (fun hc => ?_) (fun hc => ?_)
    · have hf := miff hf hc
      refine lv_iconst (v := 1) hx hb d_Mo_lattice_271 (by decide) ?_
      exact w_Mo_lattice_272 X G I hf (lv_sub hl [1, 2, 3, 4, 5, 6, 7, 0] rfl)
    · have hf := mift hf hc
      refine lv_iconst (v := 4) hx hb d_Mo_lattice_267 (by decide) ?_
      refine lv_goto (tgt := 272) hx hb d_Mo_lattice_268 (by decide) ?_
      exact w_Mo_lattice_272 X G I hf (lv_sub hl [1, 2, 3, 4, 5, 6, 7, 0] rfl)
  · have hf := mift hf hc
    refine lv_bipush (v := 16) hx hb d_Mo_lattice_256 (by decide) ?_
    refine lv_goto (tgt := 272) hx hb d_Mo_lattice_258 (by decide) ?_
    exact w_Mo_lattice_272 X G I hf (lv_sub hl [1, 2, 3, 4, 5, 6, 7, 0] rfl)

set_option maxHeartbeats 4000000 in
set_option maxRecDepth 100000 in
theorem w_Mo_lattice_212 {h0 : Nat} {r : mM} (X : mX p m meth c s args b_Mo_lattice 13 none "ColourLinkerModel") (G : mG D cA dA z0 s) {H : Heap} {locs : List Loc} {μ : mM} {ls : Array Slot} {x1 : Int32} {x2 : Int32} {x4 : Int32} {x5 : Int32} {s0 : Int32} (I : mI D cA z0 s μ H locs s.heap.size) (hf : f_Mo_lattice_212 h0 μ x1 x2 x4 x5 s0 = some r) (hl : lv_has ls 13 [(0, va_rf (some h0)), (1, .int x1), (2, .int x2), (4, .int x4), (5, .int x5)]) : W p l e rm_Mo_lattice s m args below meth c H locs 0 0 (MQ below (mQW D cA z0 none r) args s 0 0 (mA z0)) (F0 m 212 ls [.int s0]) := by
  have hx := X.ex
  have hb := X.by_
  unfold f_Mo_lattice_212 at hf
  refine lv_istore (i := 6) (lv' := [(6, .int s0), (0, va_rf (some h0)), (1, .int x1), (2, .int x2), (4, .int x4), (5, .int x5)]) hx hb d_Mo_lattice_212 hl (by decide) rfl (fun ls hl => ?_)
  refine lv_iconst (v := 3) hx hb d_Mo_lattice_214 (by decide) ?_
  refine lv_iload hx hb d_Mo_lattice_215 (lv_at hl 5 rfl) ?_
  refine lv_isub hx hb d_Mo_lattice_217 ?_
  refine lv_iload hx hb d_Mo_lattice_218 (lv_at hl 0 rfl) ?_
  refine lv_isub hx hb d_Mo_lattice_220 ?_
  refine lv_istore (i := 7) (lv' := [(7, .int (((3 : Int32) - x5) - s0)), (6, .int s0), (0, va_rf (some h0)), (1, .int x1), (2, .int x2), (4, .int x4), (5, .int x5)]) hx hb d_Mo_lattice_221 hl (by decide) rfl (fun ls hl => ?_)
  refine lv_iload hx hb d_Mo_lattice_223 (lv_at hl 5 rfl) ?_
  refine lv_iload hx hb d_Mo_lattice_225 (lv_at hl 6 rfl) ?_
  refine lv_if_ne (tgt := 235) hx hb d_Mo_lattice_227 (by decide) (fun hc => ?_) (fun hc => ?_)
  · have hf := miff hf hc
    refine lv_iload hx hb d_Mo_lattice_235 (lv_at hl 6 rfl) ?_
    refine lv_iconst (v := 1) hx hb d_Mo_lattice_237 (by decide) ?_
    refine lv_icmp_ne (tgt := 245) hx hb d_Mo_lattice_238 (by decide) (fun hc => ?_) (fun hc => ?_)
    · have hf := miff hf hc
      refine lv_iconst (v := 1) hx hb d_Mo_lattice_245 (by decide) ?_
      exact w_Mo_lattice_246 X G I hf (lv_sub hl [2, 3, 4, 5, 6, 1, 0] rfl)
    · have hf := mift hf hc
      refine lv_iconst (v := 4) hx hb d_Mo_lattice_241 (by decide) ?_
      refine lv_goto (tgt := 246) hx hb d_Mo_lattice_242 (by decide) ?_
      exact w_Mo_lattice_246 X G I hf (lv_sub hl [2, 3, 4, 5, 6, 1, 0] rfl)
  · have hf := mift hf hc
    refine lv_bipush (v := 16) hx hb d_Mo_lattice_230 (by decide) ?_
    refine lv_goto (tgt := 246) hx hb d_Mo_lattice_232 (by decide) ?_
    exact w_Mo_lattice_246 X G I hf (lv_sub hl [2, 3, 4, 5, 6, 1, 0] rfl)

set_option maxHeartbeats 4000000 in
set_option maxRecDepth 100000 in
theorem w_Mo_lattice_153 {h0 : Nat} {r : mM} (X : mX p m meth c s args b_Mo_lattice 13 none "ColourLinkerModel") (G : mG D cA dA z0 s) {H : Heap} {locs : List Loc} {μ : mM} {ls : Array Slot} {x1 : Int32} {x2 : Int32} {x4 : Int32} {s0 : Int32} (I : mI D cA z0 s μ H locs s.heap.size) (hf : f_Mo_lattice_153 h0 μ x1 x2 x4 s0 = some r) (hl : lv_has ls 13 [(0, va_rf (some h0)), (1, .int x1), (2, .int x2), (4, .int x4)]) : W p l e rm_Mo_lattice s m args below meth c H locs 0 0 (MQ below (mQW D cA z0 none r) args s 0 0 (mA z0)) (F0 m 153 ls [.int s0]) := by
  have hx := X.ex
  have hb := X.by_
  unfold f_Mo_lattice_153 at hf
  refine lv_istore (i := 5) (lv' := [(5, .int s0), (0, va_rf (some h0)), (1, .int x1), (2, .int x2), (4, .int x4)]) hx hb d_Mo_lattice_153 hl (by decide) rfl (fun ls hl => ?_)
  refine lv_iload hx hb d_Mo_lattice_155 (lv_at hl 0 rfl) ?_
  refine lv_iconst (v := 2) hx hb d_Mo_lattice_157 (by decide) ?_
  refine lv_icmp_ne (tgt := 185) hx hb d_Mo_lattice_158 (by decide) (fun hc => ?_) (fun hc => ?_)
  · have hf := miff hf hc
    refine r_aload_n X d_Mo_lattice_185 rfl (lv_at hl 1 rfl) ?_
    obtain ⟨v18, hv, hf⟩ := mbind hf
    refine r_getf X G I (mfA_e hv) o_Mo_old k_853 (Or.inl rfl) d_Mo_lattice_186 ?_
    refine lv_iconst (v := 2) hx hb d_Mo_lattice_189 (by decide) ?_
    obtain ⟨v19, hv, hf⟩ := mbind hf
    refine r_lald X G I hv d_Mo_lattice_190 ?_
    refine r_aload_n X d_Mo_lattice_191 rfl (lv_at hl 1 rfl) ?_
    obtain ⟨v20, hv, hf⟩ := mbind hf
    refine r_getf X G I (mfA_e hv) o_Mo_old k_853 (Or.inl rfl) d_Mo_lattice_192 ?_
    refine lv_iconst (v := 1) hx hb d_Mo_lattice_195 (by decide) ?_
    refine lv_iload hx hb d_Mo_lattice_196 (lv_at hl 0 rfl) ?_
    refine lv_isub hx hb d_Mo_lattice_198 ?_
    obtain ⟨v21, hv, hf⟩ := mbind hf
    refine r_lald X G I hv d_Mo_lattice_199 ?_
    refine r_lcgt (tgt := 208) X d_Mo_lattice_200 d_Mo_lattice_201 (by decide) (fun hc => ?_) (fun hc => ?_)
    · have hf := mift hf hc
      refine lv_iconst (v := 1) hx hb d_Mo_lattice_208 (by decide) ?_
      refine lv_iload hx hb d_Mo_lattice_209 (lv_at hl 0 rfl) ?_
      refine lv_isub hx hb d_Mo_lattice_211 ?_
      exact w_Mo_lattice_212 X G I hf (lv_sub hl [1, 2, 3, 4, 0] rfl)
    · have hf := miff hf hc
      refine lv_iconst (v := 2) hx hb d_Mo_lattice_204 (by decide) ?_
      refine lv_goto (tgt := 212) hx hb d_Mo_lattice_205 (by decide) ?_
      exact w_Mo_lattice_212 X G I hf (lv_sub hl [1, 2, 3, 4, 0] rfl)
  · have hf := mift hf hc
    refine r_aload_n X d_Mo_lattice_161 rfl (lv_at hl 1 rfl) ?_
    obtain ⟨v22, hv, hf⟩ := mbind hf
    refine r_getf X G I (mfA_e hv) o_Mo_old k_853 (Or.inl rfl) d_Mo_lattice_162 ?_
    refine lv_iconst (v := 0) hx hb d_Mo_lattice_165 (by decide) ?_
    obtain ⟨v23, hv, hf⟩ := mbind hf
    refine r_lald X G I hv d_Mo_lattice_166 ?_
    refine r_aload_n X d_Mo_lattice_167 rfl (lv_at hl 1 rfl) ?_
    obtain ⟨v24, hv, hf⟩ := mbind hf
    refine r_getf X G I (mfA_e hv) o_Mo_old k_853 (Or.inl rfl) d_Mo_lattice_168 ?_
    refine lv_iconst (v := 1) hx hb d_Mo_lattice_171 (by decide) ?_
    obtain ⟨v25, hv, hf⟩ := mbind hf
    refine r_lald X G I hv d_Mo_lattice_172 ?_
    refine r_lcgt (tgt := 181) X d_Mo_lattice_173 d_Mo_lattice_174 (by decide) (fun hc => ?_) (fun hc => ?_)
    · have hf := mift hf hc
      refine lv_iconst (v := 1) hx hb d_Mo_lattice_181 (by decide) ?_
      refine lv_goto (tgt := 212) hx hb d_Mo_lattice_182 (by decide) ?_
      exact w_Mo_lattice_212 X G I hf (lv_sub hl [1, 2, 3, 4, 0] rfl)
    · have hf := miff hf hc
      refine lv_iconst (v := 0) hx hb d_Mo_lattice_177 (by decide) ?_
      refine lv_goto (tgt := 212) hx hb d_Mo_lattice_178 (by decide) ?_
      exact w_Mo_lattice_212 X G I hf (lv_sub hl [1, 2, 3, 4, 0] rfl)

set_option maxHeartbeats 4000000 in
set_option maxRecDepth 100000 in
theorem w_Mo_lattice_132 {h0 : Nat} {r : mM} (X : mX p m meth c s args b_Mo_lattice 13 none "ColourLinkerModel") (G : mG D cA dA z0 s) {H : Heap} {locs : List Loc} {μ : mM} {ls : Array Slot} {x1 : Int32} {x2 : Int32} {x4 : Int32} (I : mI D cA z0 s μ H locs s.heap.size) (hf : f_Mo_lattice_132 h0 μ x1 x2 x4 = some r) (hl : lv_has ls 13 [(0, va_rf (some h0)), (1, .int x1), (2, .int x2), (4, .int x4)]) : W p l e rm_Mo_lattice s m args below meth c H locs 0 0 (MQ below (mQW D cA z0 none r) args s 0 0 (mA z0)) (F0 m 132 ls []) := by
  have hx := X.ex
  have hb := X.by_
  unfold f_Mo_lattice_132 at hf
  refine r_aload_n X d_Mo_lattice_132 rfl (lv_at hl 0 rfl) ?_
  obtain ⟨v14, hv, hf⟩ := mbind hf
  refine r_getf X G I (mfA_e hv) o_Mo_old k_853 (Or.inl rfl) d_Mo_lattice_133 ?_
  refine lv_iconst (v := 1) hx hb d_Mo_lattice_136 (by decide) ?_
  obtain ⟨v15, hv, hf⟩ := mbind hf
  refine r_lald X G I hv d_Mo_lattice_137 ?_
  refine r_aload_n X d_Mo_lattice_138 rfl (lv_at hl 0 rfl) ?_
  obtain ⟨v16, hv, hf⟩ := mbind hf
  refine r_getf X G I (mfA_e hv) o_Mo_old k_853 (Or.inl rfl) d_Mo_lattice_139 ?_
  refine lv_iconst (v := 2) hx hb d_Mo_lattice_142 (by decide) ?_
  obtain ⟨v17, hv, hf⟩ := mbind hf
  refine r_lald X G I hv d_Mo_lattice_143 ?_
  refine r_lclt (tgt := 152) X d_Mo_lattice_144 d_Mo_lattice_145 (by decide) (fun hc => ?_) (fun hc => ?_)
  · have hf := mift hf hc
    refine lv_iconst (v := 2) hx hb d_Mo_lattice_152 (by decide) ?_
    exact w_Mo_lattice_153 X G I hf hl
  · have hf := miff hf hc
    refine lv_iconst (v := 1) hx hb d_Mo_lattice_148 (by decide) ?_
    refine lv_goto (tgt := 153) hx hb d_Mo_lattice_149 (by decide) ?_
    exact w_Mo_lattice_153 X G I hf hl

set_option maxHeartbeats 4000000 in
set_option maxRecDepth 100000 in
theorem w_Mo_lattice_96 {h0 : Nat} {r : mM} (X : mX p m meth c s args b_Mo_lattice 13 none "ColourLinkerModel") (G : mG D cA dA z0 s) {H : Heap} {locs : List Loc} {μ : mM} {ls : Array Slot} {x1 : Int32} {x2 : Int32} {x4 : Int32} (I : mI D cA z0 s μ H locs s.heap.size) (hf : f_Mo_lattice_96 h0 μ x1 x2 x4 = some r) (hl : lv_has ls 13 [(0, va_rf (some h0)), (1, .int x1), (2, .int x2), (4, .int x4)]) : W p l e rm_Mo_lattice s m args below meth c H locs 0 0 (MQ below (mQW D cA z0 none r) args s 0 0 (mA z0)) (F0 m 96 ls []) := by
  have hx := X.ex
  have hb := X.by_
  unfold f_Mo_lattice_96 at hf
  refine r_aload_n X d_Mo_lattice_96 rfl (lv_at hl 0 rfl) ?_
  obtain ⟨v6, hv, hf⟩ := mbind hf
  refine r_getf X G I (mfA_e hv) o_Mo_old k_853 (Or.inl rfl) d_Mo_lattice_97 ?_
  refine lv_iconst (v := 0) hx hb d_Mo_lattice_100 (by decide) ?_
  obtain ⟨v7, hv, hf⟩ := mbind hf
  refine r_lald X G I hv d_Mo_lattice_101 ?_
  refine r_aload_n X d_Mo_lattice_102 rfl (lv_at hl 0 rfl) ?_
  obtain ⟨v8, hv, hf⟩ := mbind hf
  refine r_getf X G I (mfA_e hv) o_Mo_old k_853 (Or.inl rfl) d_Mo_lattice_103 ?_
  refine lv_iconst (v := 1) hx hb d_Mo_lattice_106 (by decide) ?_
  obtain ⟨v9, hv, hf⟩ := mbind hf
  refine r_lald X G I hv d_Mo_lattice_107 ?_
  refine r_lclt (tgt := 132) X d_Mo_lattice_108 d_Mo_lattice_109 (by decide) (fun hc => ?_) (fun hc => ?_)
  · have hf := mift hf hc
    exact w_Mo_lattice_132 X G I hf hl
  · have hf := miff hf hc
    refine r_aload_n X d_Mo_lattice_112 rfl (lv_at hl 0 rfl) ?_
    obtain ⟨v10, hv, hf⟩ := mbind hf
    refine r_getf X G I (mfA_e hv) o_Mo_old k_853 (Or.inl rfl) d_Mo_lattice_113 ?_
    refine lv_iconst (v := 0) hx hb d_Mo_lattice_116 (by decide) ?_
    obtain ⟨v11, hv, hf⟩ := mbind hf
    refine r_lald X G I hv d_Mo_lattice_117 ?_
    refine r_aload_n X d_Mo_lattice_118 rfl (lv_at hl 0 rfl) ?_
    obtain ⟨v12, hv, hf⟩ := mbind hf
    refine r_getf X G I (mfA_e hv) o_Mo_old k_853 (Or.inl rfl) d_Mo_lattice_119 ?_
    refine lv_iconst (v := 2) hx hb d_Mo_lattice_122 (by decide) ?_
    obtain ⟨v13, hv, hf⟩ := mbind hf
    refine r_lald X G I hv d_Mo_lattice_123 ?_
    refine r_lclt (tgt := 132) X d_Mo_lattice_124 d_Mo_lattice_125 (by decide) (fun hc => ?_) (fun hc => ?_)
    · have hf := mift hf hc
      exact w_Mo_lattice_132 X G I hf hl
    · have hf := miff hf hc
      refine lv_iconst (v := 0) hx hb d_Mo_lattice_128 (by decide) ?_
      refine lv_goto (tgt := 153) hx hb d_Mo_lattice_129 (by decide) ?_
      exact w_Mo_lattice_153 X G I hf hl

set_option maxHeartbeats 4000000 in
set_option maxRecDepth 100000 in
theorem w_Mo_lattice_62 {h0 : Nat} {r : mM} (X : mX p m meth c s args b_Mo_lattice 13 none "ColourLinkerModel") (G : mG D cA dA z0 s) {k : mM → Int32 → Int32 → Int32 → Int32 → Int32 → Option (mM)} {kx96 : mM → Int32 → Int32 → Int32 → Option (mM)} (hk : ∀ (H : Heap) (locs : List Loc) (μ : mM) (ls : Array Slot) (x1 : Int32) (x2 : Int32) (x3 : Int32) (x4 : Int32) (x5 : Int32), mI D cA z0 s μ H locs s.heap.size → k μ x1 x2 x3 x4 x5 = some r → lv_has ls 13 [(0, va_rf (some h0)), (1, .int x1), (2, .int x2), (3, .int x3), (4, .int x4), (5, .int x5)] → W p l e rm_Mo_lattice s m args below meth c H locs 0 0 (MQ below (mQW D cA z0 none r) args s 0 0 (mA z0)) (F0 m 15 ls [])) (hkx96 : ∀ (H : Heap) (locs : List Loc) (μ : mM) (ls : Array Slot) (x1 : Int32) (x2 : Int32) (x4 : Int32), mI D cA z0 s μ H locs s.heap.size → kx96 μ x1 x2 x4 = some r → lv_has ls 13 [(0, va_rf (some h0)), (1, .int x1), (2, .int x2), (4, .int x4)] → W p l e rm_Mo_lattice s m args below meth c H locs 0 0 (MQ below (mQW D cA z0 none r) args s 0 0 (mA z0)) (F0 m 96 ls [])) {H : Heap} {locs : List Loc} {μ : mM} {ls : Array Slot} {x1 : Int32} {x2 : Int32} {x3 : Int32} {x4 : Int32} {x5 : Int32} {x6 : Int64} {s0 : Int32} (I : mI D cA z0 s μ H locs s.heap.size) (hf : f_Mo_lattice_62 h0 k kx96 μ x1 x2 x3 x4 x5 x6 s0 = some r) (hl : lv_has ls 13 [(0, va_rf (some h0)), (1, .int x1), (2, .int x2), (3, .int x3), (4, .int x4), (5, .int x5), (6, .long x6)]) : W p l e rm_Mo_lattice s m args below meth c H locs 0 0 (MQ below (mQW D cA z0 none r) args s 0 0 (mA z0)) (F0 m 62 ls [.int s0]) := by
  have hx := X.ex
  have hb := X.by_
  unfold f_Mo_lattice_62 at hf
  refine lv_istore (i := 8) (lv' := [(8, .int s0), (0, va_rf (some h0)), (1, .int x1), (2, .int x2), (3, .int x3), (4, .int x4), (5, .int x5), (6, .long x6)]) hx hb d_Mo_lattice_62 hl (by decide) rfl (fun ls hl => ?_)
  refine lv_iconst (v := 4) hx hb d_Mo_lattice_64 (by decide) ?_
  refine lv_iload hx hb d_Mo_lattice_65 (lv_at hl 5 rfl) ?_
  refine lv_imul hx hb d_Mo_lattice_67 ?_
  refine lv_iload hx hb d_Mo_lattice_68 (lv_at hl 0 rfl) ?_
  refine lv_iadd hx hb d_Mo_lattice_70 ?_
  refine lv_istore (i := 4) (lv' := [(4, .int (((4 : Int32) * x4) + s0)), (8, .int s0), (0, va_rf (some h0)), (1, .int x1), (2, .int x2), (3, .int x3), (5, .int x5), (6, .long x6)]) hx hb d_Mo_lattice_71 hl (by decide) rfl (fun ls hl => ?_)
  refine r_aload_n X d_Mo_lattice_73 rfl (lv_at hl 2 rfl) ?_
  obtain ⟨v4, hv, hf⟩ := mbind hf
  refine r_getf X G I (mfA_e hv) o_Mo_old k_853 (Or.inl rfl) d_Mo_lattice_74 ?_
  refine lv_iload hx hb d_Mo_lattice_77 (lv_at hl 6 rfl) ?_
  refine lv_lload hx hb d_Mo_lattice_79 (lv_at hl 7 rfl) ?_
  refine lv_ldc2 (v := 65535) hx hb X.ow (X.w k_992) d_Mo_lattice_81 ?_
  refine lv_iload hx hb d_Mo_lattice_84 (lv_at hl 1 rfl) ?_
  refine lv_i2l hx hb d_Mo_lattice_86 rfl ?_
  refine lv_lmul hx hb d_Mo_lattice_87 ?_
  refine lv_lsub hx hb d_Mo_lattice_88 ?_
  obtain ⟨m5, hv, hf⟩ := mbind hf
  refine r_last X G I hv d_Mo_lattice_89 (fun H locs I => ?_)
  refine lv_iinc (i := 5) (k := 6) (v := (x5 + (1 : Int32))) (lv' := [(5, .int (x5 + (1 : Int32))), (4, .int (((4 : Int32) * x4) + s0)), (8, .int s0), (0, va_rf (some h0)), (1, .int x1), (2, .int x2), (3, .int x3), (6, .long x6)]) hx hb d_Mo_lattice_90 hl rfl (congrArg (fun t => x5 + t) (by decide : Int32.ofInt (1) = (1 : Int32))) (by decide) rfl (fun ls hl => ?_)
  refine lv_goto (tgt := 15) hx hb d_Mo_lattice_93 (by decide) ?_
  exact hk _ _ _ _ _ _ _ _ _ I hf (lv_sub hl [3, 4, 5, 6, 1, 0] rfl)

set_option maxHeartbeats 4000000 in
set_option maxRecDepth 100000 in
theorem w_Mo_lattice_15 {h0 : Nat} {r : mM} (X : mX p m meth c s args b_Mo_lattice 13 none "ColourLinkerModel") (G : mG D cA dA z0 s) {kx96 : mM → Int32 → Int32 → Int32 → Option (mM)} (hkx96 : ∀ (H : Heap) (locs : List Loc) (μ : mM) (ls : Array Slot) (x1 : Int32) (x2 : Int32) (x4 : Int32), mI D cA z0 s μ H locs s.heap.size → kx96 μ x1 x2 x4 = some r → lv_has ls 13 [(0, va_rf (some h0)), (1, .int x1), (2, .int x2), (4, .int x4)] → W p l e rm_Mo_lattice s m args below meth c H locs 0 0 (MQ below (mQW D cA z0 none r) args s 0 0 (mA z0)) (F0 m 96 ls [])) : ∀ (n : Nat) (H : Heap) (locs : List Loc) (μ : mM) (ls : Array Slot) (x1 : Int32) (x2 : Int32) (x3 : Int32) (x4 : Int32) (x5 : Int32), mI D cA z0 s μ H locs s.heap.size → f_Mo_lattice_15 h0 kx96 n μ x1 x2 x3 x4 x5 = some r → lv_has ls 13 [(0, va_rf (some h0)), (1, .int x1), (2, .int x2), (3, .int x3), (4, .int x4), (5, .int x5)] → W p l e rm_Mo_lattice s m args below meth c H locs 0 0 (MQ below (mQW D cA z0 none r) args s 0 0 (mA z0)) (F0 m 15 ls []) := by
  have hx := X.ex
  have hb := X.by_
  intro n
  induction n with
  | zero => intro H locs μ ls x1 x2 x3 x4 x5 I hf hl; rw [f_Mo_lattice_15] at hf; cases hf
  | succ n ih =>
    intro H locs μ ls x1 x2 x3 x4 x5 I hf hl
    rw [f_Mo_lattice_15] at hf
    refine lv_iload hx hb d_Mo_lattice_15 (lv_at hl 5 rfl) ?_
    refine lv_iconst (v := 3) hx hb d_Mo_lattice_17 (by decide) ?_
    refine lv_icmp_ge (tgt := 96) hx hb d_Mo_lattice_18 (by decide) (fun hc => ?_) (fun hc => ?_)
    · have hf := mift hf hc
      exact hkx96 _ _ _ _ _ _ _ I hf (lv_sub hl [0, 1, 2, 4] rfl)
    · have hf := miff hf hc
      refine r_aload_n X d_Mo_lattice_21 rfl (lv_at hl 0 rfl) ?_
      obtain ⟨v2, hv, hf⟩ := mbind hf
      refine r_getf X G I (mfA_e hv) o_Mo_old k_853 (Or.inl rfl) d_Mo_lattice_22 ?_
      refine lv_iload hx hb d_Mo_lattice_25 (lv_at hl 5 rfl) ?_
      obtain ⟨v3, hv, hf⟩ := mbind hf
      refine r_lald X G I hv d_Mo_lattice_27 ?_
      refine lv_iload_n hx hb d_Mo_lattice_28 rfl (lv_at hl 3 rfl) ?_
      refine lv_iconst (v := 1) hx hb d_Mo_lattice_29 (by decide) ?_
      refine lv_isub hx hb d_Mo_lattice_30 ?_
      refine lv_i2l hx hb d_Mo_lattice_31 rfl ?_
      refine lv_lmul hx hb d_Mo_lattice_32 ?_
      refine lv_lstore (i := 6) (lv' := [(6, .long (v3 * ((x3 - (1 : Int32))).toInt64)), (0, va_rf (some h0)), (1, .int x1), (2, .int x2), (3, .int x3), (4, .int x4), (5, .int x5)]) hx hb d_Mo_lattice_33 hl (by decide) rfl (fun ls hl => ?_)
      refine lv_lload hx hb d_Mo_lattice_35 (lv_at hl 0 rfl) ?_
      refine lv_ldc2 (v := 65535) hx hb X.ow (X.w k_992) d_Mo_lattice_37 ?_
      refine lv_ldiv hx hb d_Mo_lattice_40 (by decide) ?_
      refine lv_iload_n hx hb d_Mo_lattice_41 rfl (lv_at hl 4 rfl) ?_
      refine lv_iconst (v := 2) hx hb d_Mo_lattice_42 (by decide) ?_
      refine lv_isub hx hb d_Mo_lattice_43 ?_
      refine lv_i2l hx hb d_Mo_lattice_44 rfl ?_
      refine r_lcge (tgt := 59) X d_Mo_lattice_45 d_Mo_lattice_46 (by decide) (fun hc => ?_) (fun hc => ?_)
      · have hf := mift hf hc
        refine lv_iload_n hx hb d_Mo_lattice_59 rfl (lv_at hl 4 rfl) ?_
        refine lv_iconst (v := 2) hx hb d_Mo_lattice_60 (by decide) ?_
        refine lv_isub hx hb d_Mo_lattice_61 ?_
        exact w_Mo_lattice_62 X G ih hkx96 I hf (lv_sub hl [1, 2, 3, 4, 5, 6, 0] rfl)
      · have hf := miff hf hc
        refine lv_lload hx hb d_Mo_lattice_49 (lv_at hl 0 rfl) ?_
        refine lv_ldc2 (v := 65535) hx hb X.ow (X.w k_992) d_Mo_lattice_51 ?_
        refine lv_ldiv hx hb d_Mo_lattice_54 (by decide) ?_
        refine lv_l2i hx hb d_Mo_lattice_55 rfl ?_
        refine lv_goto (tgt := 62) hx hb d_Mo_lattice_56 (by decide) ?_
        exact w_Mo_lattice_62 X G ih hkx96 I hf (lv_sub hl [1, 2, 3, 4, 5, 6, 0] rfl)

set_option maxHeartbeats 4000000 in
set_option maxRecDepth 100000 in
theorem w_Mo_lattice {h0 : Nat} {r : mM} (X : mX p m meth c s args b_Mo_lattice 13 none "ColourLinkerModel") (G : mG D cA dA z0 s) {H : Heap} {locs : List Loc} {μ : mM} {ls : Array Slot} {x1 : Int32} {x2 : Int32} (I : mI D cA z0 s μ H locs s.heap.size) (hf : f_Mo_lattice h0 μ x1 x2 = some r) (hl : lv_has ls 13 [(0, va_rf (some h0)), (1, .int x1), (2, .int x2)]) : W p l e rm_Mo_lattice s m args below meth c H locs 0 0 (MQ below (mQW D cA z0 none r) args s 0 0 (mA z0)) (F0 m 0 ls []) := by
  have hx := X.ex
  have hb := X.by_
  unfold f_Mo_lattice at hf
  refine r_aload_n X d_Mo_lattice_0 rfl (lv_at hl 0 rfl) ?_
  refine lv_iload_n hx hb d_Mo_lattice_1 rfl (lv_at hl 1 rfl) ?_
  refine lv_iload_n hx hb d_Mo_lattice_2 rfl (lv_at hl 2 rfl) ?_
  refine lv_iconst (v := 1) hx hb d_Mo_lattice_3 (by decide) ?_
  refine lv_iadd hx hb d_Mo_lattice_4 ?_
  obtain ⟨q1, hv, hf⟩ := mbind hf
  obtain ⟨a, ha, hv⟩ := mbind hv
  obtain ⟨ha, fs, hm⟩ := mrc_e ha
  refine m_caR (m_runV (As := [.int x1, .int (x2 + (1 : Int32))]) (r := some h0) (rest := []) X G I h_Mo_part k_955 (c_Mo_part hv) mPr_blind (m_pre G I) hm rfl ha rfl rfl hl.1 (Nat.le_of_ble_eq_true rfl) rfl rfl ⟨Nat.le_of_ble_eq_true rfl, Nat.le_of_ble_eq_true rfl⟩ ⟨Nat.le_refl _, Nat.le_refl _⟩ d_Mo_lattice_5) ?_
  refine lv_istore_n (i := 3) (lv' := [(3, .int q1), (0, va_rf (some h0)), (1, .int x1), (2, .int x2)]) hx hb d_Mo_lattice_8 rfl hl (by decide) rfl (fun ls hl => ?_)
  refine lv_iconst (v := 0) hx hb d_Mo_lattice_9 (by decide) ?_
  refine lv_istore (i := 4) (lv' := [(4, .int (0 : Int32)), (3, .int q1), (0, va_rf (some h0)), (1, .int x1), (2, .int x2)]) hx hb d_Mo_lattice_10 hl (by decide) rfl (fun ls hl => ?_)
  refine lv_iconst (v := 0) hx hb d_Mo_lattice_12 (by decide) ?_
  refine lv_istore (i := 5) (lv' := [(5, .int (0 : Int32)), (4, .int (0 : Int32)), (3, .int q1), (0, va_rf (some h0)), (1, .int x1), (2, .int x2)]) hx hb d_Mo_lattice_13 hl (by decide) rfl (fun ls hl => ?_)
  exact w_Mo_lattice_15 X G (fun H locs μ ls x1 x2 x4 I hf hl => w_Mo_lattice_96 X G I hf hl) 4096 _ _ _ _ _ _ _ _ _ I hf (lv_sub hl [3, 4, 5, 2, 1, 0] rfl)

set_option maxHeartbeats 4000000 in
set_option maxRecDepth 100000 in
theorem c_Mo_lattice {l : Launch} {D : va_G} {cA : Nat → ClassId} {dA z0 : Nat} {μ : mM} {h0 : Nat} {x1 : Int32} {x2 : Int32} {r : mM} (hf : f_Mo_lattice h0 μ x1 x2 = some r) : Met l y_Mo_lattice (mW y_Mo_lattice b_Mo_lattice 13 none) rm_Mo_lattice (va_Pc [.ref h0, .int x1, .int x2] (mPr D cA dA z0 μ)) (mQW D cA z0 none r) 0 0 (mA z0) := by
  refine Met.ofW (cc := b_Mo_lattice) (maxL := 13) (ret := none) (by decide) rfl ?_
  intro p e s m args below meth c s₁ B hml hv
  obtain ⟨rfl, G, hP⟩ := hv
  have X := mX.of B hml
  exact m_entry (lv := [(0, va_rf (some h0)), (1, .int x1), (2, .int x2)]) (Nat.le_of_ble_eq_true rfl) rfl (fun ls hl => w_Mo_lattice X G (mI.start hP) hf hl)

abbrev rm_Mo_spread : Room := { frames := 2, cells := 0, slots := 0, locals := 43 }
theorem h_Mo_spread : mCV y_Mo_spread b_Mo_spread 3 none 1 := ⟨k_1109, k_79, ⟨by decide, by decide, by decide +kernel⟩, k_1108, k_61⟩
set_option maxHeartbeats 4000000 in
set_option maxRecDepth 100000 in
theorem w_Mo_spread_64 {h0 : Nat} {r : mM} (X : mX p m meth c s args b_Mo_spread 3 none "ColourLinkerModel") (G : mG D cA dA z0 s) {H : Heap} {locs : List Loc} {μ : mM} {ls : Array Slot}  (I : mI D cA z0 s μ H locs s.heap.size) (hf : f_Mo_spread_64 h0 μ = some r) (hl : lv_has ls 3 [(0, va_rf (some h0))]) : W p l e rm_Mo_spread s m args below meth c H locs 0 0 (MQ below (mQW D cA z0 none r) args s 0 0 (mA z0)) (F0 m 64 ls []) := by
  have hx := X.ex
  have hb := X.by_
  unfold f_Mo_spread_64 at hf
  obtain rfl := Option.some.inj hf
  exact r_vretW X I d_Mo_spread_64

set_option maxHeartbeats 4000000 in
set_option maxRecDepth 100000 in
theorem w_Mo_spread_57 {h0 : Nat} {r : mM} (X : mX p m meth c s args b_Mo_spread 3 none "ColourLinkerModel") (G : mG D cA dA z0 s) {k : mM → Int32 → Int32 → Option (mM)} {kx64 : mM → Option (mM)} (hk : ∀ (H : Heap) (locs : List Loc) (μ : mM) (ls : Array Slot) (x1 : Int32) (x2 : Int32), mI D cA z0 s μ H locs s.heap.size → k μ x1 x2 = some r → lv_has ls 3 [(0, va_rf (some h0)), (1, .int x1), (2, .int x2)] → W p l e rm_Mo_spread s m args below meth c H locs 0 0 (MQ below (mQW D cA z0 none r) args s 0 0 (mA z0)) (F0 m 2 ls [])) (hkx64 : ∀ (H : Heap) (locs : List Loc) (μ : mM) (ls : Array Slot), mI D cA z0 s μ H locs s.heap.size → kx64 μ = some r → lv_has ls 3 [(0, va_rf (some h0))] → W p l e rm_Mo_spread s m args below meth c H locs 0 0 (MQ below (mQW D cA z0 none r) args s 0 0 (mA z0)) (F0 m 64 ls [])) {H : Heap} {locs : List Loc} {μ : mM} {ls : Array Slot} {x1 : Int32} {x2 : Int32} {s0 : Option Nat} {s1 : Int32} {s2 : Int64} (I : mI D cA z0 s μ H locs s.heap.size) (hf : f_Mo_spread_57 h0 k kx64 μ x1 x2 s0 s1 s2 = some r) (hl : lv_has ls 3 [(0, va_rf (some h0)), (1, .int x1), (2, .int x2)]) : W p l e rm_Mo_spread s m args below meth c H locs 0 0 (MQ below (mQW D cA z0 none r) args s 0 0 (mA z0)) (F0 m 57 ls [.long s2, .int s1, va_rf s0]) := by
  have hx := X.ex
  have hb := X.by_
  unfold f_Mo_spread_57 at hf
  obtain ⟨m9, hv, hf⟩ := mbind hf
  refine r_last X G I hv d_Mo_spread_57 (fun H locs I => ?_)
  refine lv_iinc (i := 2) (k := 2) (v := (x2 + (1 : Int32))) (lv' := [(2, .int (x2 + (1 : Int32))), (0, va_rf (some h0)), (1, .int x1)]) hx hb d_Mo_spread_58 hl rfl (congrArg (fun t => x2 + t) (by decide : Int32.ofInt (1) = (1 : Int32))) (by decide) rfl (fun ls hl => ?_)
  refine lv_goto (tgt := 2) hx hb d_Mo_spread_61 (by decide) ?_
  exact hk _ _ _ _ _ _ I hf (lv_sub hl [1, 2, 0] rfl)

set_option maxHeartbeats 4000000 in
set_option maxRecDepth 100000 in
theorem w_Mo_spread_2 {h0 : Nat} {r : mM} (X : mX p m meth c s args b_Mo_spread 3 none "ColourLinkerModel") (G : mG D cA dA z0 s) {kx64 : mM → Option (mM)} (hkx64 : ∀ (H : Heap) (locs : List Loc) (μ : mM) (ls : Array Slot), mI D cA z0 s μ H locs s.heap.size → kx64 μ = some r → lv_has ls 3 [(0, va_rf (some h0))] → W p l e rm_Mo_spread s m args below meth c H locs 0 0 (MQ below (mQW D cA z0 none r) args s 0 0 (mA z0)) (F0 m 64 ls [])) : ∀ (n : Nat) (H : Heap) (locs : List Loc) (μ : mM) (ls : Array Slot) (x1 : Int32) (x2 : Int32), mI D cA z0 s μ H locs s.heap.size → f_Mo_spread_2 h0 kx64 n μ x1 x2 = some r → lv_has ls 3 [(0, va_rf (some h0)), (1, .int x1), (2, .int x2)] → W p l e rm_Mo_spread s m args below meth c H locs 0 0 (MQ below (mQW D cA z0 none r) args s 0 0 (mA z0)) (F0 m 2 ls []) := by
  have hx := X.ex
  have hb := X.by_
  intro n
  induction n with
  | zero => intro H locs μ ls x1 x2 I hf hl; rw [f_Mo_spread_2] at hf; cases hf
  | succ n ih =>
    intro H locs μ ls x1 x2 I hf hl
    rw [f_Mo_spread_2] at hf
    refine lv_iload_n hx hb d_Mo_spread_2 rfl (lv_at hl 2 rfl) ?_
    refine lv_iconst (v := 3) hx hb d_Mo_spread_3 (by decide) ?_
    refine lv_icmp_ge (tgt := 64) hx hb d_Mo_spread_4 (by decide) (fun hc => ?_) (fun hc => ?_)
    · have hf := mift hf hc
      exact hkx64 _ _ _ _ I hf (lv_sub hl [0] rfl)
    · have hf := miff hf hc
      refine r_aload_n X d_Mo_spread_7 rfl (lv_at hl 0 rfl) ?_
      obtain ⟨v1, hv, hf⟩ := mbind hf
      refine r_getf X G I (mfA_e hv) o_Mo_v k_852 (Or.inl rfl) d_Mo_spread_8 ?_
      refine lv_iload_n hx hb d_Mo_spread_11 rfl (lv_at hl 2 rfl) ?_
      refine r_aload_n X d_Mo_spread_12 rfl (lv_at hl 0 rfl) ?_
      refine lv_iload_n hx hb d_Mo_spread_13 rfl (lv_at hl 1 rfl) ?_
      obtain ⟨q2, hv, hf⟩ := mbind hf
      obtain ⟨a, ha, hv⟩ := mbind hv
      obtain ⟨ha, fs, hm⟩ := mrc_e ha
      refine m_caR (m_runV (As := [.int x1]) (r := some h0) (rest := [.int x2, va_rf v1]) X G I h_Mo_lab k_1033 (c_Mo_lab hv) mPr_blind (m_pre G I) hm rfl ha rfl rfl hl.1 (Nat.le_of_ble_eq_true rfl) rfl rfl ⟨Nat.le_of_ble_eq_true rfl, Nat.le_of_ble_eq_true rfl⟩ ⟨Nat.le_refl _, Nat.le_refl _⟩ d_Mo_spread_14) ?_
      refine lv_if_ne (tgt := 41) hx hb d_Mo_spread_17 (by decide) (fun hc => ?_) (fun hc => ?_)
      · have hf := miff hf hc
        refine lv_iload_n hx hb d_Mo_spread_41 rfl (lv_at hl 2 rfl) ?_
        refine lv_if_ne (tgt := 54) hx hb d_Mo_spread_42 (by decide) (fun hc => ?_) (fun hc => ?_)
        · have hf := miff hf hc
          refine lv_ldc2 (v := 32896) hx hb X.ow (X.w k_1110) d_Mo_spread_54 ?_
          exact w_Mo_spread_57 X G ih hkx64 I hf hl
        · have hf := mift hf hc
          refine r_aload_n X d_Mo_spread_45 rfl (lv_at hl 0 rfl) ?_
          obtain ⟨v3, hv, hf⟩ := mbind hf
          refine r_getf X G I (mfA_e hv) o_Mo_old k_853 (Or.inl rfl) d_Mo_spread_46 ?_
          refine lv_iconst (v := 0) hx hb d_Mo_spread_49 (by decide) ?_
          obtain ⟨v4, hv, hf⟩ := mbind hf
          refine r_lald X G I hv d_Mo_spread_50 ?_
          refine lv_goto (tgt := 57) hx hb d_Mo_spread_51 (by decide) ?_
          exact w_Mo_spread_57 X G ih hkx64 I hf hl
      · have hf := mift hf hc
        refine lv_iload_n hx hb d_Mo_spread_20 rfl (lv_at hl 2 rfl) ?_
        obtain ⟨q5, hv, hf⟩ := mbind hf
        refine m_caR (m_runS (As := [.int x2]) (rest := [.int x2, va_rf v1]) X h_Mo_point k_1056 (c_Mo_point hv) mPr_blind (m_pre G I) rfl rfl hl.1 (Nat.le_of_ble_eq_true rfl) rfl rfl ⟨Nat.le_of_ble_eq_true rfl, Nat.le_of_ble_eq_true rfl⟩ ⟨Nat.le_refl _, Nat.le_refl _⟩ d_Mo_spread_21) ?_
        refine lv_i2l hx hb d_Mo_spread_24 rfl ?_
        refine r_aload_n X d_Mo_spread_25 rfl (lv_at hl 0 rfl) ?_
        obtain ⟨v6, hv, hf⟩ := mbind hf
        refine r_getf X G I (mfA_e hv) o_Mo_old k_853 (Or.inl rfl) d_Mo_spread_26 ?_
        refine lv_iconst (v := 0) hx hb d_Mo_spread_29 (by decide) ?_
        obtain ⟨v7, hv, hf⟩ := mbind hf
        refine r_lald X G I hv d_Mo_spread_30 ?_
        refine lv_lmul hx hb d_Mo_spread_31 ?_
        refine lv_ldc2 (v := 65535) hx hb X.ow (X.w k_992) d_Mo_spread_32 ?_
        obtain ⟨q8, hv, hf⟩ := mbind hf
        refine m_caR (m_runS (As := [.long ((q5).toInt64 * v7), .long (65535 : Int64)]) (rest := [.int x2, va_rf v1]) X h_Mo_near k_993 (c_Mo_near hv) mPr_blind (m_pre G I) rfl rfl hl.1 (Nat.le_of_ble_eq_true rfl) rfl rfl ⟨Nat.le_of_ble_eq_true rfl, Nat.le_of_ble_eq_true rfl⟩ ⟨Nat.le_refl _, Nat.le_refl _⟩ d_Mo_spread_35) ?_
        refine lv_goto (tgt := 57) hx hb d_Mo_spread_38 (by decide) ?_
        exact w_Mo_spread_57 X G ih hkx64 I hf hl

set_option maxHeartbeats 4000000 in
set_option maxRecDepth 100000 in
theorem w_Mo_spread {h0 : Nat} {r : mM} (X : mX p m meth c s args b_Mo_spread 3 none "ColourLinkerModel") (G : mG D cA dA z0 s) {H : Heap} {locs : List Loc} {μ : mM} {ls : Array Slot} {x1 : Int32} (I : mI D cA z0 s μ H locs s.heap.size) (hf : f_Mo_spread h0 μ x1 = some r) (hl : lv_has ls 3 [(0, va_rf (some h0)), (1, .int x1)]) : W p l e rm_Mo_spread s m args below meth c H locs 0 0 (MQ below (mQW D cA z0 none r) args s 0 0 (mA z0)) (F0 m 0 ls []) := by
  have hx := X.ex
  have hb := X.by_
  unfold f_Mo_spread at hf
  refine lv_iconst (v := 0) hx hb d_Mo_spread_0 (by decide) ?_
  refine lv_istore_n (i := 2) (lv' := [(2, .int (0 : Int32)), (0, va_rf (some h0)), (1, .int x1)]) hx hb d_Mo_spread_1 rfl hl (by decide) rfl (fun ls hl => ?_)
  exact w_Mo_spread_2 X G (fun H locs μ ls I hf hl => w_Mo_spread_64 X G I hf hl) 4096 _ _ _ _ _ _ I hf (lv_sub hl [1, 2, 0] rfl)

set_option maxHeartbeats 4000000 in
set_option maxRecDepth 100000 in
theorem c_Mo_spread {l : Launch} {D : va_G} {cA : Nat → ClassId} {dA z0 : Nat} {μ : mM} {h0 : Nat} {x1 : Int32} {r : mM} (hf : f_Mo_spread h0 μ x1 = some r) : Met l y_Mo_spread (mW y_Mo_spread b_Mo_spread 3 none) rm_Mo_spread (va_Pc [.ref h0, .int x1] (mPr D cA dA z0 μ)) (mQW D cA z0 none r) 0 0 (mA z0) := by
  refine Met.ofW (cc := b_Mo_spread) (maxL := 3) (ret := none) (by decide) rfl ?_
  intro p e s m args below meth c s₁ B hml hv
  obtain ⟨rfl, G, hP⟩ := hv
  have X := mX.of B hml
  exact m_entry (lv := [(0, va_rf (some h0)), (1, .int x1)]) (Nat.le_of_ble_eq_true rfl) rfl (fun ls hl => w_Mo_spread X G (mI.start hP) hf hl)

abbrev rm_Mo_root : Room := { frames := 1, cells := 0, slots := 0, locals := 27 }
theorem h_Mo_root : mCS y_Mo_root b_Mo_root 12 (some .long) 2 := ⟨k_1118, k_79, ⟨by decide, by decide, by decide +kernel⟩, k_1117⟩
set_option maxHeartbeats 4000000 in
set_option maxRecDepth 100000 in
theorem w_Mo_root_97 {μ : mM} {r : Int64} (X : mX p m meth c s args b_Mo_root 12 (some .long) "ColourLinkerModel") (G : mG D cA dA z0 s) (I : mI D cA z0 s μ s.heap [] s.heap.size) {ls : Array Slot} {x6 : Int64} (hf : f_Mo_root_97 μ x6 = some r) (hl : lv_has ls 12 [(6, .long x6)]) : W p l e rm_Mo_root s m args below meth c s.heap [] 0 0 (MQ below (mQR (some (.long r))) args s 0 0 (fun _ => False)) (F0 m 97 ls []) := by
  have hx := X.ex
  have hb := X.by_
  unfold f_Mo_root_97 at hf
  refine lv_lload hx hb d_Mo_root_97 (lv_at hl 0 rfl) ?_
  obtain rfl := Option.some.inj hf
  exact r_lretR X d_Mo_root_99

set_option maxHeartbeats 4000000 in
set_option maxRecDepth 100000 in
theorem w_Mo_root_84 {μ : mM} {r : Int64} (X : mX p m meth c s args b_Mo_root 12 (some .long) "ColourLinkerModel") (G : mG D cA dA z0 s) (I : mI D cA z0 s μ s.heap [] s.heap.size) {k : Int64 → Int64 → Int64 → Option (Int64)} {kx97 : Int64 → Option (Int64)} (hk : ∀ (ls : Array Slot) (x4 : Int64) (x6 : Int64) (x8 : Int64), k x4 x6 x8 = some r → lv_has ls 12 [(4, .long x4), (6, .long x6), (8, .long x8)] → W p l e rm_Mo_root s m args below meth c s.heap [] 0 0 (MQ below (mQR (some (.long r))) args s 0 0 (fun _ => False)) (F0 m 45 ls [])) (hkx97 : ∀ (ls : Array Slot) (x6 : Int64), kx97 x6 = some r → lv_has ls 12 [(6, .long x6)] → W p l e rm_Mo_root s m args below meth c s.heap [] 0 0 (MQ below (mQR (some (.long r))) args s 0 0 (fun _ => False)) (F0 m 97 ls [])) {ls : Array Slot} {x4 : Int64} {x8 : Int64} {s0 : Int64} (hf : f_Mo_root_84 μ k kx97 x4 x8 s0 = some r) (hl : lv_has ls 12 [(4, .long x4), (8, .long x8)]) : W p l e rm_Mo_root s m args below meth c s.heap [] 0 0 (MQ below (mQR (some (.long r))) args s 0 0 (fun _ => False)) (F0 m 84 ls [.long s0]) := by
  have hx := X.ex
  have hb := X.by_
  unfold f_Mo_root_84 at hf
  refine lv_lstore (i := 6) (lv' := [(6, .long s0), (4, .long x4), (8, .long x8)]) hx hb d_Mo_root_84 hl (by decide) rfl (fun ls hl => ?_)
  refine lv_lload hx hb d_Mo_root_86 (lv_at hl 2 rfl) ?_
  refine lv_ldc2 (v := 2) hx hb X.ow (X.w k_996) d_Mo_root_88 ?_
  refine lv_ldiv hx hb d_Mo_root_91 (by decide) ?_
  refine lv_lstore (i := 8) (lv' := [(8, .long (x8 / (2 : Int64))), (6, .long s0), (4, .long x4)]) hx hb d_Mo_root_92 hl (by decide) rfl (fun ls hl => ?_)
  refine lv_goto (tgt := 45) hx hb d_Mo_root_94 (by decide) ?_
  exact hk _ _ _ _ hf (lv_sub hl [2, 1, 0] rfl)

set_option maxHeartbeats 4000000 in
set_option maxRecDepth 100000 in
theorem w_Mo_root_45 {μ : mM} {r : Int64} (X : mX p m meth c s args b_Mo_root 12 (some .long) "ColourLinkerModel") (G : mG D cA dA z0 s) (I : mI D cA z0 s μ s.heap [] s.heap.size) {kx97 : Int64 → Option (Int64)} (hkx97 : ∀ (ls : Array Slot) (x6 : Int64), kx97 x6 = some r → lv_has ls 12 [(6, .long x6)] → W p l e rm_Mo_root s m args below meth c s.heap [] 0 0 (MQ below (mQR (some (.long r))) args s 0 0 (fun _ => False)) (F0 m 97 ls [])) : ∀ (n : Nat) (ls : Array Slot) (x4 : Int64) (x6 : Int64) (x8 : Int64), f_Mo_root_45 μ kx97 n x4 x6 x8 = some r → lv_has ls 12 [(4, .long x4), (6, .long x6), (8, .long x8)] → W p l e rm_Mo_root s m args below meth c s.heap [] 0 0 (MQ below (mQR (some (.long r))) args s 0 0 (fun _ => False)) (F0 m 45 ls []) := by
  have hx := X.ex
  have hb := X.by_
  intro n
  induction n with
  | zero => intro ls x4 x6 x8 hf hl; rw [f_Mo_root_45] at hf; cases hf
  | succ n ih =>
    intro ls x4 x6 x8 hf hl
    rw [f_Mo_root_45] at hf
    refine lv_lload hx hb d_Mo_root_45 (lv_at hl 2 rfl) ?_
    refine lv_lconst (v := 0) hx hb d_Mo_root_47 (by decide) ?_
    refine r_lcle (tgt := 97) X d_Mo_root_48 d_Mo_root_49 (by decide) (fun hc => ?_) (fun hc => ?_)
    · have hf := mift hf hc
      exact hkx97 _ _ hf (lv_sub hl [1] rfl)
    · have hf := miff hf hc
      refine lv_lload hx hb d_Mo_root_52 (lv_at hl 1 rfl) ?_
      refine lv_lload hx hb d_Mo_root_54 (lv_at hl 2 rfl) ?_
      refine lv_ladd hx hb d_Mo_root_56 ?_
      refine lv_lstore (i := 10) (lv' := [(10, .long (x6 + x8)), (4, .long x4), (6, .long x6), (8, .long x8)]) hx hb d_Mo_root_57 hl (by decide) rfl (fun ls hl => ?_)
      refine lv_lload hx hb d_Mo_root_59 (lv_at hl 0 rfl) ?_
      refine lv_lload hx hb d_Mo_root_61 (lv_at hl 0 rfl) ?_
      refine lv_lmul hx hb d_Mo_root_63 ?_
      refine lv_lload hx hb d_Mo_root_64 (lv_at hl 0 rfl) ?_
      refine lv_lmul hx hb d_Mo_root_66 ?_
      refine lv_ldc2 (v := 134217728) hx hb X.ow (X.w k_1124) d_Mo_root_67 ?_
      refine lv_lload hx hb d_Mo_root_70 (lv_at hl 1 rfl) ?_
      refine lv_lmul hx hb d_Mo_root_72 ?_
      refine r_lcgt (tgt := 82) X d_Mo_root_73 d_Mo_root_74 (by decide) (fun hc => ?_) (fun hc => ?_)
      · have hf := mift hf hc
        refine lv_lload hx hb d_Mo_root_82 (lv_at hl 2 rfl) ?_
        exact w_Mo_root_84 X G I ih hkx97 hf (lv_sub hl [1, 3] rfl)
      · have hf := miff hf hc
        refine lv_lload hx hb d_Mo_root_77 (lv_at hl 0 rfl) ?_
        refine lv_goto (tgt := 84) hx hb d_Mo_root_79 (by decide) ?_
        exact w_Mo_root_84 X G I ih hkx97 hf (lv_sub hl [1, 3] rfl)

set_option maxHeartbeats 4000000 in
set_option maxRecDepth 100000 in
theorem w_Mo_root {μ : mM} {r : Int64} (X : mX p m meth c s args b_Mo_root 12 (some .long) "ColourLinkerModel") (G : mG D cA dA z0 s) (I : mI D cA z0 s μ s.heap [] s.heap.size) {ls : Array Slot} {x0 : Int64} {x2 : Int64} (hf : f_Mo_root μ x0 x2 = some r) (hl : lv_has ls 12 [(0, .long x0), (2, .long x2)]) : W p l e rm_Mo_root s m args below meth c s.heap [] 0 0 (MQ below (mQR (some (.long r))) args s 0 0 (fun _ => False)) (F0 m 0 ls []) := by
  have hx := X.ex
  have hb := X.by_
  unfold f_Mo_root at hf
  refine lv_ldc2 (v := 32768) hx hb X.ow (X.w k_1008) d_Mo_root_0 ?_
  refine lv_lload_n hx hb d_Mo_root_3 rfl (lv_at hl 0 rfl) ?_
  refine lv_lmul hx hb d_Mo_root_4 ?_
  refine lv_lload_n hx hb d_Mo_root_5 rfl (lv_at hl 1 rfl) ?_
  obtain ⟨q1, hv, hf⟩ := mbind hf
  refine m_caR (m_runS (As := [.long ((32768 : Int64) * x0), .long x2]) (rest := []) X h_Mo_near k_993 (c_Mo_near hv) mPr_blind (m_pre G I) rfl rfl hl.1 (Nat.le_of_ble_eq_true rfl) rfl rfl ⟨Nat.le_of_ble_eq_true rfl, Nat.le_of_ble_eq_true rfl⟩ ⟨Nat.le_refl _, Nat.le_refl _⟩ d_Mo_root_6) ?_
  refine lv_lstore (i := 4) (lv' := [(4, .long q1), (0, .long x0), (2, .long x2)]) hx hb d_Mo_root_9 hl (by decide) rfl (fun ls hl => ?_)
  refine lv_lload hx hb d_Mo_root_11 (lv_at hl 0 rfl) ?_
  refine lv_ldc2 (v := 290) hx hb X.ow (X.w k_1119) d_Mo_root_13 ?_
  refine r_lcgt (tgt := 37) X d_Mo_root_16 d_Mo_root_17 (by decide) (fun hc => ?_) (fun hc => ?_)
  · have hf := mift hf hc
    refine lv_lconst (v := 0) hx hb d_Mo_root_37 (by decide) ?_
    refine lv_lstore (i := 6) (lv' := [(6, .long (0 : Int64)), (4, .long q1), (0, .long x0), (2, .long x2)]) hx hb d_Mo_root_38 hl (by decide) rfl (fun ls hl => ?_)
    refine lv_ldc2 (v := 16384) hx hb X.ow (X.w k_1123) d_Mo_root_40 ?_
    refine lv_lstore (i := 8) (lv' := [(8, .long (16384 : Int64)), (6, .long (0 : Int64)), (4, .long q1), (0, .long x0), (2, .long x2)]) hx hb d_Mo_root_43 hl (by decide) rfl (fun ls hl => ?_)
    exact w_Mo_root_45 X G I (fun ls x6 hf hl => w_Mo_root_97 X G I hf hl) 4096 _ _ _ _ hf (lv_sub hl [2, 1, 0] rfl)
  · have hf := miff hf hc
    refine lv_ldc2 (v := 841) hx hb X.ow (X.w k_1120) d_Mo_root_20 ?_
    refine lv_lload hx hb d_Mo_root_23 (lv_at hl 0 rfl) ?_
    refine lv_lmul hx hb d_Mo_root_25 ?_
    refine lv_ldc2 (v := 216) hx hb X.ow (X.w k_1121) d_Mo_root_26 ?_
    obtain ⟨q2, hv, hf⟩ := mbind hf
    refine m_caR (m_runS (As := [.long ((841 : Int64) * q1), .long (216 : Int64)]) (rest := []) X h_Mo_near k_993 (c_Mo_near hv) mPr_blind (m_pre G I) rfl rfl hl.1 (Nat.le_of_ble_eq_true rfl) rfl rfl ⟨Nat.le_of_ble_eq_true rfl, Nat.le_of_ble_eq_true rfl⟩ ⟨Nat.le_refl _, Nat.le_refl _⟩ d_Mo_root_29) ?_
    refine lv_ldc2 (v := 2260) hx hb X.ow (X.w k_1122) d_Mo_root_32 ?_
    refine lv_ladd hx hb d_Mo_root_35 ?_
    obtain rfl := Option.some.inj hf
    exact r_lretR X d_Mo_root_36

set_option maxHeartbeats 4000000 in
set_option maxRecDepth 100000 in
theorem c_Mo_root {l : Launch} {D : va_G} {cA : Nat → ClassId} {dA z0 : Nat} {μ : mM} {x0 : Int64} {x2 : Int64} {r : Int64} (hf : f_Mo_root μ x0 x2 = some r) : Met l y_Mo_root (mW y_Mo_root b_Mo_root 12 (some .long)) rm_Mo_root (va_Pc [.long x0, .long x2] (mPr D cA dA z0 μ)) (mQR (some (.long r))) 0 0 (fun _ => False) := by
  refine Met.ofW (cc := b_Mo_root) (maxL := 12) (ret := (some .long)) (by decide) rfl ?_
  intro p e s m args below meth c s₁ B hml hv
  obtain ⟨rfl, G, hP⟩ := hv
  have X := mX.of B hml
  exact m_entry (lv := [(0, .long x0), (2, .long x2)]) (Nat.le_of_ble_eq_true rfl) rfl (fun ls hl => w_Mo_root X G (mI.start hP) hf hl)

end WK
