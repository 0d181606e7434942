section WK
variable {p : Program} {l : Launch} {e : Env} {s : State} {m : MethodId} {args : Array Value} {below : List Frame} {meth : Method} {c : Code} {D : va_G} {cA : Nat → ClassId} {dA z0 : Nat}
abbrev rm_Profile_init (k n : Nat) : Room := { frames := 4, cells := k, slots := n, locals := 92 }
theorem h_Profile_init : mCI y_Profile_init b_Profile_init 6 2 := ⟨k_288, k_80, ⟨by decide, by decide, by decide +kernel⟩, k_287, rfl⟩
set_option maxHeartbeats 4000000 in
set_option maxRecDepth 100000 in
theorem w_Profile_init_497 {h0 : Nat} {ws : Nat} {r : mM × Nat × Nat} (X : mX p m meth c s args b_Profile_init 6 none "ColourLinker$Profile") (G : mG D cA dA z0 s) (hN : meth.name = "<init>") {H : Heap} {locs : List Loc} {μ : mM} {z w : Nat} {ls : Array Slot}  (hq : mq ws w z r.2.1 r.2.2) (I : mI D cA z0 s μ H locs z) (hf : f_Profile_init_497 h0 μ z w = some r) (hl : lv_has ls 6 [(0, va_rf (some h0))]) : W p l e (rm_Profile_init (r.2.1 - s.heap.size) (r.2.2 - ws)) s m args below meth c H locs (z - s.heap.size) (w - ws) (MQ below (mQN D cA z0 none r.1 r.2.1) args s (r.2.1 - s.heap.size) (r.2.2 - ws) (mA z0)) (F0 m 497 ls []) := by
  have hx := X.ex
  have hb := X.by_
  unfold f_Profile_init_497 at hf
  obtain rfl := Option.some.inj hf
  exact r_vretN X I d_Profile_init_497

set_option maxHeartbeats 4000000 in
set_option maxRecDepth 100000 in
theorem w_Profile_init_494 {h0 : Nat} {ws : Nat} {r : mM × Nat × Nat} (X : mX p m meth c s args b_Profile_init 6 none "ColourLinker$Profile") (G : mG D cA dA z0 s) (hN : meth.name = "<init>") {H : Heap} {locs : List Loc} {μ : mM} {z w : Nat} {ls : Array Slot} {s0 : Option Nat} {s1 : Option Nat} (hq : mq ws w z r.2.1 r.2.2) (I : mI D cA z0 s μ H locs z) (hf : f_Profile_init_494 h0 μ z w s0 s1 = some r) (hl : lv_has ls 6 [(0, va_rf (some h0))]) : W p l e (rm_Profile_init (r.2.1 - s.heap.size) (r.2.2 - ws)) s m args below meth c H locs (z - s.heap.size) (w - ws) (MQ below (mQN D cA z0 none r.1 r.2.1) args s (r.2.1 - s.heap.size) (r.2.2 - ws) (mA z0)) (F0 m 494 ls [va_rf s1, va_rf s0]) := by
  have hx := X.ex
  have hb := X.by_
  unfold f_Profile_init_494 at hf
  obtain ⟨m89, hv, hf⟩ := mbind hf
  refine r_putF (ty := (.object "ColourLinker$Piece")) X G I hv o_Profile_beginBack k_406 hN (by decide) (mn_nA _) (mn_fA _) d_Profile_init_494 (fun H locs I => ?_)
  exact w_Profile_init_497 X G hN hq I hf hl

set_option maxHeartbeats 4000000 in
set_option maxRecDepth 100000 in
theorem w_Profile_init_471 {h0 : Nat} {ws : Nat} {r : mM × Nat × Nat} (X : mX p m meth c s args b_Profile_init 6 none "ColourLinker$Profile") (G : mG D cA dA z0 s) (hN : meth.name = "<init>") {H : Heap} {locs : List Loc} {μ : mM} {z w : Nat} {ls : Array Slot} {x1 : Option Nat} {x4 : Int32} {s0 : Option Nat} {s1 : Option Nat} (hq : mq ws w z r.2.1 r.2.2) (I : mI D cA z0 s μ H locs z) (hf : f_Profile_init_471 h0 μ z w x1 x4 s0 s1 = some r) (hl : lv_has ls 6 [(0, va_rf (some h0)), (1, va_rf x1), (4, .int x4)]) : W p l e (rm_Profile_init (r.2.1 - s.heap.size) (r.2.2 - ws)) s m args below meth c H locs (z - s.heap.size) (w - ws) (MQ below (mQN D cA z0 none r.1 r.2.1) args s (r.2.1 - s.heap.size) (r.2.2 - ws) (mA z0)) (F0 m 471 ls [va_rf s1, va_rf s0]) := by
  have hx := X.ex
  have hb := X.by_
  unfold f_Profile_init_471 at hf
  obtain ⟨m85, hv, hf⟩ := mbind hf
  refine r_putF (ty := (.object "ColourLinker$Piece")) X G I hv o_Profile_endForth k_405 hN (by decide) (mn_nA _) (mn_fA _) d_Profile_init_471 (fun H locs I => ?_)
  refine r_aload_n X d_Profile_init_474 rfl (lv_at hl 0 rfl) ?_
  refine lv_iload hx hb d_Profile_init_475 (lv_at hl 2 rfl) ?_
  refine lv_if_eq (tgt := 493) hx hb d_Profile_init_477 (by decide) (fun hc => ?_) (fun hc => ?_)
  · have hf := mift hf hc
    refine r_null X d_Profile_init_493 ?_
    exact w_Profile_init_494 X G hN hq I hf (lv_sub hl [0] rfl)
  · have hf := miff hf hc
    refine r_aload_n X d_Profile_init_480 rfl (lv_at hl 1 rfl) ?_
    refine r_aload_n X d_Profile_init_481 rfl (lv_at hl 0 rfl) ?_
    obtain ⟨v86, hv, hf⟩ := mbind hf
    refine r_getf X G I (mfA_e hv) o_Profile_offsets k_400 (Or.inl rfl) d_Profile_init_482 ?_
    refine lv_iconst (v := 5) hx hb d_Profile_init_485 (by decide) ?_
    obtain ⟨v87, hv, hf⟩ := mbind hf
    refine r_iald X G I hv d_Profile_init_486 ?_
    obtain ⟨q88, hv, hf⟩ := mbind hf
    obtain ⟨hz1, hw1, hz2, hw2, hf⟩ := mmV_e hf
    have hrn := hq.rmN I hz1 hw1 hz2 hw2
    refine m_caN (m_runS (As := [va_rf x1, .int v87]) (rest := [va_rf (some h0)]) X h_Matrix_back k_390 (c_Matrix_back hv) mPn_blind (m_preN G I) rfl rfl hl.1 (Nat.le_of_ble_eq_true rfl) rfl rfl ⟨Nat.le_of_ble_eq_true rfl, Nat.le_of_ble_eq_true rfl⟩ hrn d_Profile_init_487) I hq.1 hz1 hw1 (fun H locs I => ?_)
    have hq := hq.up hw1 hz2 hw2
    refine lv_goto (tgt := 494) hx hb d_Profile_init_490 (by decide) ?_
    exact w_Profile_init_494 X G hN hq I hf (lv_sub hl [0] rfl)

set_option maxHeartbeats 4000000 in
set_option maxRecDepth 100000 in
theorem w_Profile_init_413 {h0 : Nat} {ws : Nat} {r : mM × Nat × Nat} (X : mX p m meth c s args b_Profile_init 6 none "ColourLinker$Profile") (G : mG D cA dA z0 s) (hN : meth.name = "<init>") {H : Heap} {locs : List Loc} {μ : mM} {z w : Nat} {ls : Array Slot} {x1 : Option Nat} {x3 : Int32} {x4 : Int32} (hq : mq ws w z r.2.1 r.2.2) (I : mI D cA z0 s μ H locs z) (hf : f_Profile_init_413 h0 μ z w x1 x3 x4 = some r) (hl : lv_has ls 6 [(0, va_rf (some h0)), (1, va_rf x1), (3, .int x3), (4, .int x4)]) : W p l e (rm_Profile_init (r.2.1 - s.heap.size) (r.2.2 - ws)) s m args below meth c H locs (z - s.heap.size) (w - ws) (MQ below (mQN D cA z0 none r.1 r.2.1) args s (r.2.1 - s.heap.size) (r.2.2 - ws) (mA z0)) (F0 m 413 ls []) := by
  have hx := X.ex
  have hb := X.by_
  unfold f_Profile_init_413 at hf
  refine lv_iload_n hx hb d_Profile_init_413 rfl (lv_at hl 2 rfl) ?_
  refine lv_if_eq (tgt := 451) hx hb d_Profile_init_414 (by decide) (fun hc => ?_) (fun hc => ?_)
  · have hf := mift hf hc
    refine r_aload_n X d_Profile_init_451 rfl (lv_at hl 0 rfl) ?_
    refine lv_iload hx hb d_Profile_init_452 (lv_at hl 3 rfl) ?_
    refine lv_if_eq (tgt := 470) hx hb d_Profile_init_454 (by decide) (fun hc => ?_) (fun hc => ?_)
    · have hf := mift hf hc
      refine r_null X d_Profile_init_470 ?_
      exact w_Profile_init_471 X G hN hq I hf (lv_sub hl [0, 1, 3] rfl)
    · have hf := miff hf hc
      refine r_aload_n X d_Profile_init_457 rfl (lv_at hl 1 rfl) ?_
      refine r_aload_n X d_Profile_init_458 rfl (lv_at hl 0 rfl) ?_
      obtain ⟨v74, hv, hf⟩ := mbind hf
      refine r_getf X G I (mfA_e hv) o_Profile_offsets k_400 (Or.inl rfl) d_Profile_init_459 ?_
      refine lv_iconst (v := 5) hx hb d_Profile_init_462 (by decide) ?_
      obtain ⟨v75, hv, hf⟩ := mbind hf
      refine r_iald X G I hv d_Profile_init_463 ?_
      obtain ⟨q76, hv, hf⟩ := mbind hf
      obtain ⟨hz1, hw1, hz2, hw2, hf⟩ := mmV_e hf
      have hrn := hq.rmN I hz1 hw1 hz2 hw2
      refine m_caN (m_runS (As := [va_rf x1, .int v75]) (rest := [va_rf (some h0)]) X h_Matrix_forth k_361 (c_Matrix_forth hv) mPn_blind (m_preN G I) rfl rfl hl.1 (Nat.le_of_ble_eq_true rfl) rfl rfl ⟨Nat.le_of_ble_eq_true rfl, Nat.le_of_ble_eq_true rfl⟩ hrn d_Profile_init_464) I hq.1 hz1 hw1 (fun H locs I => ?_)
      have hq := hq.up hw1 hz2 hw2
      refine lv_goto (tgt := 471) hx hb d_Profile_init_467 (by decide) ?_
      exact w_Profile_init_471 X G hN hq I hf (lv_sub hl [0, 1, 3] rfl)
  · have hf := miff hf hc
    refine r_aload_n X d_Profile_init_417 rfl (lv_at hl 0 rfl) ?_
    obtain ⟨m77, hv, hf⟩ := mbind hf
    obtain ⟨hz1, hw1, hz2, hw2, hf⟩ := mmV_e hf
    refine r_new (N := 3) X G I hq.1 rfl rfl hv hz2 hw2 (C := "ColourLinker$Gray") (T := T_Gray) rfl (by decide +kernel) k_349 k_350 k_87 d_Profile_init_418 (fun H I => ?_)
    have hq := hq.up hw1 hz2 hw2
    refine lv_dup hx hb d_Profile_init_421 (mrf_cat _) ?_
    refine lv_iconst (v := 4) hx hb d_Profile_init_422 (by decide) ?_
    refine r_aload_n X d_Profile_init_423 rfl (lv_at hl 1 rfl) ?_
    refine lv_iconst (v := 4) hx hb d_Profile_init_424 (by decide) ?_
    obtain ⟨v78, hv, hf⟩ := mbind hf
    refine r_iald X G I hv d_Profile_init_425 ?_
    obtain ⟨q79, hv, hf⟩ := mbind hf
    obtain ⟨a, ha, hv⟩ := mbind hv
    refine m_caWv (m_runI (As := [.int (4 : Int32), .int v78]) (r := some z) (rest := [va_rf (some z), va_rf (some h0)]) X h_Gray_init k_351 (c_Gray_init hv) mPr_blind (m_pre G I) ha rfl rfl hl.1 (Nat.le_of_ble_eq_true rfl) rfl rfl ⟨Nat.le_of_ble_eq_true rfl, Nat.le_of_ble_eq_true rfl⟩ hq.rm d_Profile_init_426) I (fun H locs I => ?_)
    obtain ⟨m80, hv, hf⟩ := mbind hf
    refine r_putF (ty := (.object "ColourLinker$Piece")) X G I hv o_Profile_endForth k_405 hN (by decide) (mn_nA _) (mn_fA _) d_Profile_init_429 (fun H locs I => ?_)
    refine r_aload_n X d_Profile_init_432 rfl (lv_at hl 0 rfl) ?_
    obtain ⟨m81, hv, hf⟩ := mbind hf
    obtain ⟨hz1, hw1, hz2, hw2, hf⟩ := mmV_e hf
    refine r_new (N := 3) X G I hq.1 rfl rfl hv hz2 hw2 (C := "ColourLinker$Gray") (T := T_Gray) rfl (by decide +kernel) k_349 k_350 k_87 d_Profile_init_433 (fun H I => ?_)
    have hq := hq.up hw1 hz2 hw2
    refine lv_dup hx hb d_Profile_init_436 (mrf_cat _) ?_
    refine lv_bipush (v := 9) hx hb d_Profile_init_437 (by decide) ?_
    refine r_aload_n X d_Profile_init_439 rfl (lv_at hl 1 rfl) ?_
    refine lv_iconst (v := 4) hx hb d_Profile_init_440 (by decide) ?_
    obtain ⟨v82, hv, hf⟩ := mbind hf
    refine r_iald X G I hv d_Profile_init_441 ?_
    obtain ⟨q83, hv, hf⟩ := mbind hf
    obtain ⟨a, ha, hv⟩ := mbind hv
    refine m_caWv (m_runI (As := [.int (9 : Int32), .int v82]) (r := some (z + 1)) (rest := [va_rf (some (z + 1)), va_rf (some h0)]) X h_Gray_init k_351 (c_Gray_init hv) mPr_blind (m_pre G I) ha rfl rfl hl.1 (Nat.le_of_ble_eq_true rfl) rfl rfl ⟨Nat.le_of_ble_eq_true rfl, Nat.le_of_ble_eq_true rfl⟩ hq.rm d_Profile_init_442) I (fun H locs I => ?_)
    obtain ⟨m84, hv, hf⟩ := mbind hf
    refine r_putF (ty := (.object "ColourLinker$Piece")) X G I hv o_Profile_beginBack k_406 hN (by decide) (mn_nA _) (mn_fA _) d_Profile_init_445 (fun H locs I => ?_)
    refine lv_goto (tgt := 497) hx hb d_Profile_init_448 (by decide) ?_
    exact w_Profile_init_497 X G hN hq I hf (lv_sub hl [0] rfl)

set_option maxHeartbeats 4000000 in
set_option maxRecDepth 100000 in
theorem w_Profile_init_369 {h0 : Nat} {ws : Nat} {r : mM × Nat × Nat} (X : mX p m meth c s args b_Profile_init 6 none "ColourLinker$Profile") (G : mG D cA dA z0 s) (hN : meth.name = "<init>") {H : Heap} {locs : List Loc} {μ : mM} {z w : Nat} {ls : Array Slot} {x1 : Option Nat} {x3 : Int32} {x4 : Int32} {s0 : Option Nat} (hq : mq ws w z r.2.1 r.2.2) (I : mI D cA z0 s μ H locs z) (hf : f_Profile_init_369 h0 μ z w x1 x3 x4 s0 = some r) (hl : lv_has ls 6 [(0, va_rf (some h0)), (1, va_rf x1), (3, .int x3), (4, .int x4)]) : W p l e (rm_Profile_init (r.2.1 - s.heap.size) (r.2.2 - ws)) s m args below meth c H locs (z - s.heap.size) (w - ws) (MQ below (mQN D cA z0 none r.1 r.2.1) args s (r.2.1 - s.heap.size) (r.2.2 - ws) (mA z0)) (F0 m 369 ls [va_rf s0]) := by
  have hx := X.ex
  have hb := X.by_
  unfold f_Profile_init_369 at hf
  refine r_astore (i := 5) (lv' := [(5, va_rf s0), (0, va_rf (some h0)), (1, va_rf x1), (3, .int x3), (4, .int x4)]) X d_Profile_init_369 hl (by decide) rfl (fun ls hl => ?_)
  refine r_aload_n X d_Profile_init_371 rfl (lv_at hl 1 rfl) ?_
  obtain ⟨m68, hv, hf⟩ := mbind hf
  obtain ⟨hz1, hw1, hz2, hw2, hf⟩ := mmV_e hf
  refine r_new (N := 3) X G I hq.1 rfl rfl hv hz2 hw2 (C := "ColourLinker$Curves") (T := T_Curves) rfl (by decide +kernel) k_330 k_331 k_86 d_Profile_init_372 (fun H I => ?_)
  have hq := hq.up hw1 hz2 hw2
  refine lv_dup hx hb d_Profile_init_375 (mrf_cat _) ?_
  refine lv_iconst (v := 1) hx hb d_Profile_init_376 (by decide) ?_
  refine r_aload X d_Profile_init_377 (lv_at hl 0 rfl) ?_
  obtain ⟨q69, hv, hf⟩ := mbind hf
  obtain ⟨a, ha, hv⟩ := mbind hv
  refine m_caWv (m_runI (As := [.int (1 : Int32), va_rf s0]) (r := some z) (rest := [va_rf (some z), va_rf (some h0)]) X h_Curves_init k_332 (c_Curves_init hv) mPr_blind (m_pre G I) ha rfl rfl hl.1 (Nat.le_of_ble_eq_true rfl) rfl rfl ⟨Nat.le_of_ble_eq_true rfl, Nat.le_of_ble_eq_true rfl⟩ hq.rm d_Profile_init_379) I (fun H locs I => ?_)
  obtain ⟨m70, hv, hf⟩ := mbind hf
  refine r_putF (ty := (.object "ColourLinker$Curves")) X G I hv o_Profile_curvesForth k_404 hN (by decide) (mn_nA _) (mn_fA _) d_Profile_init_382 (fun H locs I => ?_)
  refine r_aload_n X d_Profile_init_385 rfl (lv_at hl 1 rfl) ?_
  obtain ⟨m71, hv, hf⟩ := mbind hf
  obtain ⟨hz1, hw1, hz2, hw2, hf⟩ := mmV_e hf
  refine r_new (N := 3) X G I hq.1 rfl rfl hv hz2 hw2 (C := "ColourLinker$Curves") (T := T_Curves) rfl (by decide +kernel) k_330 k_331 k_86 d_Profile_init_386 (fun H I => ?_)
  have hq := hq.up hw1 hz2 hw2
  refine lv_dup hx hb d_Profile_init_389 (mrf_cat _) ?_
  refine lv_bipush (v := 11) hx hb d_Profile_init_390 (by decide) ?_
  refine r_aload X d_Profile_init_392 (lv_at hl 0 rfl) ?_
  obtain ⟨q72, hv, hf⟩ := mbind hf
  obtain ⟨a, ha, hv⟩ := mbind hv
  refine m_caWv (m_runI (As := [.int (11 : Int32), va_rf s0]) (r := some (z + 1)) (rest := [va_rf (some (z + 1)), va_rf (some h0)]) X h_Curves_init k_332 (c_Curves_init hv) mPr_blind (m_pre G I) ha rfl rfl hl.1 (Nat.le_of_ble_eq_true rfl) rfl rfl ⟨Nat.le_of_ble_eq_true rfl, Nat.le_of_ble_eq_true rfl⟩ hq.rm d_Profile_init_394) I (fun H locs I => ?_)
  obtain ⟨m73, hv, hf⟩ := mbind hf
  refine r_putF (ty := (.object "ColourLinker$Curves")) X G I hv o_Profile_curvesBack k_407 hN (by decide) (mn_nA _) (mn_fA _) d_Profile_init_397 (fun H locs I => ?_)
  refine lv_goto (tgt := 413) hx hb d_Profile_init_400 (by decide) ?_
  exact w_Profile_init_413 X G hN hq I hf (lv_sub hl [1, 2, 3, 4] rfl)

set_option maxHeartbeats 4000000 in
set_option maxRecDepth 100000 in
theorem w_Profile_init_318 {h0 : Nat} {ws : Nat} {r : mM × Nat × Nat} (X : mX p m meth c s args b_Profile_init 6 none "ColourLinker$Profile") (G : mG D cA dA z0 s) (hN : meth.name = "<init>") {H : Heap} {locs : List Loc} {μ : mM} {z w : Nat} {ls : Array Slot} {x1 : Option Nat} {x3 : Int32} {x4 : Int32} (hq : mq ws w z r.2.1 r.2.2) (I : mI D cA z0 s μ H locs z) (hf : f_Profile_init_318 h0 μ z w x1 x3 x4 = some r) (hl : lv_has ls 6 [(0, va_rf (some h0)), (1, va_rf x1), (3, .int x3), (4, .int x4)]) : W p l e (rm_Profile_init (r.2.1 - s.heap.size) (r.2.2 - ws)) s m args below meth c H locs (z - s.heap.size) (w - ws) (MQ below (mQN D cA z0 none r.1 r.2.1) args s (r.2.1 - s.heap.size) (r.2.2 - ws) (mA z0)) (F0 m 318 ls []) := by
  have hx := X.ex
  have hb := X.by_
  unfold f_Profile_init_318 at hf
  refine lv_iload_n hx hb d_Profile_init_318 rfl (lv_at hl 2 rfl) ?_
  refine lv_if_eq (tgt := 338) hx hb d_Profile_init_319 (by decide) (fun hc => ?_) (fun hc => ?_)
  · have hf := mift hf hc
    refine lv_iconst (v := 3) hx hb d_Profile_init_338 (by decide) ?_
    obtain ⟨m54, hv, hf⟩ := mbind hf
    obtain ⟨hz1, hw1, hz2, hw2, hf⟩ := mmV_e hf
    refine r_anew (k := 3) X G I hq.1 rfl rfl hv hz2 hw2 (by decide) rfl k_290 d_Profile_init_339 (fun H I => ?_)
    have hq := hq.up hw1 hz2 hw2
    refine lv_dup hx hb d_Profile_init_342 (mrf_cat _) ?_
    refine lv_iconst (v := 0) hx hb d_Profile_init_343 (by decide) ?_
    refine r_aload_n X d_Profile_init_344 rfl (lv_at hl 0 rfl) ?_
    obtain ⟨v55, hv, hf⟩ := mbind hf
    refine r_getf X G I (mfA_e hv) o_Profile_curves k_401 (Or.inl rfl) d_Profile_init_345 ?_
    refine lv_iconst (v := 2) hx hb d_Profile_init_348 (by decide) ?_
    obtain ⟨v56, hv, hf⟩ := mbind hf
    refine r_aald X G I hv d_Profile_init_349 ?_
    obtain ⟨m57, hv, hf⟩ := mbind hf
    refine r_aast X G I hv d_Profile_init_350 (fun H locs I => ?_)
    refine lv_dup hx hb d_Profile_init_351 (mrf_cat _) ?_
    refine lv_iconst (v := 1) hx hb d_Profile_init_352 (by decide) ?_
    refine r_aload_n X d_Profile_init_353 rfl (lv_at hl 0 rfl) ?_
    obtain ⟨v58, hv, hf⟩ := mbind hf
    refine r_getf X G I (mfA_e hv) o_Profile_curves k_401 (Or.inl rfl) d_Profile_init_354 ?_
    refine lv_iconst (v := 3) hx hb d_Profile_init_357 (by decide) ?_
    obtain ⟨v59, hv, hf⟩ := mbind hf
    refine r_aald X G I hv d_Profile_init_358 ?_
    obtain ⟨m60, hv, hf⟩ := mbind hf
    refine r_aast X G I hv d_Profile_init_359 (fun H locs I => ?_)
    refine lv_dup hx hb d_Profile_init_360 (mrf_cat _) ?_
    refine lv_iconst (v := 2) hx hb d_Profile_init_361 (by decide) ?_
    refine r_aload_n X d_Profile_init_362 rfl (lv_at hl 0 rfl) ?_
    obtain ⟨v61, hv, hf⟩ := mbind hf
    refine r_getf X G I (mfA_e hv) o_Profile_curves k_401 (Or.inl rfl) d_Profile_init_363 ?_
    refine lv_iconst (v := 4) hx hb d_Profile_init_366 (by decide) ?_
    obtain ⟨v62, hv, hf⟩ := mbind hf
    refine r_aald X G I hv d_Profile_init_367 ?_
    obtain ⟨m63, hv, hf⟩ := mbind hf
    refine r_aast X G I hv d_Profile_init_368 (fun H locs I => ?_)
    exact w_Profile_init_369 X G hN hq I hf hl
  · have hf := miff hf hc
    refine lv_iconst (v := 1) hx hb d_Profile_init_322 (by decide) ?_
    obtain ⟨m64, hv, hf⟩ := mbind hf
    obtain ⟨hz1, hw1, hz2, hw2, hf⟩ := mmV_e hf
    refine r_anew (k := 3) X G I hq.1 rfl rfl hv hz2 hw2 (by decide) rfl k_290 d_Profile_init_323 (fun H I => ?_)
    have hq := hq.up hw1 hz2 hw2
    refine lv_dup hx hb d_Profile_init_326 (mrf_cat _) ?_
    refine lv_iconst (v := 0) hx hb d_Profile_init_327 (by decide) ?_
    refine r_aload_n X d_Profile_init_328 rfl (lv_at hl 0 rfl) ?_
    obtain ⟨v65, hv, hf⟩ := mbind hf
    refine r_getf X G I (mfA_e hv) o_Profile_curves k_401 (Or.inl rfl) d_Profile_init_329 ?_
    refine lv_iconst (v := 1) hx hb d_Profile_init_332 (by decide) ?_
    obtain ⟨v66, hv, hf⟩ := mbind hf
    refine r_aald X G I hv d_Profile_init_333 ?_
    obtain ⟨m67, hv, hf⟩ := mbind hf
    refine r_aast X G I hv d_Profile_init_334 (fun H locs I => ?_)
    refine lv_goto (tgt := 369) hx hb d_Profile_init_335 (by decide) ?_
    exact w_Profile_init_369 X G hN hq I hf hl

set_option maxHeartbeats 4000000 in
set_option maxRecDepth 100000 in
theorem w_Profile_init_307 {h0 : Nat} {ws : Nat} {r : mM × Nat × Nat} (X : mX p m meth c s args b_Profile_init 6 none "ColourLinker$Profile") (G : mG D cA dA z0 s) (hN : meth.name = "<init>") {H : Heap} {locs : List Loc} {μ : mM} {z w : Nat} {ls : Array Slot} {x1 : Option Nat} {x3 : Int32} {s0 : Int32} (hq : mq ws w z r.2.1 r.2.2) (I : mI D cA z0 s μ H locs z) (hf : f_Profile_init_307 h0 μ z w x1 x3 s0 = some r) (hl : lv_has ls 6 [(0, va_rf (some h0)), (1, va_rf x1), (3, .int x3)]) : W p l e (rm_Profile_init (r.2.1 - s.heap.size) (r.2.2 - ws)) s m args below meth c H locs (z - s.heap.size) (w - ws) (MQ below (mQN D cA z0 none r.1 r.2.1) args s (r.2.1 - s.heap.size) (r.2.2 - ws) (mA z0)) (F0 m 307 ls [.int s0]) := by
  have hx := X.ex
  have hb := X.by_
  unfold f_Profile_init_307 at hf
  refine lv_istore (i := 4) (lv' := [(4, .int s0), (0, va_rf (some h0)), (1, va_rf x1), (3, .int x3)]) hx hb d_Profile_init_307 hl (by decide) rfl (fun ls hl => ?_)
  refine lv_iload_n hx hb d_Profile_init_309 rfl (lv_at hl 3 rfl) ?_
  refine lv_if_ne (tgt := 318) hx hb d_Profile_init_310 (by decide) (fun hc => ?_) (fun hc => ?_)
  · have hf := miff hf hc
    exact w_Profile_init_318 X G hN hq I hf (lv_sub hl [1, 2, 3, 0] rfl)
  · have hf := mift hf hc
    refine lv_iload hx hb d_Profile_init_313 (lv_at hl 0 rfl) ?_
    refine lv_if_eq (tgt := 403) hx hb d_Profile_init_315 (by decide) (fun hc => ?_) (fun hc => ?_)
    · have hf := mift hf hc
      refine r_aload_n X d_Profile_init_403 rfl (lv_at hl 1 rfl) ?_
      refine r_null X d_Profile_init_404 ?_
      obtain ⟨m52, hv, hf⟩ := mbind hf
      refine r_putF (ty := (.object "ColourLinker$Curves")) X G I hv o_Profile_curvesForth k_404 hN (by decide) (mn_nA _) (mn_fA _) d_Profile_init_405 (fun H locs I => ?_)
      refine r_aload_n X d_Profile_init_408 rfl (lv_at hl 1 rfl) ?_
      refine r_null X d_Profile_init_409 ?_
      obtain ⟨m53, hv, hf⟩ := mbind hf
      refine r_putF (ty := (.object "ColourLinker$Curves")) X G I hv o_Profile_curvesBack k_407 hN (by decide) (mn_nA _) (mn_fA _) d_Profile_init_410 (fun H locs I => ?_)
      exact w_Profile_init_413 X G hN hq I hf (lv_sub hl [1, 2, 3, 0] rfl)
    · have hf := miff hf hc
      exact w_Profile_init_318 X G hN hq I hf (lv_sub hl [1, 2, 3, 0] rfl)

set_option maxHeartbeats 4000000 in
set_option maxRecDepth 100000 in
theorem w_Profile_init_306 {h0 : Nat} {ws : Nat} {r : mM × Nat × Nat} (X : mX p m meth c s args b_Profile_init 6 none "ColourLinker$Profile") (G : mG D cA dA z0 s) (hN : meth.name = "<init>") {H : Heap} {locs : List Loc} {μ : mM} {z w : Nat} {ls : Array Slot} {x1 : Option Nat} {x3 : Int32} (hq : mq ws w z r.2.1 r.2.2) (I : mI D cA z0 s μ H locs z) (hf : f_Profile_init_306 h0 μ z w x1 x3 = some r) (hl : lv_has ls 6 [(0, va_rf (some h0)), (1, va_rf x1), (3, .int x3)]) : W p l e (rm_Profile_init (r.2.1 - s.heap.size) (r.2.2 - ws)) s m args below meth c H locs (z - s.heap.size) (w - ws) (MQ below (mQN D cA z0 none r.1 r.2.1) args s (r.2.1 - s.heap.size) (r.2.2 - ws) (mA z0)) (F0 m 306 ls []) := by
  have hx := X.ex
  have hb := X.by_
  unfold f_Profile_init_306 at hf
  refine lv_iconst (v := 0) hx hb d_Profile_init_306 (by decide) ?_
  exact w_Profile_init_307 X G hN hq I hf hl

set_option maxHeartbeats 4000000 in
set_option maxRecDepth 100000 in
theorem w_Profile_init_260 {h0 : Nat} {ws : Nat} {r : mM × Nat × Nat} (X : mX p m meth c s args b_Profile_init 6 none "ColourLinker$Profile") (G : mG D cA dA z0 s) (hN : meth.name = "<init>") {H : Heap} {locs : List Loc} {μ : mM} {z w : Nat} {ls : Array Slot} {x1 : Option Nat} {x3 : Int32} (hq : mq ws w z r.2.1 r.2.2) (I : mI D cA z0 s μ H locs z) (hf : f_Profile_init_260 h0 μ z w x1 x3 = some r) (hl : lv_has ls 6 [(0, va_rf (some h0)), (1, va_rf x1), (3, .int x3)]) : W p l e (rm_Profile_init (r.2.1 - s.heap.size) (r.2.2 - ws)) s m args below meth c H locs (z - s.heap.size) (w - ws) (MQ below (mQN D cA z0 none r.1 r.2.1) args s (r.2.1 - s.heap.size) (r.2.2 - ws) (mA z0)) (F0 m 260 ls []) := by
  have hx := X.ex
  have hb := X.by_
  unfold f_Profile_init_260 at hf
  refine r_aload_n X d_Profile_init_260 rfl (lv_at hl 1 rfl) ?_
  refine lv_iconst (v := 4) hx hb d_Profile_init_261 (by decide) ?_
  obtain ⟨v43, hv, hf⟩ := mbind hf
  refine r_iald X G I hv d_Profile_init_262 ?_
  refine lv_if_ne (tgt := 306) hx hb d_Profile_init_263 (by decide) (fun hc => ?_) (fun hc => ?_)
  · have hf := miff hf hc
    exact w_Profile_init_306 X G hN hq I hf hl
  · have hf := mift hf hc
    refine r_aload_n X d_Profile_init_266 rfl (lv_at hl 0 rfl) ?_
    obtain ⟨v44, hv, hf⟩ := mbind hf
    refine r_getf X G I (mfA_e hv) o_Profile_offsets k_400 (Or.inl rfl) d_Profile_init_267 ?_
    refine lv_iconst (v := 2) hx hb d_Profile_init_270 (by decide) ?_
    obtain ⟨v45, hv, hf⟩ := mbind hf
    refine r_iald X G I hv d_Profile_init_271 ?_
    refine lv_if_eq (tgt := 306) hx hb d_Profile_init_272 (by decide) (fun hc => ?_) (fun hc => ?_)
    · have hf := mift hf hc
      exact w_Profile_init_306 X G hN hq I hf hl
    · have hf := miff hf hc
      refine r_aload_n X d_Profile_init_275 rfl (lv_at hl 0 rfl) ?_
      obtain ⟨v46, hv, hf⟩ := mbind hf
      refine r_getf X G I (mfA_e hv) o_Profile_offsets k_400 (Or.inl rfl) d_Profile_init_276 ?_
      refine lv_iconst (v := 3) hx hb d_Profile_init_279 (by decide) ?_
      obtain ⟨v47, hv, hf⟩ := mbind hf
      refine r_iald X G I hv d_Profile_init_280 ?_
      refine lv_if_eq (tgt := 306) hx hb d_Profile_init_281 (by decide) (fun hc => ?_) (fun hc => ?_)
      · have hf := mift hf hc
        exact w_Profile_init_306 X G hN hq I hf hl
      · have hf := miff hf hc
        refine r_aload_n X d_Profile_init_284 rfl (lv_at hl 0 rfl) ?_
        obtain ⟨v48, hv, hf⟩ := mbind hf
        refine r_getf X G I (mfA_e hv) o_Profile_offsets k_400 (Or.inl rfl) d_Profile_init_285 ?_
        refine lv_iconst (v := 4) hx hb d_Profile_init_288 (by decide) ?_
        obtain ⟨v49, hv, hf⟩ := mbind hf
        refine r_iald X G I hv d_Profile_init_289 ?_
        refine lv_if_eq (tgt := 306) hx hb d_Profile_init_290 (by decide) (fun hc => ?_) (fun hc => ?_)
        · have hf := mift hf hc
          exact w_Profile_init_306 X G hN hq I hf hl
        · have hf := miff hf hc
          refine r_aload_n X d_Profile_init_293 rfl (lv_at hl 0 rfl) ?_
          obtain ⟨v50, hv, hf⟩ := mbind hf
          refine r_getf X G I (mfA_e hv) o_Profile_offsets k_400 (Or.inl rfl) d_Profile_init_294 ?_
          refine lv_iconst (v := 5) hx hb d_Profile_init_297 (by decide) ?_
          obtain ⟨v51, hv, hf⟩ := mbind hf
          refine r_iald X G I hv d_Profile_init_298 ?_
          refine lv_if_eq (tgt := 306) hx hb d_Profile_init_299 (by decide) (fun hc => ?_) (fun hc => ?_)
          · have hf := mift hf hc
            exact w_Profile_init_306 X G hN hq I hf hl
          · have hf := miff hf hc
            refine lv_iconst (v := 1) hx hb d_Profile_init_302 (by decide) ?_
            refine lv_goto (tgt := 307) hx hb d_Profile_init_303 (by decide) ?_
            exact w_Profile_init_307 X G hN hq I hf hl

set_option maxHeartbeats 4000000 in
set_option maxRecDepth 100000 in
theorem w_Profile_init_253 {h0 : Nat} {ws : Nat} {r : mM × Nat × Nat} (X : mX p m meth c s args b_Profile_init 6 none "ColourLinker$Profile") (G : mG D cA dA z0 s) (hN : meth.name = "<init>") {k : mM → Nat → Nat → (Option Nat) → Int32 → Int32 → Option (mM × Nat × Nat)} {kx260 : mM → Nat → Nat → (Option Nat) → Int32 → Option (mM × Nat × Nat)} (hk : ∀ (H : Heap) (locs : List Loc) (μ : mM) (z w : Nat) (ls : Array Slot) (x1 : Option Nat) (x3 : Int32) (x4 : Int32), mq ws w z r.2.1 r.2.2 → mI D cA z0 s μ H locs z → k μ z w x1 x3 x4 = some r → lv_has ls 6 [(0, va_rf (some h0)), (1, va_rf x1), (3, .int x3), (4, .int x4)] → W p l e (rm_Profile_init (r.2.1 - s.heap.size) (r.2.2 - ws)) s m args below meth c H locs (z - s.heap.size) (w - ws) (MQ below (mQN D cA z0 none r.1 r.2.1) args s (r.2.1 - s.heap.size) (r.2.2 - ws) (mA z0)) (F0 m 207 ls [])) (hkx260 : ∀ (H : Heap) (locs : List Loc) (μ : mM) (z w : Nat) (ls : Array Slot) (x1 : Option Nat) (x3 : Int32), mq ws w z r.2.1 r.2.2 → mI D cA z0 s μ H locs z → kx260 μ z w x1 x3 = some r → lv_has ls 6 [(0, va_rf (some h0)), (1, va_rf x1), (3, .int x3)] → W p l e (rm_Profile_init (r.2.1 - s.heap.size) (r.2.2 - ws)) s m args below meth c H locs (z - s.heap.size) (w - ws) (MQ below (mQN D cA z0 none r.1 r.2.1) args s (r.2.1 - s.heap.size) (r.2.2 - ws) (mA z0)) (F0 m 260 ls [])) {H : Heap} {locs : List Loc} {μ : mM} {z w : Nat} {ls : Array Slot} {x1 : Option Nat} {x3 : Int32} {x4 : Int32} {s0 : Option Nat} {s1 : Int32} {s2 : Option Nat} (hq : mq ws w z r.2.1 r.2.2) (I : mI D cA z0 s μ H locs z) (hf : f_Profile_init_253 h0 k kx260 μ z w x1 x3 x4 s0 s1 s2 = some r) (hl : lv_has ls 6 [(0, va_rf (some h0)), (1, va_rf x1), (3, .int x3), (4, .int x4)]) : W p l e (rm_Profile_init (r.2.1 - s.heap.size) (r.2.2 - ws)) s m args below meth c H locs (z - s.heap.size) (w - ws) (MQ below (mQN D cA z0 none r.1 r.2.1) args s (r.2.1 - s.heap.size) (r.2.2 - ws) (mA z0)) (F0 m 253 ls [va_rf s2, .int s1, va_rf s0]) := by
  have hx := X.ex
  have hb := X.by_
  unfold f_Profile_init_253 at hf
  obtain ⟨m42, hv, hf⟩ := mbind hf
  refine r_aast X G I hv d_Profile_init_253 (fun H locs I => ?_)
  refine lv_iinc (i := 4) (k := 3) (v := (x4 + (1 : Int32))) (lv' := [(4, .int (x4 + (1 : Int32))), (0, va_rf (some h0)), (1, va_rf x1), (3, .int x3)]) hx hb d_Profile_init_254 hl rfl (congrArg (fun t => x4 + t) (by decide : Int32.ofInt (1) = (1 : Int32))) (by decide) rfl (fun ls hl => ?_)
  refine lv_goto (tgt := 207) hx hb d_Profile_init_257 (by decide) ?_
  exact hk _ _ _ _ _ _ _ _ _ hq I hf (lv_sub hl [1, 2, 3, 0] rfl)

set_option maxHeartbeats 4000000 in
set_option maxRecDepth 100000 in
theorem w_Profile_init_234 {h0 : Nat} {ws : Nat} {r : mM × Nat × Nat} (X : mX p m meth c s args b_Profile_init 6 none "ColourLinker$Profile") (G : mG D cA dA z0 s) (hN : meth.name = "<init>") {k : mM → Nat → Nat → (Option Nat) → Int32 → Int32 → Option (mM × Nat × Nat)} {kx260 : mM → Nat → Nat → (Option Nat) → Int32 → Option (mM × Nat × Nat)} (hk : ∀ (H : Heap) (locs : List Loc) (μ : mM) (z w : Nat) (ls : Array Slot) (x1 : Option Nat) (x3 : Int32) (x4 : Int32), mq ws w z r.2.1 r.2.2 → mI D cA z0 s μ H locs z → k μ z w x1 x3 x4 = some r → lv_has ls 6 [(0, va_rf (some h0)), (1, va_rf x1), (3, .int x3), (4, .int x4)] → W p l e (rm_Profile_init (r.2.1 - s.heap.size) (r.2.2 - ws)) s m args below meth c H locs (z - s.heap.size) (w - ws) (MQ below (mQN D cA z0 none r.1 r.2.1) args s (r.2.1 - s.heap.size) (r.2.2 - ws) (mA z0)) (F0 m 207 ls [])) (hkx260 : ∀ (H : Heap) (locs : List Loc) (μ : mM) (z w : Nat) (ls : Array Slot) (x1 : Option Nat) (x3 : Int32), mq ws w z r.2.1 r.2.2 → mI D cA z0 s μ H locs z → kx260 μ z w x1 x3 = some r → lv_has ls 6 [(0, va_rf (some h0)), (1, va_rf x1), (3, .int x3)] → W p l e (rm_Profile_init (r.2.1 - s.heap.size) (r.2.2 - ws)) s m args below meth c H locs (z - s.heap.size) (w - ws) (MQ below (mQN D cA z0 none r.1 r.2.1) args s (r.2.1 - s.heap.size) (r.2.2 - ws) (mA z0)) (F0 m 260 ls [])) {H : Heap} {locs : List Loc} {μ : mM} {z w : Nat} {ls : Array Slot} {x1 : Option Nat} {x3 : Int32} {x4 : Int32} {s0 : Option Nat} {s1 : Int32} (hq : mq ws w z r.2.1 r.2.2) (I : mI D cA z0 s μ H locs z) (hf : f_Profile_init_234 h0 k kx260 μ z w x1 x3 x4 s0 s1 = some r) (hl : lv_has ls 6 [(0, va_rf (some h0)), (1, va_rf x1), (3, .int x3), (4, .int x4)]) : W p l e (rm_Profile_init (r.2.1 - s.heap.size) (r.2.2 - ws)) s m args below meth c H locs (z - s.heap.size) (w - ws) (MQ below (mQN D cA z0 none r.1 r.2.1) args s (r.2.1 - s.heap.size) (r.2.2 - ws) (mA z0)) (F0 m 234 ls [.int s1, va_rf s0]) := by
  have hx := X.ex
  have hb := X.by_
  unfold f_Profile_init_234 at hf
  refine r_null X d_Profile_init_234 ?_
  refine lv_goto (tgt := 253) hx hb d_Profile_init_235 (by decide) ?_
  exact w_Profile_init_253 X G hN hk hkx260 hq I hf hl

set_option maxHeartbeats 4000000 in
set_option maxRecDepth 100000 in
theorem w_Profile_init_207 {h0 : Nat} {ws : Nat} {r : mM × Nat × Nat} (X : mX p m meth c s args b_Profile_init 6 none "ColourLinker$Profile") (G : mG D cA dA z0 s) (hN : meth.name = "<init>") {kx260 : mM → Nat → Nat → (Option Nat) → Int32 → Option (mM × Nat × Nat)} (hkx260 : ∀ (H : Heap) (locs : List Loc) (μ : mM) (z w : Nat) (ls : Array Slot) (x1 : Option Nat) (x3 : Int32), mq ws w z r.2.1 r.2.2 → mI D cA z0 s μ H locs z → kx260 μ z w x1 x3 = some r → lv_has ls 6 [(0, va_rf (some h0)), (1, va_rf x1), (3, .int x3)] → W p l e (rm_Profile_init (r.2.1 - s.heap.size) (r.2.2 - ws)) s m args below meth c H locs (z - s.heap.size) (w - ws) (MQ below (mQN D cA z0 none r.1 r.2.1) args s (r.2.1 - s.heap.size) (r.2.2 - ws) (mA z0)) (F0 m 260 ls [])) : ∀ (n : Nat) (H : Heap) (locs : List Loc) (μ : mM) (z w : Nat) (ls : Array Slot) (x1 : Option Nat) (x3 : Int32) (x4 : Int32), mq ws w z r.2.1 r.2.2 → mI D cA z0 s μ H locs z → f_Profile_init_207 h0 kx260 n μ z w x1 x3 x4 = some r → lv_has ls 6 [(0, va_rf (some h0)), (1, va_rf x1), (3, .int x3), (4, .int x4)] → W p l e (rm_Profile_init (r.2.1 - s.heap.size) (r.2.2 - ws)) s m args below meth c H locs (z - s.heap.size) (w - ws) (MQ below (mQN D cA z0 none r.1 r.2.1) args s (r.2.1 - s.heap.size) (r.2.2 - ws) (mA z0)) (F0 m 207 ls []) := by
  have hx := X.ex
  have hb := X.by_
  intro n
  induction n with
  | zero => intro H locs μ z w ls x1 x3 x4 hq I hf hl; rw [f_Profile_init_207] at hf; cases hf
  | succ n ih =>
    intro H locs μ z w ls x1 x3 x4 hq I hf hl
    rw [f_Profile_init_207] at hf
    refine lv_iload hx hb d_Profile_init_207 (lv_at hl 3 rfl) ?_
    refine lv_bipush (v := 11) hx hb d_Profile_init_209 (by decide) ?_
    refine lv_icmp_gt (tgt := 260) hx hb d_Profile_init_211 (by decide) (fun hc => ?_) (fun hc => ?_)
    · have hf := mift hf hc
      exact hkx260 _ _ _ _ _ _ _ _ hq I hf (lv_sub hl [0, 1, 2] rfl)
    · have hf := miff hf hc
      refine r_aload_n X d_Profile_init_214 rfl (lv_at hl 0 rfl) ?_
      obtain ⟨v35, hv, hf⟩ := mbind hf
      refine r_getf X G I (mfA_e hv) o_Profile_grids k_403 (Or.inl rfl) d_Profile_init_215 ?_
      refine lv_iload hx hb d_Profile_init_218 (lv_at hl 3 rfl) ?_
      refine lv_iload_n hx hb d_Profile_init_220 rfl (lv_at hl 2 rfl) ?_
      refine lv_if_ne (tgt := 234) hx hb d_Profile_init_221 (by decide) (fun hc => ?_) (fun hc => ?_)
      · have hf := miff hf hc
        exact w_Profile_init_234 X G hN ih hkx260 hq I hf hl
      · have hf := mift hf hc
        refine r_aload_n X d_Profile_init_224 rfl (lv_at hl 0 rfl) ?_
        obtain ⟨v36, hv, hf⟩ := mbind hf
        refine r_getf X G I (mfA_e hv) o_Profile_offsets k_400 (Or.inl rfl) d_Profile_init_225 ?_
        refine lv_iload hx hb d_Profile_init_228 (lv_at hl 3 rfl) ?_
        obtain ⟨v37, hv, hf⟩ := mbind hf
        refine r_iald X G I hv d_Profile_init_230 ?_
        refine lv_if_ne (tgt := 238) hx hb d_Profile_init_231 (by decide) (fun hc => ?_) (fun hc => ?_)
        · have hf := miff hf hc
          obtain ⟨m38, hv, hf⟩ := mbind hf
          obtain ⟨hz1, hw1, hz2, hw2, hf⟩ := mmV_e hf
          refine r_new (N := 6) X G I hq.1 rfl rfl hv hz2 hw2 (C := "ColourLinker$Grid") (T := T_Grid) rfl (by decide +kernel) k_292 k_310 k_85 d_Profile_init_238 (fun H I => ?_)
          have hq := hq.up hw1 hz2 hw2
          refine lv_dup hx hb d_Profile_init_241 (mrf_cat _) ?_
          refine r_aload_n X d_Profile_init_242 rfl (lv_at hl 1 rfl) ?_
          refine r_aload_n X d_Profile_init_243 rfl (lv_at hl 0 rfl) ?_
          obtain ⟨v39, hv, hf⟩ := mbind hf
          refine r_getf X G I (mfA_e hv) o_Profile_offsets k_400 (Or.inl rfl) d_Profile_init_244 ?_
          refine lv_iload hx hb d_Profile_init_247 (lv_at hl 3 rfl) ?_
          obtain ⟨v40, hv, hf⟩ := mbind hf
          refine r_iald X G I hv d_Profile_init_249 ?_
          obtain ⟨q41, hv, hf⟩ := mbind hf
          obtain ⟨hz1, hw1, hz2, hw2, hf⟩ := mmV_e hf
          have hrn := hq.rmN I hz1 hw1 hz2 hw2
          obtain ⟨a, ha, hv⟩ := mbind hv
          refine m_caNv (m_runI (As := [va_rf x1, .int v40]) (r := some z) (rest := [va_rf (some z), .int x4, va_rf v35]) X h_Grid_init k_311 (c_Grid_init hv) mPn_blind (m_preN G I) ha rfl rfl hl.1 (Nat.le_of_ble_eq_true rfl) rfl rfl ⟨Nat.le_of_ble_eq_true rfl, Nat.le_of_ble_eq_true rfl⟩ hrn d_Profile_init_250) I hq.1 hz1 hw1 (fun H locs I => ?_)
          have hq := hq.up hw1 hz2 hw2
          exact w_Profile_init_253 X G hN ih hkx260 hq I hf hl
        · have hf := mift hf hc
          exact w_Profile_init_234 X G hN ih hkx260 hq I hf hl

set_option maxHeartbeats 4000000 in
set_option maxRecDepth 100000 in
theorem w_Profile_init_202 {h0 : Nat} {ws : Nat} {r : mM × Nat × Nat} (X : mX p m meth c s args b_Profile_init 6 none "ColourLinker$Profile") (G : mG D cA dA z0 s) (hN : meth.name = "<init>") {H : Heap} {locs : List Loc} {μ : mM} {z w : Nat} {ls : Array Slot} {x1 : Option Nat} {s0 : Int32} (hq : mq ws w z r.2.1 r.2.2) (I : mI D cA z0 s μ H locs z) (hf : f_Profile_init_202 h0 μ z w x1 s0 = some r) (hl : lv_has ls 6 [(0, va_rf (some h0)), (1, va_rf x1)]) : W p l e (rm_Profile_init (r.2.1 - s.heap.size) (r.2.2 - ws)) s m args below meth c H locs (z - s.heap.size) (w - ws) (MQ below (mQN D cA z0 none r.1 r.2.1) args s (r.2.1 - s.heap.size) (r.2.2 - ws) (mA z0)) (F0 m 202 ls [.int s0]) := by
  have hx := X.ex
  have hb := X.by_
  unfold f_Profile_init_202 at hf
  refine lv_istore_n (i := 3) (lv' := [(3, .int s0), (0, va_rf (some h0)), (1, va_rf x1)]) hx hb d_Profile_init_202 rfl hl (by decide) rfl (fun ls hl => ?_)
  refine lv_bipush (v := 6) hx hb d_Profile_init_203 (by decide) ?_
  refine lv_istore (i := 4) (lv' := [(4, .int (6 : Int32)), (3, .int s0), (0, va_rf (some h0)), (1, va_rf x1)]) hx hb d_Profile_init_205 hl (by decide) rfl (fun ls hl => ?_)
  exact w_Profile_init_207 X G hN (fun H locs μ z w ls x1 x3 hq I hf hl => w_Profile_init_260 X G hN hq I hf hl) 4096 _ _ _ _ _ _ _ _ _ hq I hf (lv_sub hl [2, 3, 1, 0] rfl)

set_option maxHeartbeats 4000000 in
set_option maxRecDepth 100000 in
theorem w_Profile_init_190 {h0 : Nat} {ws : Nat} {r : mM × Nat × Nat} (X : mX p m meth c s args b_Profile_init 6 none "ColourLinker$Profile") (G : mG D cA dA z0 s) (hN : meth.name = "<init>") {H : Heap} {locs : List Loc} {μ : mM} {z w : Nat} {ls : Array Slot} {x1 : Option Nat} (hq : mq ws w z r.2.1 r.2.2) (I : mI D cA z0 s μ H locs z) (hf : f_Profile_init_190 h0 μ z w x1 = some r) (hl : lv_has ls 6 [(0, va_rf (some h0)), (1, va_rf x1)]) : W p l e (rm_Profile_init (r.2.1 - s.heap.size) (r.2.2 - ws)) s m args below meth c H locs (z - s.heap.size) (w - ws) (MQ below (mQN D cA z0 none r.1 r.2.1) args s (r.2.1 - s.heap.size) (r.2.2 - ws) (mA z0)) (F0 m 190 ls []) := by
  have hx := X.ex
  have hb := X.by_
  unfold f_Profile_init_190 at hf
  refine r_aload_n X d_Profile_init_190 rfl (lv_at hl 1 rfl) ?_
  refine lv_iconst (v := 3) hx hb d_Profile_init_191 (by decide) ?_
  obtain ⟨v34, hv, hf⟩ := mbind hf
  refine r_iald X G I hv d_Profile_init_192 ?_
  refine lv_iconst (v := 1) hx hb d_Profile_init_193 (by decide) ?_
  refine lv_icmp_ne (tgt := 201) hx hb d_Profile_init_194 (by decide) (fun hc => ?_) (fun hc => ?_)
  · have hf := miff hf hc
    refine lv_iconst (v := 0) hx hb d_Profile_init_201 (by decide) ?_
    exact w_Profile_init_202 X G hN hq I hf hl
  · have hf := mift hf hc
    refine lv_iconst (v := 1) hx hb d_Profile_init_197 (by decide) ?_
    refine lv_goto (tgt := 202) hx hb d_Profile_init_198 (by decide) ?_
    exact w_Profile_init_202 X G hN hq I hf hl

set_option maxHeartbeats 4000000 in
set_option maxRecDepth 100000 in
theorem w_Profile_init_183 {h0 : Nat} {ws : Nat} {r : mM × Nat × Nat} (X : mX p m meth c s args b_Profile_init 6 none "ColourLinker$Profile") (G : mG D cA dA z0 s) (hN : meth.name = "<init>") {k : mM → Nat → Nat → (Option Nat) → Int32 → Option (mM × Nat × Nat)} {kx190 : mM → Nat → Nat → (Option Nat) → Option (mM × Nat × Nat)} (hk : ∀ (H : Heap) (locs : List Loc) (μ : mM) (z w : Nat) (ls : Array Slot) (x1 : Option Nat) (x3 : Int32), mq ws w z r.2.1 r.2.2 → mI D cA z0 s μ H locs z → k μ z w x1 x3 = some r → lv_has ls 6 [(0, va_rf (some h0)), (1, va_rf x1), (3, .int x3)] → W p l e (rm_Profile_init (r.2.1 - s.heap.size) (r.2.2 - ws)) s m args below meth c H locs (z - s.heap.size) (w - ws) (MQ below (mQN D cA z0 none r.1 r.2.1) args s (r.2.1 - s.heap.size) (r.2.2 - ws) (mA z0)) (F0 m 138 ls [])) (hkx190 : ∀ (H : Heap) (locs : List Loc) (μ : mM) (z w : Nat) (ls : Array Slot) (x1 : Option Nat), mq ws w z r.2.1 r.2.2 → mI D cA z0 s μ H locs z → kx190 μ z w x1 = some r → lv_has ls 6 [(0, va_rf (some h0)), (1, va_rf x1)] → W p l e (rm_Profile_init (r.2.1 - s.heap.size) (r.2.2 - ws)) s m args below meth c H locs (z - s.heap.size) (w - ws) (MQ below (mQN D cA z0 none r.1 r.2.1) args s (r.2.1 - s.heap.size) (r.2.2 - ws) (mA z0)) (F0 m 190 ls [])) {H : Heap} {locs : List Loc} {μ : mM} {z w : Nat} {ls : Array Slot} {x1 : Option Nat} {x3 : Int32} {s0 : Option Nat} {s1 : Int32} {s2 : Int32} (hq : mq ws w z r.2.1 r.2.2) (I : mI D cA z0 s μ H locs z) (hf : f_Profile_init_183 h0 k kx190 μ z w x1 x3 s0 s1 s2 = some r) (hl : lv_has ls 6 [(0, va_rf (some h0)), (1, va_rf x1), (3, .int x3)]) : W p l e (rm_Profile_init (r.2.1 - s.heap.size) (r.2.2 - ws)) s m args below meth c H locs (z - s.heap.size) (w - ws) (MQ below (mQN D cA z0 none r.1 r.2.1) args s (r.2.1 - s.heap.size) (r.2.2 - ws) (mA z0)) (F0 m 183 ls [.int s2, .int s1, va_rf s0]) := by
  have hx := X.ex
  have hb := X.by_
  unfold f_Profile_init_183 at hf
  obtain ⟨m33, hv, hf⟩ := mbind hf
  refine r_iast X G I hv d_Profile_init_183 (fun H locs I => ?_)
  refine lv_iinc (i := 3) (k := 2) (v := (x3 + (1 : Int32))) (lv' := [(3, .int (x3 + (1 : Int32))), (0, va_rf (some h0)), (1, va_rf x1)]) hx hb d_Profile_init_184 hl rfl (congrArg (fun t => x3 + t) (by decide : Int32.ofInt (1) = (1 : Int32))) (by decide) rfl (fun ls hl => ?_)
  refine lv_goto (tgt := 138) hx hb d_Profile_init_187 (by decide) ?_
  exact hk _ _ _ _ _ _ _ _ hq I hf (lv_sub hl [1, 2, 0] rfl)

set_option maxHeartbeats 4000000 in
set_option maxRecDepth 100000 in
theorem w_Profile_init_138 {h0 : Nat} {ws : Nat} {r : mM × Nat × Nat} (X : mX p m meth c s args b_Profile_init 6 none "ColourLinker$Profile") (G : mG D cA dA z0 s) (hN : meth.name = "<init>") {kx190 : mM → Nat → Nat → (Option Nat) → Option (mM × Nat × Nat)} (hkx190 : ∀ (H : Heap) (locs : List Loc) (μ : mM) (z w : Nat) (ls : Array Slot) (x1 : Option Nat), mq ws w z r.2.1 r.2.2 → mI D cA z0 s μ H locs z → kx190 μ z w x1 = some r → lv_has ls 6 [(0, va_rf (some h0)), (1, va_rf x1)] → W p l e (rm_Profile_init (r.2.1 - s.heap.size) (r.2.2 - ws)) s m args below meth c H locs (z - s.heap.size) (w - ws) (MQ below (mQN D cA z0 none r.1 r.2.1) args s (r.2.1 - s.heap.size) (r.2.2 - ws) (mA z0)) (F0 m 190 ls [])) : ∀ (n : Nat) (H : Heap) (locs : List Loc) (μ : mM) (z w : Nat) (ls : Array Slot) (x1 : Option Nat) (x3 : Int32), mq ws w z r.2.1 r.2.2 → mI D cA z0 s μ H locs z → f_Profile_init_138 h0 kx190 n μ z w x1 x3 = some r → lv_has ls 6 [(0, va_rf (some h0)), (1, va_rf x1), (3, .int x3)] → W p l e (rm_Profile_init (r.2.1 - s.heap.size) (r.2.2 - ws)) s m args below meth c H locs (z - s.heap.size) (w - ws) (MQ below (mQN D cA z0 none r.1 r.2.1) args s (r.2.1 - s.heap.size) (r.2.2 - ws) (mA z0)) (F0 m 138 ls []) := by
  have hx := X.ex
  have hb := X.by_
  intro n
  induction n with
  | zero => intro H locs μ z w ls x1 x3 hq I hf hl; rw [f_Profile_init_138] at hf; cases hf
  | succ n ih =>
    intro H locs μ z w ls x1 x3 hq I hf hl
    rw [f_Profile_init_138] at hf
    refine lv_iload_n hx hb d_Profile_init_138 rfl (lv_at hl 2 rfl) ?_
    refine lv_iconst (v := 3) hx hb d_Profile_init_139 (by decide) ?_
    refine lv_icmp_ge (tgt := 190) hx hb d_Profile_init_140 (by decide) (fun hc => ?_) (fun hc => ?_)
    · have hf := mift hf hc
      exact hkx190 _ _ _ _ _ _ _ hq I hf (lv_sub hl [0, 1] rfl)
    · have hf := miff hf hc
      refine r_aload_n X d_Profile_init_143 rfl (lv_at hl 0 rfl) ?_
      obtain ⟨v26, hv, hf⟩ := mbind hf
      refine r_getf X G I (mfA_e hv) o_Profile_white k_408 (Or.inl rfl) d_Profile_init_144 ?_
      refine lv_iload_n hx hb d_Profile_init_147 rfl (lv_at hl 2 rfl) ?_
      refine r_aload_n X d_Profile_init_148 rfl (lv_at hl 0 rfl) ?_
      obtain ⟨v27, hv, hf⟩ := mbind hf
      refine r_getf X G I (mfA_e hv) o_Profile_offsets k_400 (Or.inl rfl) d_Profile_init_149 ?_
      refine lv_bipush (v := 12) hx hb d_Profile_init_152 (by decide) ?_
      obtain ⟨v28, hv, hf⟩ := mbind hf
      refine r_iald X G I hv d_Profile_init_154 ?_
      refine lv_if_ne (tgt := 166) hx hb d_Profile_init_155 (by decide) (fun hc => ?_) (fun hc => ?_)
      · have hf := miff hf hc
        refine r_aload_n X d_Profile_init_166 rfl (lv_at hl 1 rfl) ?_
        refine r_aload_n X d_Profile_init_167 rfl (lv_at hl 0 rfl) ?_
        obtain ⟨v29, hv, hf⟩ := mbind hf
        refine r_getf X G I (mfA_e hv) o_Profile_offsets k_400 (Or.inl rfl) d_Profile_init_168 ?_
        refine lv_bipush (v := 12) hx hb d_Profile_init_171 (by decide) ?_
        obtain ⟨v30, hv, hf⟩ := mbind hf
        refine r_iald X G I hv d_Profile_init_173 ?_
        refine lv_iconst (v := 2) hx hb d_Profile_init_174 (by decide) ?_
        refine lv_iadd hx hb d_Profile_init_175 ?_
        refine lv_iconst (v := 2) hx hb d_Profile_init_176 (by decide) ?_
        refine lv_iload_n hx hb d_Profile_init_177 rfl (lv_at hl 2 rfl) ?_
        refine lv_imul hx hb d_Profile_init_178 ?_
        refine lv_iadd hx hb d_Profile_init_179 ?_
        obtain ⟨q31, hv, hf⟩ := mbind hf
        refine m_caR (m_runSN (As := [va_rf x1, .int ((v30 + (2 : Int32)) + ((2 : Int32) * x3))]) (rest := [.int x3, va_rf v26]) X G h_CL_wordAt k_309 (c_CL_wordAt hv) mPr_blind (m_pre G I) rfl rfl hl.1 (Nat.le_of_ble_eq_true rfl) rfl rfl ⟨Nat.le_of_ble_eq_true rfl, Nat.le_of_ble_eq_true rfl⟩ hq.rm d_Profile_init_180) ?_
        exact w_Profile_init_183 X G hN ih hkx190 hq I hf hl
      · have hf := mift hf hc
        refine r_getsN X G I k_307 rfl d_Profile_init_158 ?_
        refine lv_iload_n hx hb d_Profile_init_161 rfl (lv_at hl 2 rfl) ?_
        obtain ⟨v32, hv, hf⟩ := mbind hf
        refine r_ti X G I hv d_Profile_init_162 ?_
        refine lv_goto (tgt := 183) hx hb d_Profile_init_163 (by decide) ?_
        exact w_Profile_init_183 X G hN ih hkx190 hq I hf hl

set_option maxHeartbeats 4000000 in
set_option maxRecDepth 100000 in
theorem w_Profile_init_136 {h0 : Nat} {ws : Nat} {r : mM × Nat × Nat} (X : mX p m meth c s args b_Profile_init 6 none "ColourLinker$Profile") (G : mG D cA dA z0 s) (hN : meth.name = "<init>") {H : Heap} {locs : List Loc} {μ : mM} {z w : Nat} {ls : Array Slot} {x1 : Option Nat} (hq : mq ws w z r.2.1 r.2.2) (I : mI D cA z0 s μ H locs z) (hf : f_Profile_init_136 h0 μ z w x1 = some r) (hl : lv_has ls 6 [(0, va_rf (some h0)), (1, va_rf x1)]) : W p l e (rm_Profile_init (r.2.1 - s.heap.size) (r.2.2 - ws)) s m args below meth c H locs (z - s.heap.size) (w - ws) (MQ below (mQN D cA z0 none r.1 r.2.1) args s (r.2.1 - s.heap.size) (r.2.2 - ws) (mA z0)) (F0 m 136 ls []) := by
  have hx := X.ex
  have hb := X.by_
  unfold f_Profile_init_136 at hf
  refine lv_iconst (v := 0) hx hb d_Profile_init_136 (by decide) ?_
  refine lv_istore_n (i := 3) (lv' := [(3, .int (0 : Int32)), (0, va_rf (some h0)), (1, va_rf x1)]) hx hb d_Profile_init_137 rfl hl (by decide) rfl (fun ls hl => ?_)
  exact w_Profile_init_138 X G hN (fun H locs μ z w ls x1 hq I hf hl => w_Profile_init_190 X G hN hq I hf hl) 4096 _ _ _ _ _ _ _ _ hq I hf (lv_sub hl [1, 2, 0] rfl)

set_option maxHeartbeats 4000000 in
set_option maxRecDepth 100000 in
theorem w_Profile_init_129 {h0 : Nat} {ws : Nat} {r : mM × Nat × Nat} (X : mX p m meth c s args b_Profile_init 6 none "ColourLinker$Profile") (G : mG D cA dA z0 s) (hN : meth.name = "<init>") {k : mM → Nat → Nat → (Option Nat) → Int32 → Option (mM × Nat × Nat)} {kx136 : mM → Nat → Nat → (Option Nat) → Option (mM × Nat × Nat)} (hk : ∀ (H : Heap) (locs : List Loc) (μ : mM) (z w : Nat) (ls : Array Slot) (x1 : Option Nat) (x3 : Int32), mq ws w z r.2.1 r.2.2 → mI D cA z0 s μ H locs z → k μ z w x1 x3 = some r → lv_has ls 6 [(0, va_rf (some h0)), (1, va_rf x1), (3, .int x3)] → W p l e (rm_Profile_init (r.2.1 - s.heap.size) (r.2.2 - ws)) s m args below meth c H locs (z - s.heap.size) (w - ws) (MQ below (mQN D cA z0 none r.1 r.2.1) args s (r.2.1 - s.heap.size) (r.2.2 - ws) (mA z0)) (F0 m 92 ls [])) (hkx136 : ∀ (H : Heap) (locs : List Loc) (μ : mM) (z w : Nat) (ls : Array Slot) (x1 : Option Nat), mq ws w z r.2.1 r.2.2 → mI D cA z0 s μ H locs z → kx136 μ z w x1 = some r → lv_has ls 6 [(0, va_rf (some h0)), (1, va_rf x1)] → W p l e (rm_Profile_init (r.2.1 - s.heap.size) (r.2.2 - ws)) s m args below meth c H locs (z - s.heap.size) (w - ws) (MQ below (mQN D cA z0 none r.1 r.2.1) args s (r.2.1 - s.heap.size) (r.2.2 - ws) (mA z0)) (F0 m 136 ls [])) {H : Heap} {locs : List Loc} {μ : mM} {z w : Nat} {ls : Array Slot} {x1 : Option Nat} {x3 : Int32} {s0 : Option Nat} {s1 : Int32} {s2 : Option Nat} (hq : mq ws w z r.2.1 r.2.2) (I : mI D cA z0 s μ H locs z) (hf : f_Profile_init_129 h0 k kx136 μ z w x1 x3 s0 s1 s2 = some r) (hl : lv_has ls 6 [(0, va_rf (some h0)), (1, va_rf x1), (3, .int x3)]) : W p l e (rm_Profile_init (r.2.1 - s.heap.size) (r.2.2 - ws)) s m args below meth c H locs (z - s.heap.size) (w - ws) (MQ below (mQN D cA z0 none r.1 r.2.1) args s (r.2.1 - s.heap.size) (r.2.2 - ws) (mA z0)) (F0 m 129 ls [va_rf s2, .int s1, va_rf s0]) := by
  have hx := X.ex
  have hb := X.by_
  unfold f_Profile_init_129 at hf
  obtain ⟨m25, hv, hf⟩ := mbind hf
  refine r_aast X G I hv d_Profile_init_129 (fun H locs I => ?_)
  refine lv_iinc (i := 3) (k := 2) (v := (x3 + (1 : Int32))) (lv' := [(3, .int (x3 + (1 : Int32))), (0, va_rf (some h0)), (1, va_rf x1)]) hx hb d_Profile_init_130 hl rfl (congrArg (fun t => x3 + t) (by decide : Int32.ofInt (1) = (1 : Int32))) (by decide) rfl (fun ls hl => ?_)
  refine lv_goto (tgt := 92) hx hb d_Profile_init_133 (by decide) ?_
  exact hk _ _ _ _ _ _ _ _ hq I hf (lv_sub hl [1, 2, 0] rfl)

set_option maxHeartbeats 4000000 in
set_option maxRecDepth 100000 in
theorem w_Profile_init_92 {h0 : Nat} {ws : Nat} {r : mM × Nat × Nat} (X : mX p m meth c s args b_Profile_init 6 none "ColourLinker$Profile") (G : mG D cA dA z0 s) (hN : meth.name = "<init>") {kx136 : mM → Nat → Nat → (Option Nat) → Option (mM × Nat × Nat)} (hkx136 : ∀ (H : Heap) (locs : List Loc) (μ : mM) (z w : Nat) (ls : Array Slot) (x1 : Option Nat), mq ws w z r.2.1 r.2.2 → mI D cA z0 s μ H locs z → kx136 μ z w x1 = some r → lv_has ls 6 [(0, va_rf (some h0)), (1, va_rf x1)] → W p l e (rm_Profile_init (r.2.1 - s.heap.size) (r.2.2 - ws)) s m args below meth c H locs (z - s.heap.size) (w - ws) (MQ below (mQN D cA z0 none r.1 r.2.1) args s (r.2.1 - s.heap.size) (r.2.2 - ws) (mA z0)) (F0 m 136 ls [])) : ∀ (n : Nat) (H : Heap) (locs : List Loc) (μ : mM) (z w : Nat) (ls : Array Slot) (x1 : Option Nat) (x3 : Int32), mq ws w z r.2.1 r.2.2 → mI D cA z0 s μ H locs z → f_Profile_init_92 h0 kx136 n μ z w x1 x3 = some r → lv_has ls 6 [(0, va_rf (some h0)), (1, va_rf x1), (3, .int x3)] → W p l e (rm_Profile_init (r.2.1 - s.heap.size) (r.2.2 - ws)) s m args below meth c H locs (z - s.heap.size) (w - ws) (MQ below (mQN D cA z0 none r.1 r.2.1) args s (r.2.1 - s.heap.size) (r.2.2 - ws) (mA z0)) (F0 m 92 ls []) := by
  have hx := X.ex
  have hb := X.by_
  intro n
  induction n with
  | zero => intro H locs μ z w ls x1 x3 hq I hf hl; rw [f_Profile_init_92] at hf; cases hf
  | succ n ih =>
    intro H locs μ z w ls x1 x3 hq I hf hl
    rw [f_Profile_init_92] at hf
    refine lv_iload_n hx hb d_Profile_init_92 rfl (lv_at hl 2 rfl) ?_
    refine lv_iconst (v := 4) hx hb d_Profile_init_93 (by decide) ?_
    refine lv_icmp_gt (tgt := 136) hx hb d_Profile_init_94 (by decide) (fun hc => ?_) (fun hc => ?_)
    · have hf := mift hf hc
      exact hkx136 _ _ _ _ _ _ _ hq I hf (lv_sub hl [0, 1] rfl)
    · have hf := miff hf hc
      refine r_aload_n X d_Profile_init_97 rfl (lv_at hl 0 rfl) ?_
      obtain ⟨v18, hv, hf⟩ := mbind hf
      refine r_getf X G I (mfA_e hv) o_Profile_curves k_401 (Or.inl rfl) d_Profile_init_98 ?_
      refine lv_iload_n hx hb d_Profile_init_101 rfl (lv_at hl 2 rfl) ?_
      refine r_aload_n X d_Profile_init_102 rfl (lv_at hl 0 rfl) ?_
      obtain ⟨v19, hv, hf⟩ := mbind hf
      refine r_getf X G I (mfA_e hv) o_Profile_offsets k_400 (Or.inl rfl) d_Profile_init_103 ?_
      refine lv_iload_n hx hb d_Profile_init_106 rfl (lv_at hl 2 rfl) ?_
      obtain ⟨v20, hv, hf⟩ := mbind hf
      refine r_iald X G I hv d_Profile_init_107 ?_
      refine lv_if_ne (tgt := 115) hx hb d_Profile_init_108 (by decide) (fun hc => ?_) (fun hc => ?_)
      · have hf := miff hf hc
        obtain ⟨m21, hv, hf⟩ := mbind hf
        obtain ⟨hz1, hw1, hz2, hw2, hf⟩ := mmV_e hf
        refine r_new (N := 2) X G I hq.1 rfl rfl hv hz2 hw2 (C := "ColourLinker$Curve") (T := T_Curve) rfl (by decide +kernel) k_290 k_294 k_84 d_Profile_init_115 (fun H I => ?_)
        have hq := hq.up hw1 hz2 hw2
        refine lv_dup hx hb d_Profile_init_118 (mrf_cat _) ?_
        refine r_aload_n X d_Profile_init_119 rfl (lv_at hl 1 rfl) ?_
        refine r_aload_n X d_Profile_init_120 rfl (lv_at hl 0 rfl) ?_
        obtain ⟨v22, hv, hf⟩ := mbind hf
        refine r_getf X G I (mfA_e hv) o_Profile_offsets k_400 (Or.inl rfl) d_Profile_init_121 ?_
        refine lv_iload_n hx hb d_Profile_init_124 rfl (lv_at hl 2 rfl) ?_
        obtain ⟨v23, hv, hf⟩ := mbind hf
        refine r_iald X G I hv d_Profile_init_125 ?_
        obtain ⟨q24, hv, hf⟩ := mbind hf
        obtain ⟨hz1, hw1, hz2, hw2, hf⟩ := mmV_e hf
        have hrn := hq.rmN I hz1 hw1 hz2 hw2
        obtain ⟨a, ha, hv⟩ := mbind hv
        refine m_caNv (m_runI (As := [va_rf x1, .int v23]) (r := some z) (rest := [va_rf (some z), .int x3, va_rf v18]) X h_Curve_init k_295 (c_Curve_init hv) mPn_blind (m_preN G I) ha rfl rfl hl.1 (Nat.le_of_ble_eq_true rfl) rfl rfl ⟨Nat.le_of_ble_eq_true rfl, Nat.le_of_ble_eq_true rfl⟩ hrn d_Profile_init_126) I hq.1 hz1 hw1 (fun H locs I => ?_)
        have hq := hq.up hw1 hz2 hw2
        exact w_Profile_init_129 X G hN ih hkx136 hq I hf hl
      · have hf := mift hf hc
        refine r_null X d_Profile_init_111 ?_
        refine lv_goto (tgt := 129) hx hb d_Profile_init_112 (by decide) ?_
        exact w_Profile_init_129 X G hN ih hkx136 hq I hf hl

set_option maxHeartbeats 4000000 in
set_option maxRecDepth 100000 in
theorem w_Profile_init_90 {h0 : Nat} {ws : Nat} {r : mM × Nat × Nat} (X : mX p m meth c s args b_Profile_init 6 none "ColourLinker$Profile") (G : mG D cA dA z0 s) (hN : meth.name = "<init>") {H : Heap} {locs : List Loc} {μ : mM} {z w : Nat} {ls : Array Slot} {x1 : Option Nat} (hq : mq ws w z r.2.1 r.2.2) (I : mI D cA z0 s μ H locs z) (hf : f_Profile_init_90 h0 μ z w x1 = some r) (hl : lv_has ls 6 [(0, va_rf (some h0)), (1, va_rf x1)]) : W p l e (rm_Profile_init (r.2.1 - s.heap.size) (r.2.2 - ws)) s m args below meth c H locs (z - s.heap.size) (w - ws) (MQ below (mQN D cA z0 none r.1 r.2.1) args s (r.2.1 - s.heap.size) (r.2.2 - ws) (mA z0)) (F0 m 90 ls []) := by
  have hx := X.ex
  have hb := X.by_
  unfold f_Profile_init_90 at hf
  refine lv_iconst (v := 1) hx hb d_Profile_init_90 (by decide) ?_
  refine lv_istore_n (i := 3) (lv' := [(3, .int (1 : Int32)), (0, va_rf (some h0)), (1, va_rf x1)]) hx hb d_Profile_init_91 rfl hl (by decide) rfl (fun ls hl => ?_)
  exact w_Profile_init_92 X G hN (fun H locs μ z w ls x1 hq I hf hl => w_Profile_init_136 X G hN hq I hf hl) 4096 _ _ _ _ _ _ _ _ hq I hf (lv_sub hl [1, 2, 0] rfl)

set_option maxHeartbeats 4000000 in
set_option maxRecDepth 100000 in
theorem w_Profile_init_55 {h0 : Nat} {ws : Nat} {r : mM × Nat × Nat} (X : mX p m meth c s args b_Profile_init 6 none "ColourLinker$Profile") (G : mG D cA dA z0 s) (hN : meth.name = "<init>") {kx90 : mM → Nat → Nat → (Option Nat) → Option (mM × Nat × Nat)} (hkx90 : ∀ (H : Heap) (locs : List Loc) (μ : mM) (z w : Nat) (ls : Array Slot) (x1 : Option Nat), mq ws w z r.2.1 r.2.2 → mI D cA z0 s μ H locs z → kx90 μ z w x1 = some r → lv_has ls 6 [(0, va_rf (some h0)), (1, va_rf x1)] → W p l e (rm_Profile_init (r.2.1 - s.heap.size) (r.2.2 - ws)) s m args below meth c H locs (z - s.heap.size) (w - ws) (MQ below (mQN D cA z0 none r.1 r.2.1) args s (r.2.1 - s.heap.size) (r.2.2 - ws) (mA z0)) (F0 m 90 ls [])) : ∀ (n : Nat) (H : Heap) (locs : List Loc) (μ : mM) (z w : Nat) (ls : Array Slot) (x1 : Option Nat) (x3 : Int32), mq ws w z r.2.1 r.2.2 → mI D cA z0 s μ H locs z → f_Profile_init_55 h0 kx90 n μ z w x1 x3 = some r → lv_has ls 6 [(0, va_rf (some h0)), (1, va_rf x1), (3, .int x3)] → W p l e (rm_Profile_init (r.2.1 - s.heap.size) (r.2.2 - ws)) s m args below meth c H locs (z - s.heap.size) (w - ws) (MQ below (mQN D cA z0 none r.1 r.2.1) args s (r.2.1 - s.heap.size) (r.2.2 - ws) (mA z0)) (F0 m 55 ls []) := by
  have hx := X.ex
  have hb := X.by_
  intro n
  induction n with
  | zero => intro H locs μ z w ls x1 x3 hq I hf hl; rw [f_Profile_init_55] at hf; cases hf
  | succ n ih =>
    intro H locs μ z w ls x1 x3 hq I hf hl
    rw [f_Profile_init_55] at hf
    refine lv_iload_n hx hb d_Profile_init_55 rfl (lv_at hl 2 rfl) ?_
    refine r_aload_n X d_Profile_init_56 rfl (lv_at hl 1 rfl) ?_
    refine lv_bipush (v := 6) hx hb d_Profile_init_57 (by decide) ?_
    obtain ⟨v13, hv, hf⟩ := mbind hf
    refine r_iald X G I hv d_Profile_init_59 ?_
    refine lv_icmp_ge (tgt := 90) hx hb d_Profile_init_60 (by decide) (fun hc => ?_) (fun hc => ?_)
    · have hf := mift hf hc
      exact hkx90 _ _ _ _ _ _ _ hq I hf (lv_sub hl [0, 1] rfl)
    · have hf := miff hf hc
      refine r_aload_n X d_Profile_init_63 rfl (lv_at hl 0 rfl) ?_
      obtain ⟨v14, hv, hf⟩ := mbind hf
      refine r_getf X G I (mfA_e hv) o_Profile_offsets k_400 (Or.inl rfl) d_Profile_init_64 ?_
      refine r_aload_n X d_Profile_init_67 rfl (lv_at hl 1 rfl) ?_
      refine lv_bipush (v := 8) hx hb d_Profile_init_68 (by decide) ?_
      refine lv_iconst (v := 4) hx hb d_Profile_init_70 (by decide) ?_
      refine lv_iload_n hx hb d_Profile_init_71 rfl (lv_at hl 2 rfl) ?_
      refine lv_imul hx hb d_Profile_init_72 ?_
      refine lv_iadd hx hb d_Profile_init_73 ?_
      obtain ⟨v15, hv, hf⟩ := mbind hf
      refine r_iald X G I hv d_Profile_init_74 ?_
      refine r_aload_n X d_Profile_init_75 rfl (lv_at hl 1 rfl) ?_
      refine lv_bipush (v := 9) hx hb d_Profile_init_76 (by decide) ?_
      refine lv_iconst (v := 4) hx hb d_Profile_init_78 (by decide) ?_
      refine lv_iload_n hx hb d_Profile_init_79 rfl (lv_at hl 2 rfl) ?_
      refine lv_imul hx hb d_Profile_init_80 ?_
      refine lv_iadd hx hb d_Profile_init_81 ?_
      obtain ⟨v16, hv, hf⟩ := mbind hf
      refine r_iald X G I hv d_Profile_init_82 ?_
      obtain ⟨m17, hv, hf⟩ := mbind hf
      refine r_iast X G I hv d_Profile_init_83 (fun H locs I => ?_)
      refine lv_iinc (i := 3) (k := 2) (v := (x3 + (1 : Int32))) (lv' := [(3, .int (x3 + (1 : Int32))), (0, va_rf (some h0)), (1, va_rf x1)]) hx hb d_Profile_init_84 hl rfl (congrArg (fun t => x3 + t) (by decide : Int32.ofInt (1) = (1 : Int32))) (by decide) rfl (fun ls hl => ?_)
      refine lv_goto (tgt := 55) hx hb d_Profile_init_87 (by decide) ?_
      exact ih _ _ _ _ _ _ _ _ hq I hf (lv_sub hl [1, 2, 0] rfl)

set_option maxHeartbeats 4000000 in
set_option maxRecDepth 100000 in
theorem w_Profile_init {h0 : Nat} {ws : Nat} {r : mM × Nat × Nat} (X : mX p m meth c s args b_Profile_init 6 none "ColourLinker$Profile") (G : mG D cA dA z0 s) (hN : meth.name = "<init>") {H : Heap} {locs : List Loc} {μ : mM} {z w : Nat} {ls : Array Slot} {x1 : Option Nat} {x2 : Int32} (hw : ws ≤ w) (I : mI D cA z0 s μ H locs z) (hf : f_Profile_init h0 μ z w x1 x2 = some r) (hl : lv_has ls 6 [(0, va_rf (some h0)), (1, va_rf x1), (2, .int x2)]) : W p l e (rm_Profile_init (r.2.1 - s.heap.size) (r.2.2 - ws)) s m args below meth c H locs (z - s.heap.size) (w - ws) (MQ below (mQN D cA z0 none r.1 r.2.1) args s (r.2.1 - s.heap.size) (r.2.2 - ws) (mA z0)) (F0 m 0 ls []) := by
  have hx := X.ex
  have hb := X.by_
  unfold f_Profile_init at hf
  obtain ⟨-, -, hz2, hw2, hf⟩ := mmV_e hf
  have hq : mq ws w z r.2.1 r.2.2 := ⟨hw, hz2, hw2⟩
  refine r_aload_n X d_Profile_init_0 rfl (lv_at hl 0 rfl) ?_
  refine W.objInit hx hb X.ow (X.w k_289) (X.w k_97) (X.w k_98) rfl (by rw [X.ml]; exact hl.1) rfl d_Profile_init_1 (Nat.le_of_ble_eq_true rfl) (Nat.le_of_ble_eq_true rfl) ?_
  refine W.eq (g2 := F0 m 4 ls []) rfl ?_
  refine r_aload_n X d_Profile_init_4 rfl (lv_at hl 0 rfl) ?_
  refine lv_bipush (v := 13) hx hb d_Profile_init_5 (by decide) ?_
  obtain ⟨m1, hv, hf⟩ := mbind hf
  obtain ⟨hz1, hw1, hz2, hw2, hf⟩ := mmV_e hf
  refine r_newa (atype := .int) X G I hq.1 rfl rfl hv hz2 hw2 (Or.inl ⟨rfl, rfl⟩) k_113 d_Profile_init_7 (fun H I => ?_)
  have hq := hq.up hw1 hz2 hw2
  obtain ⟨m2, hv, hf⟩ := mbind hf
  refine r_putF (ty := (.array .int)) X G I hv o_Profile_offsets k_400 hN (by decide) (mn_nR _) (mn_fR _) d_Profile_init_9 (fun H locs I => ?_)
  refine r_aload_n X d_Profile_init_12 rfl (lv_at hl 0 rfl) ?_
  refine lv_iconst (v := 5) hx hb d_Profile_init_13 (by decide) ?_
  obtain ⟨m3, hv, hf⟩ := mbind hf
  obtain ⟨hz1, hw1, hz2, hw2, hf⟩ := mmV_e hf
  refine r_anew (k := 3) X G I hq.1 rfl rfl hv hz2 hw2 (by decide) rfl k_290 d_Profile_init_14 (fun H I => ?_)
  have hq := hq.up hw1 hz2 hw2
  obtain ⟨m4, hv, hf⟩ := mbind hf
  refine r_putF (ty := .array (.object "ColourLinker$Curve")) X G I hv o_Profile_curves k_401 hN (by decide) (mn_nR _) (mn_fR _) d_Profile_init_17 (fun H locs I => ?_)
  refine r_aload_n X d_Profile_init_20 rfl (lv_at hl 0 rfl) ?_
  refine lv_bipush (v := 13) hx hb d_Profile_init_21 (by decide) ?_
  obtain ⟨m5, hv, hf⟩ := mbind hf
  obtain ⟨hz1, hw1, hz2, hw2, hf⟩ := mmV_e hf
  refine r_anew (k := 4) X G I hq.1 rfl rfl hv hz2 hw2 (by decide) rfl k_292 d_Profile_init_23 (fun H I => ?_)
  have hq := hq.up hw1 hz2 hw2
  obtain ⟨m6, hv, hf⟩ := mbind hf
  refine r_putF (ty := .array (.object "ColourLinker$Grid")) X G I hv o_Profile_grids k_403 hN (by decide) (mn_nR _) (mn_fR _) d_Profile_init_26 (fun H locs I => ?_)
  refine r_aload_n X d_Profile_init_29 rfl (lv_at hl 0 rfl) ?_
  refine lv_iconst (v := 3) hx hb d_Profile_init_30 (by decide) ?_
  obtain ⟨m7, hv, hf⟩ := mbind hf
  obtain ⟨hz1, hw1, hz2, hw2, hf⟩ := mmV_e hf
  refine r_newa (atype := .int) X G I hq.1 rfl rfl hv hz2 hw2 (Or.inl ⟨rfl, rfl⟩) k_113 d_Profile_init_31 (fun H I => ?_)
  have hq := hq.up hw1 hz2 hw2
  obtain ⟨m8, hv, hf⟩ := mbind hf
  refine r_putF (ty := (.array .int)) X G I hv o_Profile_white k_408 hN (by decide) (mn_nR _) (mn_fR _) d_Profile_init_33 (fun H locs I => ?_)
  refine r_aload_n X d_Profile_init_36 rfl (lv_at hl 0 rfl) ?_
  refine lv_iconst (v := 3) hx hb d_Profile_init_37 (by decide) ?_
  obtain ⟨m9, hv, hf⟩ := mbind hf
  obtain ⟨hz1, hw1, hz2, hw2, hf⟩ := mmV_e hf
  refine r_newa (atype := .int) X G I hq.1 rfl rfl hv hz2 hw2 (Or.inl ⟨rfl, rfl⟩) k_113 d_Profile_init_38 (fun H I => ?_)
  have hq := hq.up hw1 hz2 hw2
  obtain ⟨m10, hv, hf⟩ := mbind hf
  refine r_putF (ty := (.array .int)) X G I hv o_Profile_blackLevels k_410 hN (by decide) (mn_nR _) (mn_fR _) d_Profile_init_40 (fun H locs I => ?_)
  refine r_aload_n X d_Profile_init_43 rfl (lv_at hl 0 rfl) ?_
  refine r_aload_n X d_Profile_init_44 rfl (lv_at hl 1 rfl) ?_
  obtain ⟨m11, hv, hf⟩ := mbind hf
  refine r_putF (ty := (.array .int)) X G I hv o_Profile_plain k_396 hN (by decide) (mn_nR _) (mn_fR _) d_Profile_init_45 (fun H locs I => ?_)
  refine r_aload_n X d_Profile_init_48 rfl (lv_at hl 0 rfl) ?_
  refine lv_iload_n hx hb d_Profile_init_49 rfl (lv_at hl 2 rfl) ?_
  obtain ⟨m12, hv, hf⟩ := mbind hf
  refine r_putF (ty := .int) X G I hv o_Profile_elementCount k_398 hN (by decide) rfl rfl d_Profile_init_50 (fun H locs I => ?_)
  refine lv_iconst (v := 0) hx hb d_Profile_init_53 (by decide) ?_
  refine lv_istore_n (i := 3) (lv' := [(3, .int (0 : Int32)), (0, va_rf (some h0)), (1, va_rf x1), (2, .int x2)]) hx hb d_Profile_init_54 rfl hl (by decide) rfl (fun ls hl => ?_)
  exact w_Profile_init_55 X G hN (fun H locs μ z w ls x1 hq I hf hl => w_Profile_init_90 X G hN hq I hf hl) 4096 _ _ _ _ _ _ _ _ hq I hf (lv_sub hl [1, 2, 0] rfl)

set_option maxHeartbeats 4000000 in
set_option maxRecDepth 100000 in
theorem c_Profile_init {l : Launch} {D : va_G} {cA : Nat → ClassId} {dA z0 : Nat} {μ : mM} {h0 : Nat} {z w : Nat} {x1 : Option Nat} {x2 : Int32} {r : mM × Nat × Nat} (hf : f_Profile_init h0 μ z w x1 x2 = some r) : Met l y_Profile_init (mW y_Profile_init b_Profile_init 6 none) (rm_Profile_init (r.2.1 - z) (r.2.2 - w)) (va_Pc [.ref h0, va_rf x1, .int x2] (mPn D cA dA z0 μ z)) (mQN D cA z0 none r.1 r.2.1) (r.2.1 - z) (r.2.2 - w) (mA z0) := by
  refine Met.ofW (cc := b_Profile_init) (maxL := 6) (ret := none) (by decide) rfl ?_
  intro p e s m args below meth c s₁ B hml hv
  obtain ⟨rfl, G, hP, rfl⟩ := hv
  have X := mX.of B hml
  have hN : meth.name = "<init>" := (name_of_methodNamed B.named B.method).1
  refine m_entry (lv := [(0, va_rf (some h0)), (1, va_rf x1), (2, .int x2)]) (by simp [lg_sl, mrf_cat, mc_int, mc_long, mc_ref]) (by simp [lv_args, mrf_cat, mc_int, mc_long, mc_ref, mrf_some]) (fun ls hl => ?_)
  have h := w_Profile_init (p := p) (l := l) (e := e) (below := below) X G hN (Nat.le_refl w) (mI.start hP) hf hl
  rw [Nat.sub_self s.heap.size, Nat.sub_self w] at h
  exact h

abbrev rm_Arrays_fill : Room := { frames := 0, cells := 0, slots := 0, locals := 0 }
theorem h_Arrays_fill : mCS y_Arrays_fill b_Arrays_fill 4 none 2 := ⟨k_440, k_82, ⟨by decide, by decide, by decide +kernel⟩, k_439⟩
set_option maxHeartbeats 4000000 in
set_option maxRecDepth 100000 in
theorem w_Arrays_fill_20 {r : mM} (X : mX p m meth c s args b_Arrays_fill 4 none "java/util/Arrays") (G : mG D cA dA z0 s) {H : Heap} {locs : List Loc} {μ : mM} {ls : Array Slot}  (I : mI D cA z0 s μ H locs s.heap.size) (hf : f_Arrays_fill_20 μ = some r) (hl : lv_has ls 4 []) : W p l e rm_Arrays_fill s m args below meth c H locs 0 0 (MQ below (mQW D cA z0 none r) args s 0 0 (mA z0)) (F0 m 20 ls []) := by
  have hx := X.ex
  have hb := X.by_
  unfold f_Arrays_fill_20 at hf
  obtain rfl := Option.some.inj hf
  exact r_vretW X I d_Arrays_fill_20

set_option maxHeartbeats 4000000 in
set_option maxRecDepth 100000 in
theorem w_Arrays_fill_5 {r : mM} (X : mX p m meth c s args b_Arrays_fill 4 none "java/util/Arrays") (G : mG D cA dA z0 s) {kx20 : mM → Option (mM)} (hkx20 : ∀ (H : Heap) (locs : List Loc) (μ : mM) (ls : Array Slot), mI D cA z0 s μ H locs s.heap.size → kx20 μ = some r → lv_has ls 4 [] → W p l e rm_Arrays_fill s m args below meth c H locs 0 0 (MQ below (mQW D cA z0 none r) args s 0 0 (mA z0)) (F0 m 20 ls [])) : ∀ (n : Nat) (H : Heap) (locs : List Loc) (μ : mM) (ls : Array Slot) (x0 : Option Nat) (x1 : Int32) (x2 : Int32) (x3 : Int32), mI D cA z0 s μ H locs s.heap.size → f_Arrays_fill_5 kx20 n μ x0 x1 x2 x3 = some r → lv_has ls 4 [(0, va_rf x0), (1, .int x1), (2, .int x2), (3, .int x3)] → W p l e rm_Arrays_fill s m args below meth c H locs 0 0 (MQ below (mQW D cA z0 none r) args s 0 0 (mA z0)) (F0 m 5 ls []) := by
  have hx := X.ex
  have hb := X.by_
  intro n
  induction n with
  | zero => intro H locs μ ls x0 x1 x2 x3 I hf hl; rw [f_Arrays_fill_5] at hf; cases hf
  | succ n ih =>
    intro H locs μ ls x0 x1 x2 x3 I hf hl
    rw [f_Arrays_fill_5] at hf
    refine lv_iload_n hx hb d_Arrays_fill_5 rfl (lv_at hl 2 rfl) ?_
    refine lv_iload_n hx hb d_Arrays_fill_6 rfl (lv_at hl 3 rfl) ?_
    refine lv_icmp_ge (tgt := 20) hx hb d_Arrays_fill_7 (by decide) (fun hc => ?_) (fun hc => ?_)
    · have hf := mift hf hc
      exact hkx20 _ _ _ _ I hf (lv_sub hl [] rfl)
    · have hf := miff hf hc
      refine r_aload_n X d_Arrays_fill_10 rfl (lv_at hl 0 rfl) ?_
      refine lv_iload_n hx hb d_Arrays_fill_11 rfl (lv_at hl 2 rfl) ?_
      refine lv_iload_n hx hb d_Arrays_fill_12 rfl (lv_at hl 1 rfl) ?_
      obtain ⟨m2, hv, hf⟩ := mbind hf
      refine r_iast X G I hv d_Arrays_fill_13 (fun H locs I => ?_)
      refine lv_iinc (i := 2) (k := 2) (v := (x2 + (1 : Int32))) (lv' := [(2, .int (x2 + (1 : Int32))), (0, va_rf x0), (1, .int x1), (3, .int x3)]) hx hb d_Arrays_fill_14 hl rfl (congrArg (fun t => x2 + t) (by decide : Int32.ofInt (1) = (1 : Int32))) (by decide) rfl (fun ls hl => ?_)
      refine lv_goto (tgt := 5) hx hb d_Arrays_fill_17 (by decide) ?_
      exact ih _ _ _ _ _ _ _ _ I hf (lv_sub hl [1, 2, 0, 3] rfl)

set_option maxHeartbeats 4000000 in
set_option maxRecDepth 100000 in
theorem w_Arrays_fill {r : mM} (X : mX p m meth c s args b_Arrays_fill 4 none "java/util/Arrays") (G : mG D cA dA z0 s) {H : Heap} {locs : List Loc} {μ : mM} {ls : Array Slot} {x0 : Option Nat} {x1 : Int32} (I : mI D cA z0 s μ H locs s.heap.size) (hf : f_Arrays_fill μ x0 x1 = some r) (hl : lv_has ls 4 [(0, va_rf x0), (1, .int x1)]) : W p l e rm_Arrays_fill s m args below meth c H locs 0 0 (MQ below (mQW D cA z0 none r) args s 0 0 (mA z0)) (F0 m 0 ls []) := by
  have hx := X.ex
  have hb := X.by_
  unfold f_Arrays_fill at hf
  refine lv_iconst (v := 0) hx hb d_Arrays_fill_0 (by decide) ?_
  refine lv_istore_n (i := 2) (lv' := [(2, .int (0 : Int32)), (0, va_rf x0), (1, .int x1)]) hx hb d_Arrays_fill_1 rfl hl (by decide) rfl (fun ls hl => ?_)
  refine r_aload_n X d_Arrays_fill_2 rfl (lv_at hl 1 rfl) ?_
  obtain ⟨v1, hv, hf⟩ := mbind hf
  refine r_alen X G I hv d_Arrays_fill_3 ?_
  refine lv_istore_n (i := 3) (lv' := [(3, .int v1), (2, .int (0 : Int32)), (0, va_rf x0), (1, .int x1)]) hx hb d_Arrays_fill_4 rfl hl (by decide) rfl (fun ls hl => ?_)
  exact w_Arrays_fill_5 X G (fun H locs μ ls I hf hl => w_Arrays_fill_20 X G I hf hl) 4096 _ _ _ _ _ _ _ _ I hf (lv_sub hl [2, 3, 1, 0] rfl)

set_option maxHeartbeats 4000000 in
set_option maxRecDepth 100000 in
theorem c_Arrays_fill {l : Launch} {D : va_G} {cA : Nat → ClassId} {dA z0 : Nat} {μ : mM} {x0 : Option Nat} {x1 : Int32} {r : mM} (hf : f_Arrays_fill μ x0 x1 = some r) : Met l y_Arrays_fill (mW y_Arrays_fill b_Arrays_fill 4 none) rm_Arrays_fill (va_Pc [va_rf x0, .int x1] (mPr D cA dA z0 μ)) (mQW D cA z0 none r) 0 0 (mA z0) := by
  refine Met.ofW (cc := b_Arrays_fill) (maxL := 4) (ret := none) (by decide) rfl ?_
  intro p e s m args below meth c s₁ B hml hv
  obtain ⟨rfl, G, hP⟩ := hv
  have X := mX.of B hml
  exact m_entry (lv := [(0, va_rf x0), (1, .int x1)]) (by simp [lg_sl, mrf_cat, mc_int, mc_long, mc_ref]) (by simp [lv_args, mrf_cat, mc_int, mc_long, mc_ref, mrf_some]) (fun ls hl => w_Arrays_fill X G (mI.start hP) hf hl)

abbrev rm_Profile_gridFor : Room := { frames := 0, cells := 0, slots := 0, locals := 0 }
theorem h_Profile_gridFor : mCV y_Profile_gridFor b_Profile_gridFor 5 (some (.object "ColourLinker$Grid")) 2 := ⟨k_448, k_80, ⟨by decide, by decide, by decide +kernel⟩, k_447, k_7⟩
set_option maxHeartbeats 4000000 in
set_option maxRecDepth 100000 in
theorem w_Profile_gridFor_50 {μ : mM} {h0 : Nat} {r : Option Nat} (X : mX p m meth c s args b_Profile_gridFor 5 (some (.object "ColourLinker$Grid")) "ColourLinker$Profile") (G : mG D cA dA z0 s) (I : mI D cA z0 s μ s.heap [] s.heap.size) {ls : Array Slot} {s0 : Option Nat} (hf : f_Profile_gridFor_50 μ h0 s0 = some r) (hl : lv_has ls 5 [(0, va_rf (some h0))]) : W p l e rm_Profile_gridFor s m args below meth c s.heap [] 0 0 (MQ below (mQR (some (va_rf r))) args s 0 0 (fun _ => False)) (F0 m 50 ls [va_rf s0]) := by
  have hx := X.ex
  have hb := X.by_
  unfold f_Profile_gridFor_50 at hf
  obtain rfl := Option.some.inj hf
  exact r_aretR X (Or.inl ⟨_, rfl⟩) d_Profile_gridFor_50

set_option maxHeartbeats 4000000 in
set_option maxRecDepth 100000 in
theorem w_Profile_gridFor_32 {μ : mM} {h0 : Nat} {r : Option Nat} (X : mX p m meth c s args b_Profile_gridFor 5 (some (.object "ColourLinker$Grid")) "ColourLinker$Profile") (G : mG D cA dA z0 s) (I : mI D cA z0 s μ s.heap [] s.heap.size) {ls : Array Slot} {x1 : Int32} {s0 : Option Nat} (hf : f_Profile_gridFor_32 μ h0 x1 s0 = some r) (hl : lv_has ls 5 [(0, va_rf (some h0)), (1, .int x1)]) : W p l e rm_Profile_gridFor s m args below meth c s.heap [] 0 0 (MQ below (mQR (some (va_rf r))) args s 0 0 (fun _ => False)) (F0 m 32 ls [va_rf s0]) := by
  have hx := X.ex
  have hb := X.by_
  unfold f_Profile_gridFor_32 at hf
  refine r_astore (i := 4) (lv' := [(4, va_rf s0), (0, va_rf (some h0)), (1, .int x1)]) X d_Profile_gridFor_32 hl (by decide) rfl (fun ls hl => ?_)
  refine r_aload X d_Profile_gridFor_34 (lv_at hl 0 rfl) ?_
  refine r_ifnull (tgt := 44) X d_Profile_gridFor_36 (by decide) (fun hc => ?_) (fun hc => ?_)
  · have hf := mift hf hc
    refine r_aload_n X d_Profile_gridFor_44 rfl (lv_at hl 1 rfl) ?_
    obtain ⟨v3, hv, hf⟩ := mbind hf
    refine r_getf X G I (mfA_e hv) o_Profile_grids k_403 (Or.inl rfl) d_Profile_gridFor_45 ?_
    refine lv_iload_n hx hb d_Profile_gridFor_48 rfl (lv_at hl 2 rfl) ?_
    obtain ⟨v4, hv, hf⟩ := mbind hf
    refine r_aald X G I hv d_Profile_gridFor_49 ?_
    exact w_Profile_gridFor_50 X G I hf (lv_sub hl [1] rfl)
  · have hf := miff hf hc
    refine r_aload X d_Profile_gridFor_39 (lv_at hl 0 rfl) ?_
    refine lv_goto (tgt := 50) hx hb d_Profile_gridFor_41 (by decide) ?_
    exact w_Profile_gridFor_50 X G I hf (lv_sub hl [1] rfl)

set_option maxHeartbeats 4000000 in
set_option maxRecDepth 100000 in
theorem w_Profile_gridFor_31 {μ : mM} {h0 : Nat} {r : Option Nat} (X : mX p m meth c s args b_Profile_gridFor 5 (some (.object "ColourLinker$Grid")) "ColourLinker$Profile") (G : mG D cA dA z0 s) (I : mI D cA z0 s μ s.heap [] s.heap.size) {ls : Array Slot} {x1 : Int32} (hf : f_Profile_gridFor_31 μ h0 x1 = some r) (hl : lv_has ls 5 [(0, va_rf (some h0)), (1, .int x1)]) : W p l e rm_Profile_gridFor s m args below meth c s.heap [] 0 0 (MQ below (mQR (some (va_rf r))) args s 0 0 (fun _ => False)) (F0 m 31 ls []) := by
  have hx := X.ex
  have hb := X.by_
  unfold f_Profile_gridFor_31 at hf
  refine r_null X d_Profile_gridFor_31 ?_
  exact w_Profile_gridFor_32 X G I hf hl

set_option maxHeartbeats 4000000 in
set_option maxRecDepth 100000 in
theorem w_Profile_gridFor_10 {μ : mM} {h0 : Nat} {r : Option Nat} (X : mX p m meth c s args b_Profile_gridFor 5 (some (.object "ColourLinker$Grid")) "ColourLinker$Profile") (G : mG D cA dA z0 s) (I : mI D cA z0 s μ s.heap [] s.heap.size) {ls : Array Slot} {x1 : Int32} {s0 : Int32} (hf : f_Profile_gridFor_10 μ h0 x1 s0 = some r) (hl : lv_has ls 5 [(0, va_rf (some h0)), (1, .int x1)]) : W p l e rm_Profile_gridFor s m args below meth c s.heap [] 0 0 (MQ below (mQR (some (va_rf r))) args s 0 0 (fun _ => False)) (F0 m 10 ls [.int s0]) := by
  have hx := X.ex
  have hb := X.by_
  unfold f_Profile_gridFor_10 at hf
  refine lv_istore_n (i := 3) (lv' := [(3, .int s0), (0, va_rf (some h0)), (1, .int x1)]) hx hb d_Profile_gridFor_10 rfl hl (by decide) rfl (fun ls hl => ?_)
  refine lv_iload_n hx hb d_Profile_gridFor_11 rfl (lv_at hl 0 rfl) ?_
  refine lv_if_lt (tgt := 31) hx hb d_Profile_gridFor_12 (by decide) (fun hc => ?_) (fun hc => ?_)
  · have hf := mift hf hc
    exact w_Profile_gridFor_31 X G I hf (lv_sub hl [1, 2] rfl)
  · have hf := miff hf hc
    refine lv_iload_n hx hb d_Profile_gridFor_15 rfl (lv_at hl 0 rfl) ?_
    refine lv_iconst (v := 3) hx hb d_Profile_gridFor_16 (by decide) ?_
    refine lv_icmp_ge (tgt := 31) hx hb d_Profile_gridFor_17 (by decide) (fun hc => ?_) (fun hc => ?_)
    · have hf := mift hf hc
      exact w_Profile_gridFor_31 X G I hf (lv_sub hl [1, 2] rfl)
    · have hf := miff hf hc
      refine r_aload_n X d_Profile_gridFor_20 rfl (lv_at hl 1 rfl) ?_
      obtain ⟨v1, hv, hf⟩ := mbind hf
      refine r_getf X G I (mfA_e hv) o_Profile_grids k_403 (Or.inl rfl) d_Profile_gridFor_21 ?_
      refine lv_iload_n hx hb d_Profile_gridFor_24 rfl (lv_at hl 2 rfl) ?_
      refine lv_iload_n hx hb d_Profile_gridFor_25 rfl (lv_at hl 0 rfl) ?_
      refine lv_iadd hx hb d_Profile_gridFor_26 ?_
      obtain ⟨v2, hv, hf⟩ := mbind hf
      refine r_aald X G I hv d_Profile_gridFor_27 ?_
      refine lv_goto (tgt := 32) hx hb d_Profile_gridFor_28 (by decide) ?_
      exact w_Profile_gridFor_32 X G I hf (lv_sub hl [1, 2] rfl)

set_option maxHeartbeats 4000000 in
set_option maxRecDepth 100000 in
theorem w_Profile_gridFor {μ : mM} {h0 : Nat} {r : Option Nat} (X : mX p m meth c s args b_Profile_gridFor 5 (some (.object "ColourLinker$Grid")) "ColourLinker$Profile") (G : mG D cA dA z0 s) (I : mI D cA z0 s μ s.heap [] s.heap.size) {ls : Array Slot} {x1 : Int32} {x2 : Int32} (hf : f_Profile_gridFor μ h0 x1 x2 = some r) (hl : lv_has ls 5 [(0, va_rf (some h0)), (1, .int x1), (2, .int x2)]) : W p l e rm_Profile_gridFor s m args below meth c s.heap [] 0 0 (MQ below (mQR (some (va_rf r))) args s 0 0 (fun _ => False)) (F0 m 0 ls []) := by
  have hx := X.ex
  have hb := X.by_
  unfold f_Profile_gridFor at hf
  refine lv_iload_n hx hb d_Profile_gridFor_0 rfl (lv_at hl 2 rfl) ?_
  refine lv_iconst (v := 3) hx hb d_Profile_gridFor_1 (by decide) ?_
  refine lv_icmp_ne (tgt := 9) hx hb d_Profile_gridFor_2 (by decide) (fun hc => ?_) (fun hc => ?_)
  · have hf := miff hf hc
    refine lv_iload_n hx hb d_Profile_gridFor_9 rfl (lv_at hl 2 rfl) ?_
    exact w_Profile_gridFor_10 X G I hf (lv_sub hl [0, 1] rfl)
  · have hf := mift hf hc
    refine lv_iconst (v := 1) hx hb d_Profile_gridFor_5 (by decide) ?_
    refine lv_goto (tgt := 10) hx hb d_Profile_gridFor_6 (by decide) ?_
    exact w_Profile_gridFor_10 X G I hf (lv_sub hl [0, 1] rfl)

set_option maxHeartbeats 4000000 in
set_option maxRecDepth 100000 in
theorem c_Profile_gridFor {l : Launch} {D : va_G} {cA : Nat → ClassId} {dA z0 : Nat} {μ : mM} {h0 : Nat} {x1 : Int32} {x2 : Int32} {r : Option Nat} (hf : f_Profile_gridFor μ h0 x1 x2 = some r) : Met l y_Profile_gridFor (mW y_Profile_gridFor b_Profile_gridFor 5 (some (.object "ColourLinker$Grid"))) rm_Profile_gridFor (va_Pc [.ref h0, .int x1, .int x2] (mPr D cA dA z0 μ)) (mQR (some (va_rf r))) 0 0 (fun _ => False) := by
  refine Met.ofW (cc := b_Profile_gridFor) (maxL := 5) (ret := (some (.object "ColourLinker$Grid"))) (by decide) rfl ?_
  intro p e s m args below meth c s₁ B hml hv
  obtain ⟨rfl, G, hP⟩ := hv
  have X := mX.of B hml
  exact m_entry (lv := [(0, va_rf (some h0)), (1, .int x1), (2, .int x2)]) (Nat.le_of_ble_eq_true rfl) rfl (fun ls hl => w_Profile_gridFor X G (mI.start hP) hf hl)

abbrev rm_Profile_forthPiece : Room := { frames := 1, cells := 0, slots := 0, locals := 24 }
theorem h_Profile_forthPiece : mCV y_Profile_forthPiece b_Profile_forthPiece 4 (some (.object "ColourLinker$Piece")) 2 := ⟨k_444, k_80, ⟨by decide, by decide, by decide +kernel⟩, k_442, k_443⟩
set_option maxHeartbeats 4000000 in
set_option maxRecDepth 100000 in
theorem w_Profile_forthPiece_37 {μ : mM} {h0 : Nat} {r : Option Nat} (X : mX p m meth c s args b_Profile_forthPiece 4 (some (.object "ColourLinker$Piece")) "ColourLinker$Profile") (G : mG D cA dA z0 s) (I : mI D cA z0 s μ s.heap [] s.heap.size) {ls : Array Slot} {s0 : Option Nat} (hf : f_Profile_forthPiece_37 μ h0 s0 = some r) (hl : lv_has ls 4 [(0, va_rf (some h0))]) : W p l e rm_Profile_forthPiece s m args below meth c s.heap [] 0 0 (MQ below (mQR (some (va_rf r))) args s 0 0 (fun _ => False)) (F0 m 37 ls [va_rf s0]) := by
  have hx := X.ex
  have hb := X.by_
  unfold f_Profile_forthPiece_37 at hf
  obtain rfl := Option.some.inj hf
  exact r_aretR X (Or.inl ⟨_, rfl⟩) d_Profile_forthPiece_37

set_option maxHeartbeats 4000000 in
set_option maxRecDepth 100000 in
theorem w_Profile_forthPiece_21 {μ : mM} {h0 : Nat} {r : Option Nat} (X : mX p m meth c s args b_Profile_forthPiece 4 (some (.object "ColourLinker$Piece")) "ColourLinker$Profile") (G : mG D cA dA z0 s) (I : mI D cA z0 s μ s.heap [] s.heap.size) {ls : Array Slot} {s0 : Option Nat} (hf : f_Profile_forthPiece_21 μ h0 s0 = some r) (hl : lv_has ls 4 [(0, va_rf (some h0))]) : W p l e rm_Profile_forthPiece s m args below meth c s.heap [] 0 0 (MQ below (mQR (some (va_rf r))) args s 0 0 (fun _ => False)) (F0 m 21 ls [va_rf s0]) := by
  have hx := X.ex
  have hb := X.by_
  unfold f_Profile_forthPiece_21 at hf
  obtain rfl := Option.some.inj hf
  exact r_aretR X (Or.inl ⟨_, rfl⟩) d_Profile_forthPiece_21

set_option maxHeartbeats 4000000 in
set_option maxRecDepth 100000 in
theorem w_Profile_forthPiece {μ : mM} {h0 : Nat} {r : Option Nat} (X : mX p m meth c s args b_Profile_forthPiece 4 (some (.object "ColourLinker$Piece")) "ColourLinker$Profile") (G : mG D cA dA z0 s) (I : mI D cA z0 s μ s.heap [] s.heap.size) {ls : Array Slot} {x1 : Int32} {x2 : Int32} (hf : f_Profile_forthPiece μ h0 x1 x2 = some r) (hl : lv_has ls 4 [(0, va_rf (some h0)), (1, .int x1), (2, .int x2)]) : W p l e rm_Profile_forthPiece s m args below meth c s.heap [] 0 0 (MQ below (mQR (some (va_rf r))) args s 0 0 (fun _ => False)) (F0 m 0 ls []) := by
  have hx := X.ex
  have hb := X.by_
  unfold f_Profile_forthPiece at hf
  refine r_aload_n X d_Profile_forthPiece_0 rfl (lv_at hl 0 rfl) ?_
  refine lv_bipush (v := 6) hx hb d_Profile_forthPiece_1 (by decide) ?_
  refine lv_iload_n hx hb d_Profile_forthPiece_3 rfl (lv_at hl 1 rfl) ?_
  obtain ⟨q1, hv, hf⟩ := mbind hf
  obtain ⟨a, ha, hv⟩ := mbind hv
  obtain ⟨ha, fs, hm⟩ := mrc_e ha
  refine m_caR (m_runV (As := [.int (6 : Int32), .int x1]) (r := some h0) (rest := []) X G I h_Profile_gridFor k_445 (c_Profile_gridFor hv) mPr_blind (m_pre G I) hm rfl ha rfl rfl hl.1 (Nat.le_of_ble_eq_true rfl) rfl rfl ⟨Nat.le_of_ble_eq_true rfl, Nat.le_of_ble_eq_true rfl⟩ ⟨Nat.le_refl _, Nat.le_refl _⟩ d_Profile_forthPiece_4) ?_
  refine r_astore_n (i := 3) (lv' := [(3, va_rf q1), (0, va_rf (some h0)), (1, .int x1), (2, .int x2)]) X d_Profile_forthPiece_7 rfl hl (by decide) rfl (fun ls hl => ?_)
  refine r_aload_n X d_Profile_forthPiece_8 rfl (lv_at hl 0 rfl) ?_
  refine r_ifnull (tgt := 22) X d_Profile_forthPiece_9 (by decide) (fun hc => ?_) (fun hc => ?_)
  · have hf := mift hf hc
    refine lv_iload_n hx hb d_Profile_forthPiece_22 rfl (lv_at hl 3 rfl) ?_
    refine lv_if_ne (tgt := 33) hx hb d_Profile_forthPiece_23 (by decide) (fun hc => ?_) (fun hc => ?_)
    · have hf := miff hf hc
      refine r_aload_n X d_Profile_forthPiece_33 rfl (lv_at hl 1 rfl) ?_
      obtain ⟨v2, hv, hf⟩ := mbind hf
      refine r_getf X G I (mfA_e hv) o_Profile_endForth k_405 (Or.inl rfl) d_Profile_forthPiece_34 ?_
      exact w_Profile_forthPiece_37 X G I hf (lv_sub hl [1] rfl)
    · have hf := mift hf hc
      refine r_aload_n X d_Profile_forthPiece_26 rfl (lv_at hl 1 rfl) ?_
      obtain ⟨v3, hv, hf⟩ := mbind hf
      refine r_getf X G I (mfA_e hv) o_Profile_curvesForth k_404 (Or.inl rfl) d_Profile_forthPiece_27 ?_
      refine lv_goto (tgt := 37) hx hb d_Profile_forthPiece_30 (by decide) ?_
      exact w_Profile_forthPiece_37 X G I hf (lv_sub hl [1] rfl)
  · have hf := miff hf hc
    refine lv_iload_n hx hb d_Profile_forthPiece_12 rfl (lv_at hl 3 rfl) ?_
    refine lv_if_ne (tgt := 20) hx hb d_Profile_forthPiece_13 (by decide) (fun hc => ?_) (fun hc => ?_)
    · have hf := miff hf hc
      refine r_null X d_Profile_forthPiece_20 ?_
      exact w_Profile_forthPiece_21 X G I hf (lv_sub hl [1] rfl)
    · have hf := mift hf hc
      refine r_aload_n X d_Profile_forthPiece_16 rfl (lv_at hl 0 rfl) ?_
      refine lv_goto (tgt := 21) hx hb d_Profile_forthPiece_17 (by decide) ?_
      exact w_Profile_forthPiece_21 X G I hf (lv_sub hl [1] rfl)

set_option maxHeartbeats 4000000 in
set_option maxRecDepth 100000 in
theorem c_Profile_forthPiece {l : Launch} {D : va_G} {cA : Nat → ClassId} {dA z0 : Nat} {μ : mM} {h0 : Nat} {x1 : Int32} {x2 : Int32} {r : Option Nat} (hf : f_Profile_forthPiece μ h0 x1 x2 = some r) : Met l y_Profile_forthPiece (mW y_Profile_forthPiece b_Profile_forthPiece 4 (some (.object "ColourLinker$Piece"))) rm_Profile_forthPiece (va_Pc [.ref h0, .int x1, .int x2] (mPr D cA dA z0 μ)) (mQR (some (va_rf r))) 0 0 (fun _ => False) := by
  refine Met.ofW (cc := b_Profile_forthPiece) (maxL := 4) (ret := (some (.object "ColourLinker$Piece"))) (by decide) rfl ?_
  intro p e s m args below meth c s₁ B hml hv
  obtain ⟨rfl, G, hP⟩ := hv
  have X := mX.of B hml
  exact m_entry (lv := [(0, va_rf (some h0)), (1, .int x1), (2, .int x2)]) (Nat.le_of_ble_eq_true rfl) rfl (fun ls hl => w_Profile_forthPiece X G (mI.start hP) hf hl)

end WK
