section WK
variable {p : Program} {l : Launch} {e : Env} {s : State} {m : MethodId} {args : Array Value} {below : List Frame} {meth : Method} {c : Code} {D : va_G} {cA : Nat → ClassId} {dA z0 : Nat}
abbrev rm_Gray_spread : Room := { frames := 2, cells := 0, slots := 0, locals := 52 }
theorem h_Gray_spread : mCV y_Gray_spread b_Gray_spread 5 none 1 := ⟨k_524, k_87, ⟨by decide, by decide, by decide +kernel⟩, k_523, k_13⟩
set_option maxHeartbeats 4000000 in
set_option maxRecDepth 100000 in
theorem w_Gray_spread_59 {h0 : Nat} {r : mM} (X : mX p m meth c s args b_Gray_spread 5 none "ColourLinker$Gray") (G : mG D cA dA z0 s) {H : Heap} {locs : List Loc} {μ : mM} {ls : Array Slot}  (I : mI D cA z0 s μ H locs s.heap.size) (hf : f_Gray_spread_59 h0 μ = some r) (hl : lv_has ls 5 [(0, va_rf (some h0))]) : W p l e rm_Gray_spread s m args below meth c H locs 0 0 (MQ below (mQW D cA z0 none r) args s 0 0 (mA z0)) (F0 m 59 ls []) := by
  have hx := X.ex
  have hb := X.by_
  unfold f_Gray_spread_59 at hf
  obtain rfl := Option.some.inj hf
  exact r_vretW X I d_Gray_spread_59

set_option maxHeartbeats 4000000 in
set_option maxRecDepth 100000 in
theorem w_Gray_spread_27 {h0 : Nat} {r : mM} (X : mX p m meth c s args b_Gray_spread 5 none "ColourLinker$Gray") (G : mG D cA dA z0 s) {kx59 : mM → Option (mM)} (hkx59 : ∀ (H : Heap) (locs : List Loc) (μ : mM) (ls : Array Slot), mI D cA z0 s μ H locs s.heap.size → kx59 μ = some r → lv_has ls 5 [(0, va_rf (some h0))] → W p l e rm_Gray_spread s m args below meth c H locs 0 0 (MQ below (mQW D cA z0 none r) args s 0 0 (mA z0)) (F0 m 59 ls [])) : ∀ (n : Nat) (H : Heap) (locs : List Loc) (μ : mM) (ls : Array Slot) (x1 : Option Nat) (x2 : Int64) (x4 : Int32), mI D cA z0 s μ H locs s.heap.size → f_Gray_spread_27 h0 kx59 n μ x1 x2 x4 = some r → lv_has ls 5 [(0, va_rf (some h0)), (1, va_rf x1), (2, .long x2), (4, .int x4)] → W p l e rm_Gray_spread s m args below meth c H locs 0 0 (MQ below (mQW D cA z0 none r) args s 0 0 (mA z0)) (F0 m 27 ls []) := by
  have hx := X.ex
  have hb := X.by_
  intro n
  induction n with
  | zero => intro H locs μ ls x1 x2 x4 I hf hl; rw [f_Gray_spread_27] at hf; cases hf
  | succ n ih =>
    intro H locs μ ls x1 x2 x4 I hf hl
    rw [f_Gray_spread_27] at hf
    refine lv_iload hx hb d_Gray_spread_27 (lv_at hl 3 rfl) ?_
    refine lv_iconst (v := 3) hx hb d_Gray_spread_29 (by decide) ?_
    refine lv_icmp_ge (tgt := 59) hx hb d_Gray_spread_30 (by decide) (fun hc => ?_) (fun hc => ?_)
    · have hf := mift hf hc
      exact hkx59 _ _ _ _ I hf (lv_sub hl [0] rfl)
    · have hf := miff hf hc
      refine r_aload_n X d_Gray_spread_33 rfl (lv_at hl 1 rfl) ?_
      refine lv_iload hx hb d_Gray_spread_34 (lv_at hl 3 rfl) ?_
      refine r_getsN X G I k_526 rfl d_Gray_spread_36 ?_
      refine lv_iload hx hb d_Gray_spread_39 (lv_at hl 3 rfl) ?_
      obtain ⟨v5, hv, hf⟩ := mbind hf
      refine r_ti X G I hv d_Gray_spread_41 ?_
      refine lv_i2l hx hb d_Gray_spread_42 rfl ?_
      refine lv_lload_n hx hb d_Gray_spread_43 rfl (lv_at hl 2 rfl) ?_
      refine lv_lmul hx hb d_Gray_spread_44 ?_
      refine lv_ldc2 (v := 65535) hx hb X.ow (X.w k_527) d_Gray_spread_45 ?_
      obtain ⟨q6, hv, hf⟩ := mbind hf
      refine m_caR (m_runSN (As := [.long ((v5).toInt64 * x2), .long (65535 : Int64)]) (rest := [.int x4, va_rf x1]) X G h_CL_nearest k_528 (c_CL_nearest hv) mPr_blind (m_pre G I) rfl rfl hl.1 (Nat.le_of_ble_eq_true rfl) rfl rfl ⟨Nat.le_of_ble_eq_true rfl, Nat.le_of_ble_eq_true rfl⟩ ⟨Nat.le_refl _, Nat.le_refl _⟩ d_Gray_spread_48) ?_
      refine lv_l2i hx hb d_Gray_spread_51 rfl ?_
      obtain ⟨m7, hv, hf⟩ := mbind hf
      refine r_iast X G I hv d_Gray_spread_52 (fun H locs I => ?_)
      refine lv_iinc (i := 4) (k := 3) (v := (x4 + (1 : Int32))) (lv' := [(4, .int (x4 + (1 : Int32))), (0, va_rf (some h0)), (1, va_rf x1), (2, .long x2)]) hx hb d_Gray_spread_53 hl rfl (congrArg (fun t => x4 + t) (by decide : Int32.ofInt (1) = (1 : Int32))) (by decide) rfl (fun ls hl => ?_)
      refine lv_goto (tgt := 27) hx hb d_Gray_spread_56 (by decide) ?_
      exact ih _ _ _ _ _ _ _ I hf (lv_sub hl [1, 2, 3, 0] rfl)

set_option maxHeartbeats 4000000 in
set_option maxRecDepth 100000 in
theorem w_Gray_spread {h0 : Nat} {r : mM} (X : mX p m meth c s args b_Gray_spread 5 none "ColourLinker$Gray") (G : mG D cA dA z0 s) {H : Heap} {locs : List Loc} {μ : mM} {ls : Array Slot} {x1 : Option Nat} (I : mI D cA z0 s μ H locs s.heap.size) (hf : f_Gray_spread h0 μ x1 = some r) (hl : lv_has ls 5 [(0, va_rf (some h0)), (1, va_rf x1)]) : W p l e rm_Gray_spread s m args below meth c H locs 0 0 (MQ below (mQW D cA z0 none r) args s 0 0 (mA z0)) (F0 m 0 ls []) := by
  have hx := X.ex
  have hb := X.by_
  unfold f_Gray_spread at hf
  refine r_aload_n X d_Gray_spread_0 rfl (lv_at hl 1 rfl) ?_
  refine lv_iconst (v := 0) hx hb d_Gray_spread_1 (by decide) ?_
  obtain ⟨v1, hv, hf⟩ := mbind hf
  refine r_iald X G I hv d_Gray_spread_2 ?_
  refine lv_i2l hx hb d_Gray_spread_3 rfl ?_
  refine lv_lstore_n (i := 2) (lv' := [(2, .long ((v1).toInt64)), (0, va_rf (some h0)), (1, va_rf x1)]) hx hb d_Gray_spread_4 rfl hl (by decide) (by simp [mrf_cat]) (fun ls hl => ?_)
  refine r_aload_n X d_Gray_spread_5 rfl (lv_at hl 1 rfl) ?_
  obtain ⟨v2, hv, hf⟩ := mbind hf
  refine r_getf X G I (mfI_e hv) o_Gray_space k_355 (Or.inl rfl) d_Gray_spread_6 ?_
  refine lv_iconst (v := 1) hx hb d_Gray_spread_9 (by decide) ?_
  refine lv_icmp_ne (tgt := 24) hx hb d_Gray_spread_10 (by decide) (fun hc => ?_) (fun hc => ?_)
  · have hf := miff hf hc
    refine lv_iconst (v := 0) hx hb d_Gray_spread_24 (by decide) ?_
    refine lv_istore (i := 4) (lv' := [(4, .int (0 : Int32)), (2, .long ((v1).toInt64)), (0, va_rf (some h0)), (1, va_rf x1)]) hx hb d_Gray_spread_25 hl (by decide) rfl (fun ls hl => ?_)
    exact w_Gray_spread_27 X G (fun H locs μ ls I hf hl => w_Gray_spread_59 X G I hf hl) 4096 _ _ _ _ _ _ _ I hf (lv_sub hl [2, 3, 1, 0] rfl)
  · have hf := mift hf hc
    refine r_aload_n X d_Gray_spread_13 rfl (lv_at hl 2 rfl) ?_
    refine lv_iconst (v := 1) hx hb d_Gray_spread_14 (by decide) ?_
    refine lv_ldc (v := 32896) hx hb X.ow (X.w k_525) d_Gray_spread_15 ?_
    obtain ⟨m3, hv, hf⟩ := mbind hf
    refine r_iast X G I hv d_Gray_spread_17 (fun H locs I => ?_)
    refine r_aload_n X d_Gray_spread_18 rfl (lv_at hl 2 rfl) ?_
    refine lv_iconst (v := 2) hx hb d_Gray_spread_19 (by decide) ?_
    refine lv_ldc (v := 32896) hx hb X.ow (X.w k_525) d_Gray_spread_20 ?_
    obtain ⟨m4, hv, hf⟩ := mbind hf
    refine r_iast X G I hv d_Gray_spread_22 (fun H locs I => ?_)
    obtain rfl := Option.some.inj hf
    exact r_vretW X I d_Gray_spread_23

set_option maxHeartbeats 4000000 in
set_option maxRecDepth 100000 in
theorem c_Gray_spread {l : Launch} {D : va_G} {cA : Nat → ClassId} {dA z0 : Nat} {μ : mM} {h0 : Nat} {x1 : Option Nat} {r : mM} (hf : f_Gray_spread h0 μ x1 = some r) : Met l y_Gray_spread (mW y_Gray_spread b_Gray_spread 5 none) rm_Gray_spread (va_Pc [.ref h0, va_rf x1] (mPr D cA dA z0 μ)) (mQW D cA z0 none r) 0 0 (mA z0) := by
  refine Met.ofW (cc := b_Gray_spread) (maxL := 5) (ret := none) (by decide) rfl ?_
  intro p e s m args below meth c s₁ B hml hv
  obtain ⟨rfl, G, hP⟩ := hv
  have X := mX.of B hml
  exact m_entry (lv := [(0, va_rf (some h0)), (1, va_rf x1)]) (by simp [lg_sl, mrf_cat, mc_int, mc_long, mc_ref]) (by simp [lv_args, mrf_cat, mc_int, mc_long, mc_ref, mrf_some]) (fun ls hl => w_Gray_spread X G (mI.start hP) hf hl)

abbrev rm_Gray_gather : Room := { frames := 2, cells := 0, slots := 0, locals := 52 }
theorem h_Gray_gather : mCV y_Gray_gather b_Gray_gather 2 none 1 := ⟨k_532, k_87, ⟨by decide, by decide, by decide +kernel⟩, k_531, k_14⟩
set_option maxHeartbeats 4000000 in
set_option maxRecDepth 100000 in
theorem w_Gray_gather_27 {h0 : Nat} {r : mM} (X : mX p m meth c s args b_Gray_gather 2 none "ColourLinker$Gray") (G : mG D cA dA z0 s) {H : Heap} {locs : List Loc} {μ : mM} {ls : Array Slot} {x1 : Option Nat} (I : mI D cA z0 s μ H locs s.heap.size) (hf : f_Gray_gather_27 h0 μ x1 = some r) (hl : lv_has ls 2 [(0, va_rf (some h0)), (1, va_rf x1)]) : W p l e rm_Gray_gather s m args below meth c H locs 0 0 (MQ below (mQW D cA z0 none r) args s 0 0 (mA z0)) (F0 m 27 ls []) := by
  have hx := X.ex
  have hb := X.by_
  unfold f_Gray_gather_27 at hf
  refine r_aload_n X d_Gray_gather_27 rfl (lv_at hl 1 rfl) ?_
  refine lv_iconst (v := 1) hx hb d_Gray_gather_28 (by decide) ?_
  refine lv_iconst (v := 0) hx hb d_Gray_gather_29 (by decide) ?_
  obtain ⟨m6, hv, hf⟩ := mbind hf
  refine r_iast X G I hv d_Gray_gather_30 (fun H locs I => ?_)
  refine r_aload_n X d_Gray_gather_31 rfl (lv_at hl 1 rfl) ?_
  refine lv_iconst (v := 2) hx hb d_Gray_gather_32 (by decide) ?_
  refine lv_iconst (v := 0) hx hb d_Gray_gather_33 (by decide) ?_
  obtain ⟨m7, hv, hf⟩ := mbind hf
  refine r_iast X G I hv d_Gray_gather_34 (fun H locs I => ?_)
  obtain rfl := Option.some.inj hf
  exact r_vretW X I d_Gray_gather_35

set_option maxHeartbeats 4000000 in
set_option maxRecDepth 100000 in
theorem w_Gray_gather {h0 : Nat} {r : mM} (X : mX p m meth c s args b_Gray_gather 2 none "ColourLinker$Gray") (G : mG D cA dA z0 s) {H : Heap} {locs : List Loc} {μ : mM} {ls : Array Slot} {x1 : Option Nat} (I : mI D cA z0 s μ H locs s.heap.size) (hf : f_Gray_gather h0 μ x1 = some r) (hl : lv_has ls 2 [(0, va_rf (some h0)), (1, va_rf x1)]) : W p l e rm_Gray_gather s m args below meth c H locs 0 0 (MQ below (mQW D cA z0 none r) args s 0 0 (mA z0)) (F0 m 0 ls []) := by
  have hx := X.ex
  have hb := X.by_
  unfold f_Gray_gather at hf
  refine r_aload_n X d_Gray_gather_0 rfl (lv_at hl 0 rfl) ?_
  obtain ⟨v1, hv, hf⟩ := mbind hf
  refine r_getf X G I (mfI_e hv) o_Gray_space k_355 (Or.inl rfl) d_Gray_gather_1 ?_
  refine lv_if_ne (tgt := 27) hx hb d_Gray_gather_4 (by decide) (fun hc => ?_) (fun hc => ?_)
  · have hf := miff hf hc
    exact w_Gray_gather_27 X G I hf hl
  · have hf := mift hf hc
    refine r_aload_n X d_Gray_gather_7 rfl (lv_at hl 1 rfl) ?_
    refine lv_iconst (v := 0) hx hb d_Gray_gather_8 (by decide) ?_
    refine lv_ldc2 (v := 65535) hx hb X.ow (X.w k_527) d_Gray_gather_9 ?_
    refine r_aload_n X d_Gray_gather_12 rfl (lv_at hl 1 rfl) ?_
    refine lv_iconst (v := 1) hx hb d_Gray_gather_13 (by decide) ?_
    obtain ⟨v2, hv, hf⟩ := mbind hf
    refine r_iald X G I hv d_Gray_gather_14 ?_
    refine lv_i2l hx hb d_Gray_gather_15 rfl ?_
    refine lv_lmul hx hb d_Gray_gather_16 ?_
    refine lv_ldc2 (v := 32768) hx hb X.ow (X.w k_533) d_Gray_gather_17 ?_
    obtain ⟨q3, hv, hf⟩ := mbind hf
    refine m_caR (m_runSN (As := [.long ((65535 : Int64) * (v2).toInt64), .long (32768 : Int64)]) (rest := [.int (0 : Int32), va_rf x1]) X G h_CL_nearest k_528 (c_CL_nearest hv) mPr_blind (m_pre G I) rfl rfl hl.1 (Nat.le_of_ble_eq_true rfl) rfl rfl ⟨Nat.le_of_ble_eq_true rfl, Nat.le_of_ble_eq_true rfl⟩ ⟨Nat.le_refl _, Nat.le_refl _⟩ d_Gray_gather_20) ?_
    obtain ⟨q4, hv, hf⟩ := mbind hf
    refine m_caR (m_runSN (As := [.long q3]) (rest := [.int (0 : Int32), va_rf x1]) X G h_CL_clip k_534 (c_CL_clip hv) mPr_blind (m_pre G I) rfl rfl hl.1 (Nat.le_of_ble_eq_true rfl) rfl rfl ⟨Nat.le_of_ble_eq_true rfl, Nat.le_of_ble_eq_true rfl⟩ ⟨Nat.le_refl _, Nat.le_refl _⟩ d_Gray_gather_23) ?_
    obtain ⟨m5, hv, hf⟩ := mbind hf
    refine r_iast X G I hv d_Gray_gather_26 (fun H locs I => ?_)
    exact w_Gray_gather_27 X G I hf hl

set_option maxHeartbeats 4000000 in
set_option maxRecDepth 100000 in
theorem c_Gray_gather {l : Launch} {D : va_G} {cA : Nat → ClassId} {dA z0 : Nat} {μ : mM} {h0 : Nat} {x1 : Option Nat} {r : mM} (hf : f_Gray_gather h0 μ x1 = some r) : Met l y_Gray_gather (mW y_Gray_gather b_Gray_gather 2 none) rm_Gray_gather (va_Pc [.ref h0, va_rf x1] (mPr D cA dA z0 μ)) (mQW D cA z0 none r) 0 0 (mA z0) := by
  refine Met.ofW (cc := b_Gray_gather) (maxL := 2) (ret := none) (by decide) rfl ?_
  intro p e s m args below meth c s₁ B hml hv
  obtain ⟨rfl, G, hP⟩ := hv
  have X := mX.of B hml
  exact m_entry (lv := [(0, va_rf (some h0)), (1, va_rf x1)]) (by simp [lg_sl, mrf_cat, mc_int, mc_long, mc_ref]) (by simp [lv_args, mrf_cat, mc_int, mc_long, mc_ref, mrf_some]) (fun ls hl => w_Gray_gather X G (mI.start hP) hf hl)

abbrev rm_Gray_run : Room := { frames := 3, cells := 0, slots := 0, locals := 76 }
-- no selects word for Gray_run
set_option maxHeartbeats 4000000 in
set_option maxRecDepth 100000 in
theorem w_Gray_run_21 {h0 : Nat} {r : mM} (X : mX p m meth c s args b_Gray_run 2 none "ColourLinker$Gray") (G : mG D cA dA z0 s) {H : Heap} {locs : List Loc} {μ : mM} {ls : Array Slot}  (I : mI D cA z0 s μ H locs s.heap.size) (hf : f_Gray_run_21 h0 μ = some r) (hl : lv_has ls 2 [(0, va_rf (some h0))]) : W p l e rm_Gray_run s m args below meth c H locs 0 0 (MQ below (mQW D cA z0 none r) args s 0 0 (mA z0)) (F0 m 21 ls []) := by
  have hx := X.ex
  have hb := X.by_
  unfold f_Gray_run_21 at hf
  obtain rfl := Option.some.inj hf
  exact r_vretW X I d_Gray_run_21

set_option maxHeartbeats 4000000 in
set_option maxRecDepth 100000 in
theorem w_Gray_run {h0 : Nat} {r : mM} (X : mX p m meth c s args b_Gray_run 2 none "ColourLinker$Gray") (G : mG D cA dA z0 s) {H : Heap} {locs : List Loc} {μ : mM} {ls : Array Slot} {x1 : Option Nat} (I : mI D cA z0 s μ H locs s.heap.size) (hf : f_Gray_run h0 μ x1 = some r) (hl : lv_has ls 2 [(0, va_rf (some h0)), (1, va_rf x1)]) : W p l e rm_Gray_run s m args below meth c H locs 0 0 (MQ below (mQW D cA z0 none r) args s 0 0 (mA z0)) (F0 m 0 ls []) := by
  have hx := X.ex
  have hb := X.by_
  unfold f_Gray_run at hf
  refine r_aload_n X d_Gray_run_0 rfl (lv_at hl 0 rfl) ?_
  obtain ⟨v1, hv, hf⟩ := mbind hf
  refine r_getf X G I (mfI_e hv) o_Piece_kind_3 k_128 (Or.inr k_129) d_Gray_run_1 ?_
  refine lv_iconst (v := 4) hx hb d_Gray_run_4 (by decide) ?_
  refine lv_icmp_ne (tgt := 16) hx hb d_Gray_run_5 (by decide) (fun hc => ?_) (fun hc => ?_)
  · have hf := miff hf hc
    refine r_aload_n X d_Gray_run_16 rfl (lv_at hl 0 rfl) ?_
    refine r_aload_n X d_Gray_run_17 rfl (lv_at hl 1 rfl) ?_
    obtain ⟨q2, hv, hf⟩ := mbind hf
    obtain ⟨a, ha, hv⟩ := mbind hv
    obtain ⟨ha, fs, hm⟩ := mrc_e ha
    refine m_caWv (m_runV (As := [va_rf x1]) (r := some h0) (rest := []) X G I h_Gray_gather k_529 (c_Gray_gather hv) mPr_blind (m_pre G I) hm rfl ha rfl rfl hl.1 (Nat.le_of_ble_eq_true rfl) rfl rfl ⟨Nat.le_of_ble_eq_true rfl, Nat.le_of_ble_eq_true rfl⟩ ⟨Nat.le_refl _, Nat.le_refl _⟩ d_Gray_run_18) I (fun H locs I => ?_)
    exact w_Gray_run_21 X G I hf (lv_sub hl [0] rfl)
  · have hf := mift hf hc
    refine r_aload_n X d_Gray_run_8 rfl (lv_at hl 0 rfl) ?_
    refine r_aload_n X d_Gray_run_9 rfl (lv_at hl 1 rfl) ?_
    obtain ⟨q3, hv, hf⟩ := mbind hf
    obtain ⟨a, ha, hv⟩ := mbind hv
    obtain ⟨ha, fs, hm⟩ := mrc_e ha
    refine m_caWv (m_runV (As := [va_rf x1]) (r := some h0) (rest := []) X G I h_Gray_spread k_521 (c_Gray_spread hv) mPr_blind (m_pre G I) hm rfl ha rfl rfl hl.1 (Nat.le_of_ble_eq_true rfl) rfl rfl ⟨Nat.le_of_ble_eq_true rfl, Nat.le_of_ble_eq_true rfl⟩ ⟨Nat.le_refl _, Nat.le_refl _⟩ d_Gray_run_10) I (fun H locs I => ?_)
    refine lv_goto (tgt := 21) hx hb d_Gray_run_13 (by decide) ?_
    exact w_Gray_run_21 X G I hf (lv_sub hl [0] rfl)

set_option maxHeartbeats 4000000 in
set_option maxRecDepth 100000 in
theorem c_Gray_run {l : Launch} {D : va_G} {cA : Nat → ClassId} {dA z0 : Nat} {μ : mM} {h0 : Nat} {x1 : Option Nat} {r : mM} (hf : f_Gray_run h0 μ x1 = some r) : Met l y_Gray_run (mW y_Gray_run b_Gray_run 2 none) rm_Gray_run (va_Pc [.ref h0, va_rf x1] (mPr D cA dA z0 μ)) (mQW D cA z0 none r) 0 0 (mA z0) := by
  refine Met.ofW (cc := b_Gray_run) (maxL := 2) (ret := none) (by decide) rfl ?_
  intro p e s m args below meth c s₁ B hml hv
  obtain ⟨rfl, G, hP⟩ := hv
  have X := mX.of B hml
  exact m_entry (lv := [(0, va_rf (some h0)), (1, va_rf x1)]) (by simp [lg_sl, mrf_cat, mc_int, mc_long, mc_ref]) (by simp [lv_args, mrf_cat, mc_int, mc_long, mc_ref, mrf_some]) (fun ls hl => w_Gray_run X G (mI.start hP) hf hl)

abbrev rm_Grid_axisOfGreatest : Room := { frames := 0, cells := 0, slots := 0, locals := 0 }
theorem h_Grid_axisOfGreatest : mCV y_Grid_axisOfGreatest b_Grid_axisOfGreatest 3 (some .int) 0 := ⟨k_543, k_85, ⟨by decide, by decide, by decide +kernel⟩, k_542, k_15⟩
set_option maxHeartbeats 4000000 in
set_option maxRecDepth 100000 in
theorem w_Grid_axisOfGreatest_36 {μ : mM} {h0 : Nat} {r : Int32} (X : mX p m meth c s args b_Grid_axisOfGreatest 3 (some .int) "ColourLinker$Grid") (G : mG D cA dA z0 s) (I : mI D cA z0 s μ s.heap [] s.heap.size) {ls : Array Slot} {x1 : Int32} (hf : f_Grid_axisOfGreatest_36 μ h0 x1 = some r) (hl : lv_has ls 3 [(0, va_rf (some h0)), (1, .int x1)]) : W p l e rm_Grid_axisOfGreatest s m args below meth c s.heap [] 0 0 (MQ below (mQR (some (.int r))) args s 0 0 (fun _ => False)) (F0 m 36 ls []) := by
  have hx := X.ex
  have hb := X.by_
  unfold f_Grid_axisOfGreatest_36 at hf
  refine lv_iload_n hx hb d_Grid_axisOfGreatest_36 rfl (lv_at hl 1 rfl) ?_
  obtain rfl := Option.some.inj hf
  exact r_iretR X d_Grid_axisOfGreatest_37

set_option maxHeartbeats 4000000 in
set_option maxRecDepth 100000 in
theorem w_Grid_axisOfGreatest_29 {μ : mM} {h0 : Nat} {r : Int32} (X : mX p m meth c s args b_Grid_axisOfGreatest 3 (some .int) "ColourLinker$Grid") (G : mG D cA dA z0 s) (I : mI D cA z0 s μ s.heap [] s.heap.size) {k : Int32 → Int32 → Option (Int32)} {kx36 : Int32 → Option (Int32)} (hk : ∀ (ls : Array Slot) (x1 : Int32) (x2 : Int32), k x1 x2 = some r → lv_has ls 3 [(0, va_rf (some h0)), (1, .int x1), (2, .int x2)] → W p l e rm_Grid_axisOfGreatest s m args below meth c s.heap [] 0 0 (MQ below (mQR (some (.int r))) args s 0 0 (fun _ => False)) (F0 m 4 ls [])) (hkx36 : ∀ (ls : Array Slot) (x1 : Int32), kx36 x1 = some r → lv_has ls 3 [(0, va_rf (some h0)), (1, .int x1)] → W p l e rm_Grid_axisOfGreatest s m args below meth c s.heap [] 0 0 (MQ below (mQR (some (.int r))) args s 0 0 (fun _ => False)) (F0 m 36 ls [])) {ls : Array Slot} {x2 : Int32} {s0 : Int32} (hf : f_Grid_axisOfGreatest_29 μ h0 k kx36 x2 s0 = some r) (hl : lv_has ls 3 [(0, va_rf (some h0)), (2, .int x2)]) : W p l e rm_Grid_axisOfGreatest s m args below meth c s.heap [] 0 0 (MQ below (mQR (some (.int r))) args s 0 0 (fun _ => False)) (F0 m 29 ls [.int s0]) := by
  have hx := X.ex
  have hb := X.by_
  unfold f_Grid_axisOfGreatest_29 at hf
  refine lv_istore_n (i := 1) (lv' := [(1, .int s0), (0, va_rf (some h0)), (2, .int x2)]) hx hb d_Grid_axisOfGreatest_29 rfl hl (by decide) (by simp [mrf_cat]) (fun ls hl => ?_)
  refine lv_iinc (i := 2) (k := 2) (v := (x2 + (1 : Int32))) (lv' := [(2, .int (x2 + (1 : Int32))), (1, .int s0), (0, va_rf (some h0))]) hx hb d_Grid_axisOfGreatest_30 hl rfl (congrArg (fun t => x2 + t) (by decide : Int32.ofInt (1) = (1 : Int32))) (by decide) rfl (fun ls hl => ?_)
  refine lv_goto (tgt := 4) hx hb d_Grid_axisOfGreatest_33 (by decide) ?_
  exact hk _ _ _ hf (lv_sub hl [2, 1, 0] rfl)

set_option maxHeartbeats 4000000 in
set_option maxRecDepth 100000 in
theorem w_Grid_axisOfGreatest_4 {μ : mM} {h0 : Nat} {r : Int32} (X : mX p m meth c s args b_Grid_axisOfGreatest 3 (some .int) "ColourLinker$Grid") (G : mG D cA dA z0 s) (I : mI D cA z0 s μ s.heap [] s.heap.size) {kx36 : Int32 → Option (Int32)} (hkx36 : ∀ (ls : Array Slot) (x1 : Int32), kx36 x1 = some r → lv_has ls 3 [(0, va_rf (some h0)), (1, .int x1)] → W p l e rm_Grid_axisOfGreatest s m args below meth c s.heap [] 0 0 (MQ below (mQR (some (.int r))) args s 0 0 (fun _ => False)) (F0 m 36 ls [])) : ∀ (n : Nat) (ls : Array Slot) (x1 : Int32) (x2 : Int32), f_Grid_axisOfGreatest_4 μ h0 kx36 n x1 x2 = some r → lv_has ls 3 [(0, va_rf (some h0)), (1, .int x1), (2, .int x2)] → W p l e rm_Grid_axisOfGreatest s m args below meth c s.heap [] 0 0 (MQ below (mQR (some (.int r))) args s 0 0 (fun _ => False)) (F0 m 4 ls []) := by
  have hx := X.ex
  have hb := X.by_
  intro n
  induction n with
  | zero => intro ls x1 x2 hf hl; rw [f_Grid_axisOfGreatest_4] at hf; cases hf
  | succ n ih =>
    intro ls x1 x2 hf hl
    rw [f_Grid_axisOfGreatest_4] at hf
    refine lv_iload_n hx hb d_Grid_axisOfGreatest_4 rfl (lv_at hl 2 rfl) ?_
    refine lv_iconst (v := 3) hx hb d_Grid_axisOfGreatest_5 (by decide) ?_
    refine lv_icmp_ge (tgt := 36) hx hb d_Grid_axisOfGreatest_6 (by decide) (fun hc => ?_) (fun hc => ?_)
    · have hf := mift hf hc
      exact hkx36 _ _ hf (lv_sub hl [0, 1] rfl)
    · have hf := miff hf hc
      refine r_aload_n X d_Grid_axisOfGreatest_9 rfl (lv_at hl 0 rfl) ?_
      obtain ⟨v1, hv, hf⟩ := mbind hf
      refine r_getf X G I (mfA_e hv) o_Grid_rest k_318 (Or.inl rfl) d_Grid_axisOfGreatest_10 ?_
      refine lv_iload_n hx hb d_Grid_axisOfGreatest_13 rfl (lv_at hl 2 rfl) ?_
      obtain ⟨v2, hv, hf⟩ := mbind hf
      refine r_iald X G I hv d_Grid_axisOfGreatest_14 ?_
      refine r_aload_n X d_Grid_axisOfGreatest_15 rfl (lv_at hl 0 rfl) ?_
      obtain ⟨v3, hv, hf⟩ := mbind hf
      refine r_getf X G I (mfA_e hv) o_Grid_rest k_318 (Or.inl rfl) d_Grid_axisOfGreatest_16 ?_
      refine lv_iload_n hx hb d_Grid_axisOfGreatest_19 rfl (lv_at hl 1 rfl) ?_
      obtain ⟨v4, hv, hf⟩ := mbind hf
      refine r_iald X G I hv d_Grid_axisOfGreatest_20 ?_
      refine lv_icmp_le (tgt := 28) hx hb d_Grid_axisOfGreatest_21 (by decide) (fun hc => ?_) (fun hc => ?_)
      · have hf := mift hf hc
        refine lv_iload_n hx hb d_Grid_axisOfGreatest_28 rfl (lv_at hl 1 rfl) ?_
        exact w_Grid_axisOfGreatest_29 X G I ih hkx36 hf (lv_sub hl [0, 2] rfl)
      · have hf := miff hf hc
        refine lv_iload_n hx hb d_Grid_axisOfGreatest_24 rfl (lv_at hl 2 rfl) ?_
        refine lv_goto (tgt := 29) hx hb d_Grid_axisOfGreatest_25 (by decide) ?_
        exact w_Grid_axisOfGreatest_29 X G I ih hkx36 hf (lv_sub hl [0, 2] rfl)

set_option maxHeartbeats 4000000 in
set_option maxRecDepth 100000 in
theorem w_Grid_axisOfGreatest {μ : mM} {h0 : Nat} {r : Int32} (X : mX p m meth c s args b_Grid_axisOfGreatest 3 (some .int) "ColourLinker$Grid") (G : mG D cA dA z0 s) (I : mI D cA z0 s μ s.heap [] s.heap.size) {ls : Array Slot}  (hf : f_Grid_axisOfGreatest μ h0 = some r) (hl : lv_has ls 3 [(0, va_rf (some h0))]) : W p l e rm_Grid_axisOfGreatest s m args below meth c s.heap [] 0 0 (MQ below (mQR (some (.int r))) args s 0 0 (fun _ => False)) (F0 m 0 ls []) := by
  have hx := X.ex
  have hb := X.by_
  unfold f_Grid_axisOfGreatest at hf
  refine lv_iconst (v := 0) hx hb d_Grid_axisOfGreatest_0 (by decide) ?_
  refine lv_istore_n (i := 1) (lv' := [(1, .int (0 : Int32)), (0, va_rf (some h0))]) hx hb d_Grid_axisOfGreatest_1 rfl hl (by decide) (by simp [mrf_cat]) (fun ls hl => ?_)
  refine lv_iconst (v := 1) hx hb d_Grid_axisOfGreatest_2 (by decide) ?_
  refine lv_istore_n (i := 2) (lv' := [(2, .int (1 : Int32)), (1, .int (0 : Int32)), (0, va_rf (some h0))]) hx hb d_Grid_axisOfGreatest_3 rfl hl (by decide) rfl (fun ls hl => ?_)
  exact w_Grid_axisOfGreatest_4 X G I (fun ls x1 hf hl => w_Grid_axisOfGreatest_36 X G I hf hl) 4096 _ _ _ hf (lv_sub hl [2, 1, 0] rfl)

set_option maxHeartbeats 4000000 in
set_option maxRecDepth 100000 in
theorem c_Grid_axisOfGreatest {l : Launch} {D : va_G} {cA : Nat → ClassId} {dA z0 : Nat} {μ : mM} {h0 : Nat} {r : Int32} (hf : f_Grid_axisOfGreatest μ h0 = some r) : Met l y_Grid_axisOfGreatest (mW y_Grid_axisOfGreatest b_Grid_axisOfGreatest 3 (some .int)) rm_Grid_axisOfGreatest (va_Pc [.ref h0] (mPr D cA dA z0 μ)) (mQR (some (.int r))) 0 0 (fun _ => False) := by
  refine Met.ofW (cc := b_Grid_axisOfGreatest) (maxL := 3) (ret := (some .int)) (by decide) rfl ?_
  intro p e s m args below meth c s₁ B hml hv
  obtain ⟨rfl, G, hP⟩ := hv
  have X := mX.of B hml
  exact m_entry (lv := [(0, va_rf (some h0))]) (Nat.le_of_ble_eq_true rfl) rfl (fun ls hl => w_Grid_axisOfGreatest X G (mI.start hP) hf hl)

abbrev rm_Grid_axisOfLeast : Room := { frames := 0, cells := 0, slots := 0, locals := 0 }
theorem h_Grid_axisOfLeast : mCV y_Grid_axisOfLeast b_Grid_axisOfLeast 3 (some .int) 0 := ⟨k_547, k_85, ⟨by decide, by decide, by decide +kernel⟩, k_546, k_16⟩
set_option maxHeartbeats 4000000 in
set_option maxRecDepth 100000 in
theorem w_Grid_axisOfLeast_36 {μ : mM} {h0 : Nat} {r : Int32} (X : mX p m meth c s args b_Grid_axisOfLeast 3 (some .int) "ColourLinker$Grid") (G : mG D cA dA z0 s) (I : mI D cA z0 s μ s.heap [] s.heap.size) {ls : Array Slot} {x1 : Int32} (hf : f_Grid_axisOfLeast_36 μ h0 x1 = some r) (hl : lv_has ls 3 [(0, va_rf (some h0)), (1, .int x1)]) : W p l e rm_Grid_axisOfLeast s m args below meth c s.heap [] 0 0 (MQ below (mQR (some (.int r))) args s 0 0 (fun _ => False)) (F0 m 36 ls []) := by
  have hx := X.ex
  have hb := X.by_
  unfold f_Grid_axisOfLeast_36 at hf
  refine lv_iload_n hx hb d_Grid_axisOfLeast_36 rfl (lv_at hl 1 rfl) ?_
  obtain rfl := Option.some.inj hf
  exact r_iretR X d_Grid_axisOfLeast_37

set_option maxHeartbeats 4000000 in
set_option maxRecDepth 100000 in
theorem w_Grid_axisOfLeast_29 {μ : mM} {h0 : Nat} {r : Int32} (X : mX p m meth c s args b_Grid_axisOfLeast 3 (some .int) "ColourLinker$Grid") (G : mG D cA dA z0 s) (I : mI D cA z0 s μ s.heap [] s.heap.size) {k : Int32 → Int32 → Option (Int32)} {kx36 : Int32 → Option (Int32)} (hk : ∀ (ls : Array Slot) (x1 : Int32) (x2 : Int32), k x1 x2 = some r → lv_has ls 3 [(0, va_rf (some h0)), (1, .int x1), (2, .int x2)] → W p l e rm_Grid_axisOfLeast s m args below meth c s.heap [] 0 0 (MQ below (mQR (some (.int r))) args s 0 0 (fun _ => False)) (F0 m 4 ls [])) (hkx36 : ∀ (ls : Array Slot) (x1 : Int32), kx36 x1 = some r → lv_has ls 3 [(0, va_rf (some h0)), (1, .int x1)] → W p l e rm_Grid_axisOfLeast s m args below meth c s.heap [] 0 0 (MQ below (mQR (some (.int r))) args s 0 0 (fun _ => False)) (F0 m 36 ls [])) {ls : Array Slot} {x2 : Int32} {s0 : Int32} (hf : f_Grid_axisOfLeast_29 μ h0 k kx36 x2 s0 = some r) (hl : lv_has ls 3 [(0, va_rf (some h0)), (2, .int x2)]) : W p l e rm_Grid_axisOfLeast s m args below meth c s.heap [] 0 0 (MQ below (mQR (some (.int r))) args s 0 0 (fun _ => False)) (F0 m 29 ls [.int s0]) := by
  have hx := X.ex
  have hb := X.by_
  unfold f_Grid_axisOfLeast_29 at hf
  refine lv_istore_n (i := 1) (lv' := [(1, .int s0), (0, va_rf (some h0)), (2, .int x2)]) hx hb d_Grid_axisOfLeast_29 rfl hl (by decide) (by simp [mrf_cat]) (fun ls hl => ?_)
  refine lv_iinc (i := 2) (k := 2) (v := (x2 + (1 : Int32))) (lv' := [(2, .int (x2 + (1 : Int32))), (1, .int s0), (0, va_rf (some h0))]) hx hb d_Grid_axisOfLeast_30 hl rfl (congrArg (fun t => x2 + t) (by decide : Int32.ofInt (1) = (1 : Int32))) (by decide) rfl (fun ls hl => ?_)
  refine lv_goto (tgt := 4) hx hb d_Grid_axisOfLeast_33 (by decide) ?_
  exact hk _ _ _ hf (lv_sub hl [2, 1, 0] rfl)

set_option maxHeartbeats 4000000 in
set_option maxRecDepth 100000 in
theorem w_Grid_axisOfLeast_4 {μ : mM} {h0 : Nat} {r : Int32} (X : mX p m meth c s args b_Grid_axisOfLeast 3 (some .int) "ColourLinker$Grid") (G : mG D cA dA z0 s) (I : mI D cA z0 s μ s.heap [] s.heap.size) {kx36 : Int32 → Option (Int32)} (hkx36 : ∀ (ls : Array Slot) (x1 : Int32), kx36 x1 = some r → lv_has ls 3 [(0, va_rf (some h0)), (1, .int x1)] → W p l e rm_Grid_axisOfLeast s m args below meth c s.heap [] 0 0 (MQ below (mQR (some (.int r))) args s 0 0 (fun _ => False)) (F0 m 36 ls [])) : ∀ (n : Nat) (ls : Array Slot) (x1 : Int32) (x2 : Int32), f_Grid_axisOfLeast_4 μ h0 kx36 n x1 x2 = some r → lv_has ls 3 [(0, va_rf (some h0)), (1, .int x1), (2, .int x2)] → W p l e rm_Grid_axisOfLeast s m args below meth c s.heap [] 0 0 (MQ below (mQR (some (.int r))) args s 0 0 (fun _ => False)) (F0 m 4 ls []) := by
  have hx := X.ex
  have hb := X.by_
  intro n
  induction n with
  | zero => intro ls x1 x2 hf hl; rw [f_Grid_axisOfLeast_4] at hf; cases hf
  | succ n ih =>
    intro ls x1 x2 hf hl
    rw [f_Grid_axisOfLeast_4] at hf
    refine lv_iload_n hx hb d_Grid_axisOfLeast_4 rfl (lv_at hl 2 rfl) ?_
    refine lv_iconst (v := 3) hx hb d_Grid_axisOfLeast_5 (by decide) ?_
    refine lv_icmp_ge (tgt := 36) hx hb d_Grid_axisOfLeast_6 (by decide) (fun hc => ?_) (fun hc => ?_)
    · have hf := mift hf hc
      exact hkx36 _ _ hf (lv_sub hl [0, 1] rfl)
    · have hf := miff hf hc
      refine r_aload_n X d_Grid_axisOfLeast_9 rfl (lv_at hl 0 rfl) ?_
      obtain ⟨v1, hv, hf⟩ := mbind hf
      refine r_getf X G I (mfA_e hv) o_Grid_rest k_318 (Or.inl rfl) d_Grid_axisOfLeast_10 ?_
      refine lv_iload_n hx hb d_Grid_axisOfLeast_13 rfl (lv_at hl 2 rfl) ?_
      obtain ⟨v2, hv, hf⟩ := mbind hf
      refine r_iald X G I hv d_Grid_axisOfLeast_14 ?_
      refine r_aload_n X d_Grid_axisOfLeast_15 rfl (lv_at hl 0 rfl) ?_
      obtain ⟨v3, hv, hf⟩ := mbind hf
      refine r_getf X G I (mfA_e hv) o_Grid_rest k_318 (Or.inl rfl) d_Grid_axisOfLeast_16 ?_
      refine lv_iload_n hx hb d_Grid_axisOfLeast_19 rfl (lv_at hl 1 rfl) ?_
      obtain ⟨v4, hv, hf⟩ := mbind hf
      refine r_iald X G I hv d_Grid_axisOfLeast_20 ?_
      refine lv_icmp_gt (tgt := 28) hx hb d_Grid_axisOfLeast_21 (by decide) (fun hc => ?_) (fun hc => ?_)
      · have hf := mift hf hc
        refine lv_iload_n hx hb d_Grid_axisOfLeast_28 rfl (lv_at hl 1 rfl) ?_
        exact w_Grid_axisOfLeast_29 X G I ih hkx36 hf (lv_sub hl [0, 2] rfl)
      · have hf := miff hf hc
        refine lv_iload_n hx hb d_Grid_axisOfLeast_24 rfl (lv_at hl 2 rfl) ?_
        refine lv_goto (tgt := 29) hx hb d_Grid_axisOfLeast_25 (by decide) ?_
        exact w_Grid_axisOfLeast_29 X G I ih hkx36 hf (lv_sub hl [0, 2] rfl)

set_option maxHeartbeats 4000000 in
set_option maxRecDepth 100000 in
theorem w_Grid_axisOfLeast {μ : mM} {h0 : Nat} {r : Int32} (X : mX p m meth c s args b_Grid_axisOfLeast 3 (some .int) "ColourLinker$Grid") (G : mG D cA dA z0 s) (I : mI D cA z0 s μ s.heap [] s.heap.size) {ls : Array Slot}  (hf : f_Grid_axisOfLeast μ h0 = some r) (hl : lv_has ls 3 [(0, va_rf (some h0))]) : W p l e rm_Grid_axisOfLeast s m args below meth c s.heap [] 0 0 (MQ below (mQR (some (.int r))) args s 0 0 (fun _ => False)) (F0 m 0 ls []) := by
  have hx := X.ex
  have hb := X.by_
  unfold f_Grid_axisOfLeast at hf
  refine lv_iconst (v := 0) hx hb d_Grid_axisOfLeast_0 (by decide) ?_
  refine lv_istore_n (i := 1) (lv' := [(1, .int (0 : Int32)), (0, va_rf (some h0))]) hx hb d_Grid_axisOfLeast_1 rfl hl (by decide) (by simp [mrf_cat]) (fun ls hl => ?_)
  refine lv_iconst (v := 1) hx hb d_Grid_axisOfLeast_2 (by decide) ?_
  refine lv_istore_n (i := 2) (lv' := [(2, .int (1 : Int32)), (1, .int (0 : Int32)), (0, va_rf (some h0))]) hx hb d_Grid_axisOfLeast_3 rfl hl (by decide) rfl (fun ls hl => ?_)
  exact w_Grid_axisOfLeast_4 X G I (fun ls x1 hf hl => w_Grid_axisOfLeast_36 X G I hf hl) 4096 _ _ _ hf (lv_sub hl [2, 1, 0] rfl)

set_option maxHeartbeats 4000000 in
set_option maxRecDepth 100000 in
theorem c_Grid_axisOfLeast {l : Launch} {D : va_G} {cA : Nat → ClassId} {dA z0 : Nat} {μ : mM} {h0 : Nat} {r : Int32} (hf : f_Grid_axisOfLeast μ h0 = some r) : Met l y_Grid_axisOfLeast (mW y_Grid_axisOfLeast b_Grid_axisOfLeast 3 (some .int)) rm_Grid_axisOfLeast (va_Pc [.ref h0] (mPr D cA dA z0 μ)) (mQR (some (.int r))) 0 0 (fun _ => False) := by
  refine Met.ofW (cc := b_Grid_axisOfLeast) (maxL := 3) (ret := (some .int)) (by decide) rfl ?_
  intro p e s m args below meth c s₁ B hml hv
  obtain ⟨rfl, G, hP⟩ := hv
  have X := mX.of B hml
  exact m_entry (lv := [(0, va_rf (some h0))]) (Nat.le_of_ble_eq_true rfl) rfl (fun ls hl => w_Grid_axisOfLeast X G (mI.start hP) hf hl)

abbrev rm_Grid_stride : Room := { frames := 0, cells := 0, slots := 0, locals := 0 }
theorem h_Grid_stride : mCV y_Grid_stride b_Grid_stride 2 (some .int) 1 := ⟨k_551, k_85, ⟨by decide, by decide, by decide +kernel⟩, k_550, k_17⟩
set_option maxHeartbeats 4000000 in
set_option maxRecDepth 100000 in
theorem w_Grid_stride_29 {μ : mM} {h0 : Nat} {r : Int32} (X : mX p m meth c s args b_Grid_stride 2 (some .int) "ColourLinker$Grid") (G : mG D cA dA z0 s) (I : mI D cA z0 s μ s.heap [] s.heap.size) {ls : Array Slot} {s0 : Int32} (hf : f_Grid_stride_29 μ h0 s0 = some r) (hl : lv_has ls 2 [(0, va_rf (some h0))]) : W p l e rm_Grid_stride s m args below meth c s.heap [] 0 0 (MQ below (mQR (some (.int r))) args s 0 0 (fun _ => False)) (F0 m 29 ls [.int s0]) := by
  have hx := X.ex
  have hb := X.by_
  unfold f_Grid_stride_29 at hf
  obtain rfl := Option.some.inj hf
  exact r_iretR X d_Grid_stride_29

set_option maxHeartbeats 4000000 in
set_option maxRecDepth 100000 in
theorem w_Grid_stride {μ : mM} {h0 : Nat} {r : Int32} (X : mX p m meth c s args b_Grid_stride 2 (some .int) "ColourLinker$Grid") (G : mG D cA dA z0 s) (I : mI D cA z0 s μ s.heap [] s.heap.size) {ls : Array Slot} {x1 : Int32} (hf : f_Grid_stride μ h0 x1 = some r) (hl : lv_has ls 2 [(0, va_rf (some h0)), (1, .int x1)]) : W p l e rm_Grid_stride s m args below meth c s.heap [] 0 0 (MQ below (mQR (some (.int r))) args s 0 0 (fun _ => False)) (F0 m 0 ls []) := by
  have hx := X.ex
  have hb := X.by_
  unfold f_Grid_stride at hf
  refine lv_iload_n hx hb d_Grid_stride_0 rfl (lv_at hl 1 rfl) ?_
  refine lv_if_ne (tgt := 16) hx hb d_Grid_stride_1 (by decide) (fun hc => ?_) (fun hc => ?_)
  · have hf := miff hf hc
    refine lv_iload_n hx hb d_Grid_stride_16 rfl (lv_at hl 1 rfl) ?_
    refine lv_iconst (v := 1) hx hb d_Grid_stride_17 (by decide) ?_
    refine lv_icmp_ne (tgt := 28) hx hb d_Grid_stride_18 (by decide) (fun hc => ?_) (fun hc => ?_)
    · have hf := miff hf hc
      refine lv_iconst (v := 1) hx hb d_Grid_stride_28 (by decide) ?_
      exact w_Grid_stride_29 X G I hf (lv_sub hl [0] rfl)
    · have hf := mift hf hc
      refine r_aload_n X d_Grid_stride_21 rfl (lv_at hl 0 rfl) ?_
      obtain ⟨v1, hv, hf⟩ := mbind hf
      refine r_getf X G I (mfI_e hv) o_Grid_g k_317 (Or.inl rfl) d_Grid_stride_22 ?_
      refine lv_goto (tgt := 29) hx hb d_Grid_stride_25 (by decide) ?_
      exact w_Grid_stride_29 X G I hf (lv_sub hl [0] rfl)
  · have hf := mift hf hc
    refine r_aload_n X d_Grid_stride_4 rfl (lv_at hl 0 rfl) ?_
    obtain ⟨v2, hv, hf⟩ := mbind hf
    refine r_getf X G I (mfI_e hv) o_Grid_g k_317 (Or.inl rfl) d_Grid_stride_5 ?_
    refine r_aload_n X d_Grid_stride_8 rfl (lv_at hl 0 rfl) ?_
    obtain ⟨v3, hv, hf⟩ := mbind hf
    refine r_getf X G I (mfI_e hv) o_Grid_g k_317 (Or.inl rfl) d_Grid_stride_9 ?_
    refine lv_imul hx hb d_Grid_stride_12 ?_
    refine lv_goto (tgt := 29) hx hb d_Grid_stride_13 (by decide) ?_
    exact w_Grid_stride_29 X G I hf (lv_sub hl [0] rfl)

set_option maxHeartbeats 4000000 in
set_option maxRecDepth 100000 in
theorem c_Grid_stride {l : Launch} {D : va_G} {cA : Nat → ClassId} {dA z0 : Nat} {μ : mM} {h0 : Nat} {x1 : Int32} {r : Int32} (hf : f_Grid_stride μ h0 x1 = some r) : Met l y_Grid_stride (mW y_Grid_stride b_Grid_stride 2 (some .int)) rm_Grid_stride (va_Pc [.ref h0, .int x1] (mPr D cA dA z0 μ)) (mQR (some (.int r))) 0 0 (fun _ => False) := by
  refine Met.ofW (cc := b_Grid_stride) (maxL := 2) (ret := (some .int)) (by decide) rfl ?_
  intro p e s m args below meth c s₁ B hml hv
  obtain ⟨rfl, G, hP⟩ := hv
  have X := mX.of B hml
  exact m_entry (lv := [(0, va_rf (some h0)), (1, .int x1)]) (Nat.le_of_ble_eq_true rfl) rfl (fun ls hl => w_Grid_stride X G (mI.start hP) hf hl)

abbrev rm_Grid_levelAt : Room := { frames := 0, cells := 0, slots := 0, locals := 0 }
theorem h_Grid_levelAt : mCV y_Grid_levelAt b_Grid_levelAt 3 (some .long) 2 := ⟨k_555, k_85, ⟨by decide, by decide, by decide +kernel⟩, k_554, k_18⟩
set_option maxHeartbeats 4000000 in
set_option maxRecDepth 100000 in
theorem w_Grid_levelAt {μ : mM} {h0 : Nat} {r : Int64} (X : mX p m meth c s args b_Grid_levelAt 3 (some .long) "ColourLinker$Grid") (G : mG D cA dA z0 s) (I : mI D cA z0 s μ s.heap [] s.heap.size) {ls : Array Slot} {x1 : Int32} {x2 : Int32} (hf : f_Grid_levelAt μ h0 x1 x2 = some r) (hl : lv_has ls 3 [(0, va_rf (some h0)), (1, .int x1), (2, .int x2)]) : W p l e rm_Grid_levelAt s m args below meth c s.heap [] 0 0 (MQ below (mQR (some (.long r))) args s 0 0 (fun _ => False)) (F0 m 0 ls []) := by
  have hx := X.ex
  have hb := X.by_
  unfold f_Grid_levelAt at hf
  refine lv_ldc2 (v := 257) hx hb X.ow (X.w k_556) d_Grid_levelAt_0 ?_
  refine r_aload_n X d_Grid_levelAt_3 rfl (lv_at hl 0 rfl) ?_
  obtain ⟨v1, hv, hf⟩ := mbind hf
  refine r_getf X G I (mfA_e hv) o_Grid_plain k_315 (Or.inl rfl) d_Grid_levelAt_4 ?_
  refine r_aload_n X d_Grid_levelAt_7 rfl (lv_at hl 0 rfl) ?_
  obtain ⟨v2, hv, hf⟩ := mbind hf
  refine r_getf X G I (mfI_e hv) o_Grid_start k_316 (Or.inl rfl) d_Grid_levelAt_8 ?_
  refine lv_iconst (v := 3) hx hb d_Grid_levelAt_11 (by decide) ?_
  refine lv_iload_n hx hb d_Grid_levelAt_12 rfl (lv_at hl 1 rfl) ?_
  refine lv_imul hx hb d_Grid_levelAt_13 ?_
  refine lv_iadd hx hb d_Grid_levelAt_14 ?_
  refine lv_iload_n hx hb d_Grid_levelAt_15 rfl (lv_at hl 2 rfl) ?_
  refine lv_iadd hx hb d_Grid_levelAt_16 ?_
  obtain ⟨v3, hv, hf⟩ := mbind hf
  refine r_iald X G I hv d_Grid_levelAt_17 ?_
  refine lv_i2l hx hb d_Grid_levelAt_18 rfl ?_
  refine lv_lmul hx hb d_Grid_levelAt_19 ?_
  obtain rfl := Option.some.inj hf
  exact r_lretR X d_Grid_levelAt_20

set_option maxHeartbeats 4000000 in
set_option maxRecDepth 100000 in
theorem c_Grid_levelAt {l : Launch} {D : va_G} {cA : Nat → ClassId} {dA z0 : Nat} {μ : mM} {h0 : Nat} {x1 : Int32} {x2 : Int32} {r : Int64} (hf : f_Grid_levelAt μ h0 x1 x2 = some r) : Met l y_Grid_levelAt (mW y_Grid_levelAt b_Grid_levelAt 3 (some .long)) rm_Grid_levelAt (va_Pc [.ref h0, .int x1, .int x2] (mPr D cA dA z0 μ)) (mQR (some (.long r))) 0 0 (fun _ => False) := by
  refine Met.ofW (cc := b_Grid_levelAt) (maxL := 3) (ret := (some .long)) (by decide) rfl ?_
  intro p e s m args below meth c s₁ B hml hv
  obtain ⟨rfl, G, hP⟩ := hv
  have X := mX.of B hml
  exact m_entry (lv := [(0, va_rf (some h0)), (1, .int x1), (2, .int x2)]) (Nat.le_of_ble_eq_true rfl) rfl (fun ls hl => w_Grid_levelAt X G (mI.start hP) hf hl)

abbrev rm_Grid_run : Room := { frames := 2, cells := 0, slots := 0, locals := 52 }
-- no selects word for Grid_run
set_option maxHeartbeats 4000000 in
set_option maxRecDepth 100000 in
theorem w_Grid_run_236 {h0 : Nat} {r : mM} (X : mX p m meth c s args b_Grid_run 20 none "ColourLinker$Grid") (G : mG D cA dA z0 s) {H : Heap} {locs : List Loc} {μ : mM} {ls : Array Slot}  (I : mI D cA z0 s μ H locs s.heap.size) (hf : f_Grid_run_236 h0 μ = some r) (hl : lv_has ls 20 [(0, va_rf (some h0))]) : W p l e rm_Grid_run s m args below meth c H locs 0 0 (MQ below (mQW D cA z0 none r) args s 0 0 (mA z0)) (F0 m 236 ls []) := by
  have hx := X.ex
  have hb := X.by_
  unfold f_Grid_run_236 at hf
  obtain rfl := Option.some.inj hf
  exact r_vretW X I d_Grid_run_236

set_option maxHeartbeats 4000000 in
set_option maxRecDepth 100000 in
theorem w_Grid_run_120 {h0 : Nat} {r : mM} (X : mX p m meth c s args b_Grid_run 20 none "ColourLinker$Grid") (G : mG D cA dA z0 s) {kx236 : mM → Option (mM)} (hkx236 : ∀ (H : Heap) (locs : List Loc) (μ : mM) (ls : Array Slot), mI D cA z0 s μ H locs s.heap.size → kx236 μ = some r → lv_has ls 20 [(0, va_rf (some h0))] → W p l e rm_Grid_run s m args below meth c H locs 0 0 (MQ below (mQW D cA z0 none r) args s 0 0 (mA z0)) (F0 m 236 ls [])) : ∀ (n : Nat) (H : Heap) (locs : List Loc) (μ : mM) (ls : Array Slot) (x1 : Option Nat) (x2 : Int32) (x3 : Int32) (x4 : Int32) (x5 : Int32) (x6 : Int32) (x7 : Int32) (x8 : Int32) (x9 : Int32), mI D cA z0 s μ H locs s.heap.size → f_Grid_run_120 h0 kx236 n μ x1 x2 x3 x4 x5 x6 x7 x8 x9 = some r → lv_has ls 20 [(0, va_rf (some h0)), (1, va_rf x1), (2, .int x2), (3, .int x3), (4, .int x4), (5, .int x5), (6, .int x6), (7, .int x7), (8, .int x8), (9, .int x9)] → W p l e rm_Grid_run s m args below meth c H locs 0 0 (MQ below (mQW D cA z0 none r) args s 0 0 (mA z0)) (F0 m 120 ls []) := by
  have hx := X.ex
  have hb := X.by_
  intro n
  induction n with
  | zero => intro H locs μ ls x1 x2 x3 x4 x5 x6 x7 x8 x9 I hf hl; rw [f_Grid_run_120] at hf; cases hf
  | succ n ih =>
    intro H locs μ ls x1 x2 x3 x4 x5 x6 x7 x8 x9 I hf hl
    rw [f_Grid_run_120] at hf
    refine lv_iload hx hb d_Grid_run_120 (lv_at hl 9 rfl) ?_
    refine lv_iconst (v := 3) hx hb d_Grid_run_122 (by decide) ?_
    refine lv_icmp_ge (tgt := 236) hx hb d_Grid_run_123 (by decide) (fun hc => ?_) (fun hc => ?_)
    · have hf := mift hf hc
      exact hkx236 _ _ _ _ I hf (lv_sub hl [0] rfl)
    · have hf := miff hf hc
      refine r_aload_n X d_Grid_run_126 rfl (lv_at hl 0 rfl) ?_
      refine lv_iload_n hx hb d_Grid_run_127 rfl (lv_at hl 2 rfl) ?_
      refine lv_iload hx hb d_Grid_run_128 (lv_at hl 9 rfl) ?_
      obtain ⟨q12, hv, hf⟩ := mbind hf
      obtain ⟨a, ha, hv⟩ := mbind hv
      obtain ⟨ha, fs, hm⟩ := mrc_e ha
      refine m_caR (m_runV (As := [.int x2, .int x9]) (r := some h0) (rest := []) X G I h_Grid_levelAt k_552 (c_Grid_levelAt hv) mPr_blind (m_pre G I) hm rfl ha rfl rfl hl.1 (Nat.le_of_ble_eq_true rfl) rfl rfl ⟨Nat.le_of_ble_eq_true rfl, Nat.le_of_ble_eq_true rfl⟩ ⟨Nat.le_refl _, Nat.le_refl _⟩ d_Grid_run_130) ?_
      refine lv_lstore (i := 10) (lv' := [(10, .long q12), (0, va_rf (some h0)), (1, va_rf x1), (2, .int x2), (3, .int x3), (4, .int x4), (5, .int x5), (6, .int x6), (7, .int x7), (8, .int x8), (9, .int x9)]) hx hb d_Grid_run_133 hl (by decide) rfl (fun ls hl => ?_)
      refine r_aload_n X d_Grid_run_135 rfl (lv_at hl 1 rfl) ?_
      refine lv_iload hx hb d_Grid_run_136 (lv_at hl 7 rfl) ?_
      refine lv_iload hx hb d_Grid_run_138 (lv_at hl 10 rfl) ?_
      obtain ⟨q13, hv, hf⟩ := mbind hf
      obtain ⟨a, ha, hv⟩ := mbind hv
      obtain ⟨ha, fs, hm⟩ := mrc_e ha
      refine m_caR (m_runV (As := [.int x6, .int x9]) (r := some h0) (rest := []) X G I h_Grid_levelAt k_552 (c_Grid_levelAt hv) mPr_blind (m_pre G I) hm rfl ha rfl rfl hl.1 (Nat.le_of_ble_eq_true rfl) rfl rfl ⟨Nat.le_of_ble_eq_true rfl, Nat.le_of_ble_eq_true rfl⟩ ⟨Nat.le_refl _, Nat.le_refl _⟩ d_Grid_run_140) ?_
      refine lv_lstore (i := 12) (lv' := [(12, .long q13), (10, .long q12), (0, va_rf (some h0)), (1, va_rf x1), (2, .int x2), (3, .int x3), (4, .int x4), (5, .int x5), (6, .int x6), (7, .int x7), (8, .int x8), (9, .int x9)]) hx hb d_Grid_run_143 hl (by decide) rfl (fun ls hl => ?_)
      refine r_aload_n X d_Grid_run_145 rfl (lv_at hl 2 rfl) ?_
      refine lv_iload hx hb d_Grid_run_146 (lv_at hl 9 rfl) ?_
      refine lv_iload hx hb d_Grid_run_148 (lv_at hl 11 rfl) ?_
      obtain ⟨q14, hv, hf⟩ := mbind hf
      obtain ⟨a, ha, hv⟩ := mbind hv
      obtain ⟨ha, fs, hm⟩ := mrc_e ha
      refine m_caR (m_runV (As := [.int x7, .int x9]) (r := some h0) (rest := []) X G I h_Grid_levelAt k_552 (c_Grid_levelAt hv) mPr_blind (m_pre G I) hm rfl ha rfl rfl hl.1 (Nat.le_of_ble_eq_true rfl) rfl rfl ⟨Nat.le_of_ble_eq_true rfl, Nat.le_of_ble_eq_true rfl⟩ ⟨Nat.le_refl _, Nat.le_refl _⟩ d_Grid_run_150) ?_
      refine lv_lstore (i := 14) (lv' := [(14, .long q14), (12, .long q13), (10, .long q12), (0, va_rf (some h0)), (1, va_rf x1), (2, .int x2), (3, .int x3), (4, .int x4), (5, .int x5), (6, .int x6), (7, .int x7), (8, .int x8), (9, .int x9)]) hx hb d_Grid_run_153 hl (by decide) rfl (fun ls hl => ?_)
      refine r_aload_n X d_Grid_run_155 rfl (lv_at hl 3 rfl) ?_
      refine lv_iload hx hb d_Grid_run_156 (lv_at hl 11 rfl) ?_
      refine lv_iload hx hb d_Grid_run_158 (lv_at hl 12 rfl) ?_
      obtain ⟨q15, hv, hf⟩ := mbind hf
      obtain ⟨a, ha, hv⟩ := mbind hv
      obtain ⟨ha, fs, hm⟩ := mrc_e ha
      refine m_caR (m_runV (As := [.int x8, .int x9]) (r := some h0) (rest := []) X G I h_Grid_levelAt k_552 (c_Grid_levelAt hv) mPr_blind (m_pre G I) hm rfl ha rfl rfl hl.1 (Nat.le_of_ble_eq_true rfl) rfl rfl ⟨Nat.le_of_ble_eq_true rfl, Nat.le_of_ble_eq_true rfl⟩ ⟨Nat.le_refl _, Nat.le_refl _⟩ d_Grid_run_160) ?_
      refine lv_lstore (i := 16) (lv' := [(16, .long q15), (14, .long q14), (12, .long q13), (10, .long q12), (0, va_rf (some h0)), (1, va_rf x1), (2, .int x2), (3, .int x3), (4, .int x4), (5, .int x5), (6, .int x6), (7, .int x7), (8, .int x8), (9, .int x9)]) hx hb d_Grid_run_163 hl (by decide) rfl (fun ls hl => ?_)
      refine r_aload_n X d_Grid_run_165 rfl (lv_at hl 4 rfl) ?_
      obtain ⟨v16, hv, hf⟩ := mbind hf
      refine r_getf X G I (mfA_e hv) o_Grid_rest k_318 (Or.inl rfl) d_Grid_run_166 ?_
      refine lv_iload_n hx hb d_Grid_run_169 rfl (lv_at hl 7 rfl) ?_
      obtain ⟨v17, hv, hf⟩ := mbind hf
      refine r_iald X G I hv d_Grid_run_170 ?_
      refine lv_i2l hx hb d_Grid_run_171 rfl ?_
      refine lv_lload hx hb d_Grid_run_172 (lv_at hl 2 rfl) ?_
      refine lv_lload hx hb d_Grid_run_174 (lv_at hl 3 rfl) ?_
      refine lv_lsub hx hb d_Grid_run_176 ?_
      refine lv_lmul hx hb d_Grid_run_177 ?_
      refine r_aload_n X d_Grid_run_178 rfl (lv_at hl 4 rfl) ?_
      obtain ⟨v18, hv, hf⟩ := mbind hf
      refine r_getf X G I (mfA_e hv) o_Grid_rest k_318 (Or.inl rfl) d_Grid_run_179 ?_
      refine lv_iload hx hb d_Grid_run_182 (lv_at hl 9 rfl) ?_
      obtain ⟨v19, hv, hf⟩ := mbind hf
      refine r_iald X G I hv d_Grid_run_184 ?_
      refine lv_i2l hx hb d_Grid_run_185 rfl ?_
      refine lv_lload hx hb d_Grid_run_186 (lv_at hl 1 rfl) ?_
      refine lv_lload hx hb d_Grid_run_188 (lv_at hl 2 rfl) ?_
      refine lv_lsub hx hb d_Grid_run_190 ?_
      refine lv_lmul hx hb d_Grid_run_191 ?_
      refine lv_ladd hx hb d_Grid_run_192 ?_
      refine r_aload_n X d_Grid_run_193 rfl (lv_at hl 4 rfl) ?_
      obtain ⟨v20, hv, hf⟩ := mbind hf
      refine r_getf X G I (mfA_e hv) o_Grid_rest k_318 (Or.inl rfl) d_Grid_run_194 ?_
      refine lv_iload hx hb d_Grid_run_197 (lv_at hl 8 rfl) ?_
      obtain ⟨v21, hv, hf⟩ := mbind hf
      refine r_iald X G I hv d_Grid_run_199 ?_
      refine lv_i2l hx hb d_Grid_run_200 rfl ?_
      refine lv_lload hx hb d_Grid_run_201 (lv_at hl 0 rfl) ?_
      refine lv_lload hx hb d_Grid_run_203 (lv_at hl 1 rfl) ?_
      refine lv_lsub hx hb d_Grid_run_205 ?_
      refine lv_lmul hx hb d_Grid_run_206 ?_
      refine lv_ladd hx hb d_Grid_run_207 ?_
      refine lv_lstore (i := 18) (lv' := [(18, .long ((((v17).toInt64 * (q13 - q12)) + ((v19).toInt64 * (q14 - q13))) + ((v21).toInt64 * (q15 - q14)))), (16, .long q15), (14, .long q14), (12, .long q13), (10, .long q12), (0, va_rf (some h0)), (1, va_rf x1), (2, .int x2), (3, .int x3), (4, .int x4), (5, .int x5), (6, .int x6), (7, .int x7), (8, .int x8), (9, .int x9)]) hx hb d_Grid_run_208 hl (by decide) rfl (fun ls hl => ?_)
      refine r_aload_n X d_Grid_run_210 rfl (lv_at hl 6 rfl) ?_
      refine lv_iload hx hb d_Grid_run_211 (lv_at hl 14 rfl) ?_
      refine lv_ldc2 (v := 65535) hx hb X.ow (X.w k_557) d_Grid_run_213 ?_
      refine lv_lload hx hb d_Grid_run_216 (lv_at hl 4 rfl) ?_
      refine lv_lmul hx hb d_Grid_run_218 ?_
      refine lv_lload hx hb d_Grid_run_219 (lv_at hl 0 rfl) ?_
      refine lv_ladd hx hb d_Grid_run_221 ?_
      refine lv_ldc2 (v := 65535) hx hb X.ow (X.w k_557) d_Grid_run_222 ?_
      obtain ⟨q22, hv, hf⟩ := mbind hf
      refine m_caR (m_runSN (As := [.long (((65535 : Int64) * q12) + ((((v17).toInt64 * (q13 - q12)) + ((v19).toInt64 * (q14 - q13))) + ((v21).toInt64 * (q15 - q14)))), .long (65535 : Int64)]) (rest := [.int x9, va_rf x1]) X G h_CL_nearest k_558 (c_CL_nearest hv) mPr_blind (m_pre G I) rfl rfl hl.1 (Nat.le_of_ble_eq_true rfl) rfl rfl ⟨Nat.le_of_ble_eq_true rfl, Nat.le_of_ble_eq_true rfl⟩ ⟨Nat.le_refl _, Nat.le_refl _⟩ d_Grid_run_225) ?_
      refine lv_l2i hx hb d_Grid_run_228 rfl ?_
      obtain ⟨m23, hv, hf⟩ := mbind hf
      refine r_iast X G I hv d_Grid_run_229 (fun H locs I => ?_)
      refine lv_iinc (i := 9) (k := 14) (v := (x9 + (1 : Int32))) (lv' := [(9, .int (x9 + (1 : Int32))), (18, .long ((((v17).toInt64 * (q13 - q12)) + ((v19).toInt64 * (q14 - q13))) + ((v21).toInt64 * (q15 - q14)))), (16, .long q15), (14, .long q14), (12, .long q13), (10, .long q12), (0, va_rf (some h0)), (1, va_rf x1), (2, .int x2), (3, .int x3), (4, .int x4), (5, .int x5), (6, .int x6), (7, .int x7), (8, .int x8)]) hx hb d_Grid_run_230 hl rfl (congrArg (fun t => x9 + t) (by decide : Int32.ofInt (1) = (1 : Int32))) (by decide) rfl (fun ls hl => ?_)
      refine lv_goto (tgt := 120) hx hb d_Grid_run_233 (by decide) ?_
      exact ih _ _ _ _ _ _ _ _ _ _ _ _ _ I hf (lv_sub hl [6, 7, 8, 9, 10, 11, 12, 13, 14, 0] rfl)

set_option maxHeartbeats 4000000 in
set_option maxRecDepth 100000 in
theorem w_Grid_run_67 {h0 : Nat} {r : mM} (X : mX p m meth c s args b_Grid_run 20 none "ColourLinker$Grid") (G : mG D cA dA z0 s) {H : Heap} {locs : List Loc} {μ : mM} {ls : Array Slot} {x1 : Option Nat} {x2 : Int32} (I : mI D cA z0 s μ H locs s.heap.size) (hf : f_Grid_run_67 h0 μ x1 x2 = some r) (hl : lv_has ls 20 [(0, va_rf (some h0)), (1, va_rf x1), (2, .int x2)]) : W p l e rm_Grid_run s m args below meth c H locs 0 0 (MQ below (mQW D cA z0 none r) args s 0 0 (mA z0)) (F0 m 67 ls []) := by
  have hx := X.ex
  have hb := X.by_
  unfold f_Grid_run_67 at hf
  refine r_aload_n X d_Grid_run_67 rfl (lv_at hl 0 rfl) ?_
  obtain ⟨q7, hv, hf⟩ := mbind hf
  obtain ⟨a, ha, hv⟩ := mbind hv
  obtain ⟨ha, fs, hm⟩ := mrc_e ha
  refine m_caR (m_runV (As := []) (r := some h0) (rest := []) X G I h_Grid_axisOfGreatest k_540 (c_Grid_axisOfGreatest hv) mPr_blind (m_pre G I) hm rfl ha rfl rfl hl.1 (Nat.le_of_ble_eq_true rfl) rfl rfl ⟨Nat.le_of_ble_eq_true rfl, Nat.le_of_ble_eq_true rfl⟩ ⟨Nat.le_refl _, Nat.le_refl _⟩ d_Grid_run_68) ?_
  refine lv_istore_n (i := 3) (lv' := [(3, .int q7), (0, va_rf (some h0)), (1, va_rf x1), (2, .int x2)]) hx hb d_Grid_run_71 rfl hl (by decide) rfl (fun ls hl => ?_)
  refine r_aload_n X d_Grid_run_72 rfl (lv_at hl 1 rfl) ?_
  obtain ⟨q8, hv, hf⟩ := mbind hf
  obtain ⟨a, ha, hv⟩ := mbind hv
  obtain ⟨ha, fs, hm⟩ := mrc_e ha
  refine m_caR (m_runV (As := []) (r := some h0) (rest := []) X G I h_Grid_axisOfLeast k_544 (c_Grid_axisOfLeast hv) mPr_blind (m_pre G I) hm rfl ha rfl rfl hl.1 (Nat.le_of_ble_eq_true rfl) rfl rfl ⟨Nat.le_of_ble_eq_true rfl, Nat.le_of_ble_eq_true rfl⟩ ⟨Nat.le_refl _, Nat.le_refl _⟩ d_Grid_run_73) ?_
  refine lv_istore (i := 4) (lv' := [(4, .int q8), (3, .int q7), (0, va_rf (some h0)), (1, va_rf x1), (2, .int x2)]) hx hb d_Grid_run_76 hl (by decide) rfl (fun ls hl => ?_)
  refine lv_iconst (v := 3) hx hb d_Grid_run_78 (by decide) ?_
  refine lv_iload_n hx hb d_Grid_run_79 rfl (lv_at hl 1 rfl) ?_
  refine lv_isub hx hb d_Grid_run_80 ?_
  refine lv_iload hx hb d_Grid_run_81 (lv_at hl 0 rfl) ?_
  refine lv_isub hx hb d_Grid_run_83 ?_
  refine lv_istore (i := 5) (lv' := [(5, .int (((3 : Int32) - q7) - q8)), (4, .int q8), (3, .int q7), (0, va_rf (some h0)), (1, va_rf x1), (2, .int x2)]) hx hb d_Grid_run_84 hl (by decide) rfl (fun ls hl => ?_)
  refine lv_iload_n hx hb d_Grid_run_86 rfl (lv_at hl 5 rfl) ?_
  refine r_aload_n X d_Grid_run_87 rfl (lv_at hl 3 rfl) ?_
  refine lv_iload_n hx hb d_Grid_run_88 rfl (lv_at hl 2 rfl) ?_
  obtain ⟨q9, hv, hf⟩ := mbind hf
  obtain ⟨a, ha, hv⟩ := mbind hv
  obtain ⟨ha, fs, hm⟩ := mrc_e ha
  refine m_caR (m_runV (As := [.int q7]) (r := some h0) (rest := [.int x2]) X G I h_Grid_stride k_548 (c_Grid_stride hv) mPr_blind (m_pre G I) hm rfl ha rfl rfl hl.1 (Nat.le_of_ble_eq_true rfl) rfl rfl ⟨Nat.le_of_ble_eq_true rfl, Nat.le_of_ble_eq_true rfl⟩ ⟨Nat.le_refl _, Nat.le_refl _⟩ d_Grid_run_89) ?_
  refine lv_iadd hx hb d_Grid_run_92 ?_
  refine lv_istore (i := 6) (lv' := [(6, .int (x2 + q9)), (5, .int (((3 : Int32) - q7) - q8)), (4, .int q8), (3, .int q7), (0, va_rf (some h0)), (1, va_rf x1), (2, .int x2)]) hx hb d_Grid_run_93 hl (by decide) rfl (fun ls hl => ?_)
  refine lv_iload hx hb d_Grid_run_95 (lv_at hl 0 rfl) ?_
  refine r_aload_n X d_Grid_run_97 rfl (lv_at hl 4 rfl) ?_
  refine lv_iload hx hb d_Grid_run_98 (lv_at hl 1 rfl) ?_
  obtain ⟨q10, hv, hf⟩ := mbind hf
  obtain ⟨a, ha, hv⟩ := mbind hv
  obtain ⟨ha, fs, hm⟩ := mrc_e ha
  refine m_caR (m_runV (As := [.int (((3 : Int32) - q7) - q8)]) (r := some h0) (rest := [.int (x2 + q9)]) X G I h_Grid_stride k_548 (c_Grid_stride hv) mPr_blind (m_pre G I) hm rfl ha rfl rfl hl.1 (Nat.le_of_ble_eq_true rfl) rfl rfl ⟨Nat.le_of_ble_eq_true rfl, Nat.le_of_ble_eq_true rfl⟩ ⟨Nat.le_refl _, Nat.le_refl _⟩ d_Grid_run_100) ?_
  refine lv_iadd hx hb d_Grid_run_103 ?_
  refine lv_istore (i := 7) (lv' := [(7, .int ((x2 + q9) + q10)), (6, .int (x2 + q9)), (5, .int (((3 : Int32) - q7) - q8)), (4, .int q8), (3, .int q7), (0, va_rf (some h0)), (1, va_rf x1), (2, .int x2)]) hx hb d_Grid_run_104 hl (by decide) rfl (fun ls hl => ?_)
  refine lv_iload hx hb d_Grid_run_106 (lv_at hl 0 rfl) ?_
  refine r_aload_n X d_Grid_run_108 rfl (lv_at hl 5 rfl) ?_
  refine lv_iload hx hb d_Grid_run_109 (lv_at hl 3 rfl) ?_
  obtain ⟨q11, hv, hf⟩ := mbind hf
  obtain ⟨a, ha, hv⟩ := mbind hv
  obtain ⟨ha, fs, hm⟩ := mrc_e ha
  refine m_caR (m_runV (As := [.int q8]) (r := some h0) (rest := [.int ((x2 + q9) + q10)]) X G I h_Grid_stride k_548 (c_Grid_stride hv) mPr_blind (m_pre G I) hm rfl ha rfl rfl hl.1 (Nat.le_of_ble_eq_true rfl) rfl rfl ⟨Nat.le_of_ble_eq_true rfl, Nat.le_of_ble_eq_true rfl⟩ ⟨Nat.le_refl _, Nat.le_refl _⟩ d_Grid_run_111) ?_
  refine lv_iadd hx hb d_Grid_run_114 ?_
  refine lv_istore (i := 8) (lv' := [(8, .int (((x2 + q9) + q10) + q11)), (7, .int ((x2 + q9) + q10)), (6, .int (x2 + q9)), (5, .int (((3 : Int32) - q7) - q8)), (4, .int q8), (3, .int q7), (0, va_rf (some h0)), (1, va_rf x1), (2, .int x2)]) hx hb d_Grid_run_115 hl (by decide) rfl (fun ls hl => ?_)
  refine lv_iconst (v := 0) hx hb d_Grid_run_117 (by decide) ?_
  refine lv_istore (i := 9) (lv' := [(9, .int (0 : Int32)), (8, .int (((x2 + q9) + q10) + q11)), (7, .int ((x2 + q9) + q10)), (6, .int (x2 + q9)), (5, .int (((3 : Int32) - q7) - q8)), (4, .int q8), (3, .int q7), (0, va_rf (some h0)), (1, va_rf x1), (2, .int x2)]) hx hb d_Grid_run_118 hl (by decide) rfl (fun ls hl => ?_)
  exact w_Grid_run_120 X G (fun H locs μ ls I hf hl => w_Grid_run_236 X G I hf hl) 4096 _ _ _ _ _ _ _ _ _ _ _ _ _ I hf (lv_sub hl [7, 8, 9, 6, 5, 4, 3, 2, 1, 0] rfl)

set_option maxHeartbeats 4000000 in
set_option maxRecDepth 100000 in
theorem w_Grid_run_4 {h0 : Nat} {r : mM} (X : mX p m meth c s args b_Grid_run 20 none "ColourLinker$Grid") (G : mG D cA dA z0 s) {kx67 : mM → (Option Nat) → Int32 → Option (mM)} (hkx67 : ∀ (H : Heap) (locs : List Loc) (μ : mM) (ls : Array Slot) (x1 : Option Nat) (x2 : Int32), mI D cA z0 s μ H locs s.heap.size → kx67 μ x1 x2 = some r → lv_has ls 20 [(0, va_rf (some h0)), (1, va_rf x1), (2, .int x2)] → W p l e rm_Grid_run s m args below meth c H locs 0 0 (MQ below (mQW D cA z0 none r) args s 0 0 (mA z0)) (F0 m 67 ls [])) : ∀ (n : Nat) (H : Heap) (locs : List Loc) (μ : mM) (ls : Array Slot) (x1 : Option Nat) (x2 : Int32) (x3 : Int32), mI D cA z0 s μ H locs s.heap.size → f_Grid_run_4 h0 kx67 n μ x1 x2 x3 = some r → lv_has ls 20 [(0, va_rf (some h0)), (1, va_rf x1), (2, .int x2), (3, .int x3)] → W p l e rm_Grid_run s m args below meth c H locs 0 0 (MQ below (mQW D cA z0 none r) args s 0 0 (mA z0)) (F0 m 4 ls []) := by
  have hx := X.ex
  have hb := X.by_
  intro n
  induction n with
  | zero => intro H locs μ ls x1 x2 x3 I hf hl; rw [f_Grid_run_4] at hf; cases hf
  | succ n ih =>
    intro H locs μ ls x1 x2 x3 I hf hl
    rw [f_Grid_run_4] at hf
    refine lv_iload_n hx hb d_Grid_run_4 rfl (lv_at hl 3 rfl) ?_
    refine lv_iconst (v := 3) hx hb d_Grid_run_5 (by decide) ?_
    refine lv_icmp_ge (tgt := 67) hx hb d_Grid_run_6 (by decide) (fun hc => ?_) (fun hc => ?_)
    · have hf := mift hf hc
      exact hkx67 _ _ _ _ _ _ I hf (lv_sub hl [0, 1, 2] rfl)
    · have hf := miff hf hc
      refine r_aload_n X d_Grid_run_9 rfl (lv_at hl 1 rfl) ?_
      refine lv_iload_n hx hb d_Grid_run_10 rfl (lv_at hl 3 rfl) ?_
      obtain ⟨v1, hv, hf⟩ := mbind hf
      refine r_iald X G I hv d_Grid_run_11 ?_
      refine r_aload_n X d_Grid_run_12 rfl (lv_at hl 0 rfl) ?_
      obtain ⟨v2, hv, hf⟩ := mbind hf
      refine r_getf X G I (mfI_e hv) o_Grid_g k_317 (Or.inl rfl) d_Grid_run_13 ?_
      refine lv_iconst (v := 1) hx hb d_Grid_run_16 (by decide) ?_
      refine lv_isub hx hb d_Grid_run_17 ?_
      refine lv_imul hx hb d_Grid_run_18 ?_
      refine lv_istore (i := 4) (lv' := [(4, .int (v1 * (v2 - (1 : Int32)))), (0, va_rf (some h0)), (1, va_rf x1), (2, .int x2), (3, .int x3)]) hx hb d_Grid_run_19 hl (by decide) rfl (fun ls hl => ?_)
      refine r_aload_n X d_Grid_run_21 rfl (lv_at hl 1 rfl) ?_
      obtain ⟨v3, hv, hf⟩ := mbind hf
      refine r_getf X G I (mfI_e hv) o_Grid_g k_317 (Or.inl rfl) d_Grid_run_22 ?_
      refine lv_iconst (v := 2) hx hb d_Grid_run_25 (by decide) ?_
      refine lv_isub hx hb d_Grid_run_26 ?_
      refine lv_iload hx hb d_Grid_run_27 (lv_at hl 0 rfl) ?_
      refine lv_ldc (v := 65535) hx hb X.ow (X.w k_538) d_Grid_run_29 ?_
      refine lv_idiv hx hb d_Grid_run_31 (by decide) ?_
      refine va_mmin (rest := []) hx hb (X.ml.trans hl.1.symm) X.ow (X.w k_539) (X.w k_279) (X.w k_83) (X.w k_280) (Nat.le_of_ble_eq_true rfl) (Nat.le_trans (Nat.add_le_add_right (m_cat8 (Nat.le_of_ble_eq_true rfl)) 13) (Nat.le_of_ble_eq_true rfl)) (Nat.le_refl _) (Nat.le_refl _) d_Grid_run_32 ?_
      refine lv_istore (i := 5) (lv' := [(5, .int (jminI (v3 - (2 : Int32)) ((v1 * (v2 - (1 : Int32))) / (65535 : Int32)))), (4, .int (v1 * (v2 - (1 : Int32)))), (0, va_rf (some h0)), (1, va_rf x1), (2, .int x2), (3, .int x3)]) hx hb d_Grid_run_35 hl (by decide) rfl (fun ls hl => ?_)
      refine r_aload_n X d_Grid_run_37 rfl (lv_at hl 2 rfl) ?_
      obtain ⟨v4, hv, hf⟩ := mbind hf
      refine r_getf X G I (mfA_e hv) o_Grid_rest k_318 (Or.inl rfl) d_Grid_run_38 ?_
      refine lv_iload_n hx hb d_Grid_run_41 rfl (lv_at hl 5 rfl) ?_
      refine lv_iload hx hb d_Grid_run_42 (lv_at hl 1 rfl) ?_
      refine lv_ldc (v := 65535) hx hb X.ow (X.w k_538) d_Grid_run_44 ?_
      refine lv_iload hx hb d_Grid_run_46 (lv_at hl 0 rfl) ?_
      refine lv_imul hx hb d_Grid_run_48 ?_
      refine lv_isub hx hb d_Grid_run_49 ?_
      obtain ⟨m5, hv, hf⟩ := mbind hf
      refine r_iast X G I hv d_Grid_run_50 (fun H locs I => ?_)
      refine lv_iload_n hx hb d_Grid_run_51 rfl (lv_at hl 4 rfl) ?_
      refine r_aload_n X d_Grid_run_52 rfl (lv_at hl 2 rfl) ?_
      obtain ⟨v6, hv, hf⟩ := mbind hf
      refine r_getf X G I (mfI_e hv) o_Grid_g k_317 (Or.inl rfl) d_Grid_run_53 ?_
      refine lv_imul hx hb d_Grid_run_56 ?_
      refine lv_iload hx hb d_Grid_run_57 (lv_at hl 0 rfl) ?_
      refine lv_iadd hx hb d_Grid_run_59 ?_
      refine lv_istore_n (i := 2) (lv' := [(2, .int ((x2 * v6) + (jminI (v3 - (2 : Int32)) ((v1 * (v2 - (1 : Int32))) / (65535 : Int32))))), (5, .int (jminI (v3 - (2 : Int32)) ((v1 * (v2 - (1 : Int32))) / (65535 : Int32)))), (4, .int (v1 * (v2 - (1 : Int32)))), (0, va_rf (some h0)), (1, va_rf x1), (3, .int x3)]) hx hb d_Grid_run_60 rfl hl (by decide) (by simp [mrf_cat]) (fun ls hl => ?_)
      refine lv_iinc (i := 3) (k := 5) (v := (x3 + (1 : Int32))) (lv' := [(3, .int (x3 + (1 : Int32))), (2, .int ((x2 * v6) + (jminI (v3 - (2 : Int32)) ((v1 * (v2 - (1 : Int32))) / (65535 : Int32))))), (5, .int (jminI (v3 - (2 : Int32)) ((v1 * (v2 - (1 : Int32))) / (65535 : Int32)))), (4, .int (v1 * (v2 - (1 : Int32)))), (0, va_rf (some h0)), (1, va_rf x1)]) hx hb d_Grid_run_61 hl rfl (congrArg (fun t => x3 + t) (by decide : Int32.ofInt (1) = (1 : Int32))) (by decide) rfl (fun ls hl => ?_)
      refine lv_goto (tgt := 4) hx hb d_Grid_run_64 (by decide) ?_
      exact ih _ _ _ _ _ _ _ I hf (lv_sub hl [4, 5, 1, 0] rfl)

set_option maxHeartbeats 4000000 in
set_option maxRecDepth 100000 in
theorem w_Grid_run {h0 : Nat} {r : mM} (X : mX p m meth c s args b_Grid_run 20 none "ColourLinker$Grid") (G : mG D cA dA z0 s) {H : Heap} {locs : List Loc} {μ : mM} {ls : Array Slot} {x1 : Option Nat} (I : mI D cA z0 s μ H locs s.heap.size) (hf : f_Grid_run h0 μ x1 = some r) (hl : lv_has ls 20 [(0, va_rf (some h0)), (1, va_rf x1)]) : W p l e rm_Grid_run s m args below meth c H locs 0 0 (MQ below (mQW D cA z0 none r) args s 0 0 (mA z0)) (F0 m 0 ls []) := by
  have hx := X.ex
  have hb := X.by_
  unfold f_Grid_run at hf
  refine lv_iconst (v := 0) hx hb d_Grid_run_0 (by decide) ?_
  refine lv_istore_n (i := 2) (lv' := [(2, .int (0 : Int32)), (0, va_rf (some h0)), (1, va_rf x1)]) hx hb d_Grid_run_1 rfl hl (by decide) (by simp [mrf_cat]) (fun ls hl => ?_)
  refine lv_iconst (v := 0) hx hb d_Grid_run_2 (by decide) ?_
  refine lv_istore_n (i := 3) (lv' := [(3, .int (0 : Int32)), (2, .int (0 : Int32)), (0, va_rf (some h0)), (1, va_rf x1)]) hx hb d_Grid_run_3 rfl hl (by decide) rfl (fun ls hl => ?_)
  exact w_Grid_run_4 X G (fun H locs μ ls x1 x2 I hf hl => w_Grid_run_67 X G I hf hl) 4096 _ _ _ _ _ _ _ I hf (lv_sub hl [2, 3, 1, 0] rfl)

set_option maxHeartbeats 4000000 in
set_option maxRecDepth 100000 in
theorem c_Grid_run {l : Launch} {D : va_G} {cA : Nat → ClassId} {dA z0 : Nat} {μ : mM} {h0 : Nat} {x1 : Option Nat} {r : mM} (hf : f_Grid_run h0 μ x1 = some r) : Met l y_Grid_run (mW y_Grid_run b_Grid_run 20 none) rm_Grid_run (va_Pc [.ref h0, va_rf x1] (mPr D cA dA z0 μ)) (mQW D cA z0 none r) 0 0 (mA z0) := by
  refine Met.ofW (cc := b_Grid_run) (maxL := 20) (ret := none) (by decide) rfl ?_
  intro p e s m args below meth c s₁ B hml hv
  obtain ⟨rfl, G, hP⟩ := hv
  have X := mX.of B hml
  exact m_entry (lv := [(0, va_rf (some h0)), (1, va_rf x1)]) (by simp [lg_sl, mrf_cat, mc_int, mc_long, mc_ref]) (by simp [lv_args, mrf_cat, mc_int, mc_long, mc_ref, mrf_some]) (fun ls hl => w_Grid_run X G (mI.start hP) hf hl)

abbrev rm_LabXyz_cubeRoot : Room := { frames := 0, cells := 0, slots := 0, locals := 0 }
theorem h_LabXyz_cubeRoot : mCS y_LabXyz_cubeRoot b_LabXyz_cubeRoot 7 (some .long) 1 := ⟨k_575, k_78, ⟨by decide, by decide, by decide +kernel⟩, k_574⟩
set_option maxHeartbeats 4000000 in
set_option maxRecDepth 100000 in
theorem w_LabXyz_cubeRoot_44 {μ : mM} {r : Int64} (X : mX p m meth c s args b_LabXyz_cubeRoot 7 (some .long) "ColourLinker$LabXyz") (G : mG D cA dA z0 s) (I : mI D cA z0 s μ s.heap [] s.heap.size) {ls : Array Slot} {x2 : Int64} (hf : f_LabXyz_cubeRoot_44 μ x2 = some r) (hl : lv_has ls 7 [(2, .long x2)]) : W p l e rm_LabXyz_cubeRoot s m args below meth c s.heap [] 0 0 (MQ below (mQR (some (.long r))) args s 0 0 (fun _ => False)) (F0 m 44 ls []) := by
  have hx := X.ex
  have hb := X.by_
  unfold f_LabXyz_cubeRoot_44 at hf
  refine lv_lload_n hx hb d_LabXyz_cubeRoot_44 rfl (lv_at hl 0 rfl) ?_
  obtain rfl := Option.some.inj hf
  exact r_lretR X d_LabXyz_cubeRoot_45

set_option maxHeartbeats 4000000 in
set_option maxRecDepth 100000 in
theorem w_LabXyz_cubeRoot_35 {μ : mM} {r : Int64} (X : mX p m meth c s args b_LabXyz_cubeRoot 7 (some .long) "ColourLinker$LabXyz") (G : mG D cA dA z0 s) (I : mI D cA z0 s μ s.heap [] s.heap.size) {k : Int64 → Int64 → Int32 → Option (Int64)} {kx44 : Int64 → Option (Int64)} (hk : ∀ (ls : Array Slot) (x0 : Int64) (x2 : Int64) (x4 : Int32), k x0 x2 x4 = some r → lv_has ls 7 [(0, .long x0), (2, .long x2), (4, .int x4)] → W p l e rm_LabXyz_cubeRoot s m args below meth c s.heap [] 0 0 (MQ below (mQR (some (.long r))) args s 0 0 (fun _ => False)) (F0 m 7 ls [])) (hkx44 : ∀ (ls : Array Slot) (x2 : Int64), kx44 x2 = some r → lv_has ls 7 [(2, .long x2)] → W p l e rm_LabXyz_cubeRoot s m args below meth c s.heap [] 0 0 (MQ below (mQR (some (.long r))) args s 0 0 (fun _ => False)) (F0 m 44 ls [])) {ls : Array Slot} {x0 : Int64} {x2 : Int64} {x4 : Int32} (hf : f_LabXyz_cubeRoot_35 μ k kx44 x0 x2 x4 = some r) (hl : lv_has ls 7 [(0, .long x0), (2, .long x2), (4, .int x4)]) : W p l e rm_LabXyz_cubeRoot s m args below meth c s.heap [] 0 0 (MQ below (mQR (some (.long r))) args s 0 0 (fun _ => False)) (F0 m 35 ls []) := by
  have hx := X.ex
  have hb := X.by_
  unfold f_LabXyz_cubeRoot_35 at hf
  refine lv_iload hx hb d_LabXyz_cubeRoot_35 (lv_at hl 2 rfl) ?_
  refine lv_iconst (v := 2) hx hb d_LabXyz_cubeRoot_37 (by decide) ?_
  refine lv_idiv hx hb d_LabXyz_cubeRoot_38 (by decide) ?_
  refine lv_istore (i := 4) (lv' := [(4, .int (x4 / (2 : Int32))), (0, .long x0), (2, .long x2)]) hx hb d_LabXyz_cubeRoot_39 hl (by decide) rfl (fun ls hl => ?_)
  refine lv_goto (tgt := 7) hx hb d_LabXyz_cubeRoot_41 (by decide) ?_
  exact hk _ _ _ _ hf (lv_sub hl [1, 2, 0] rfl)

set_option maxHeartbeats 4000000 in
set_option maxRecDepth 100000 in
theorem w_LabXyz_cubeRoot_7 {μ : mM} {r : Int64} (X : mX p m meth c s args b_LabXyz_cubeRoot 7 (some .long) "ColourLinker$LabXyz") (G : mG D cA dA z0 s) (I : mI D cA z0 s μ s.heap [] s.heap.size) {kx44 : Int64 → Option (Int64)} (hkx44 : ∀ (ls : Array Slot) (x2 : Int64), kx44 x2 = some r → lv_has ls 7 [(2, .long x2)] → W p l e rm_LabXyz_cubeRoot s m args below meth c s.heap [] 0 0 (MQ below (mQR (some (.long r))) args s 0 0 (fun _ => False)) (F0 m 44 ls [])) : ∀ (n : Nat) (ls : Array Slot) (x0 : Int64) (x2 : Int64) (x4 : Int32), f_LabXyz_cubeRoot_7 μ kx44 n x0 x2 x4 = some r → lv_has ls 7 [(0, .long x0), (2, .long x2), (4, .int x4)] → W p l e rm_LabXyz_cubeRoot s m args below meth c s.heap [] 0 0 (MQ below (mQR (some (.long r))) args s 0 0 (fun _ => False)) (F0 m 7 ls []) := by
  have hx := X.ex
  have hb := X.by_
  intro n
  induction n with
  | zero => intro ls x0 x2 x4 hf hl; rw [f_LabXyz_cubeRoot_7] at hf; cases hf
  | succ n ih =>
    intro ls x0 x2 x4 hf hl
    rw [f_LabXyz_cubeRoot_7] at hf
    refine lv_iload hx hb d_LabXyz_cubeRoot_7 (lv_at hl 2 rfl) ?_
    refine lv_if_le (tgt := 44) hx hb d_LabXyz_cubeRoot_9 (by decide) (fun hc => ?_) (fun hc => ?_)
    · have hf := mift hf hc
      exact hkx44 _ _ hf (lv_sub hl [1] rfl)
    · have hf := miff hf hc
      refine lv_lload_n hx hb d_LabXyz_cubeRoot_12 rfl (lv_at hl 1 rfl) ?_
      refine lv_iload hx hb d_LabXyz_cubeRoot_13 (lv_at hl 2 rfl) ?_
      refine lv_i2l hx hb d_LabXyz_cubeRoot_15 rfl ?_
      refine lv_ladd hx hb d_LabXyz_cubeRoot_16 ?_
      refine lv_lstore (i := 5) (lv' := [(5, .long (x2 + (x4).toInt64)), (0, .long x0), (2, .long x2), (4, .int x4)]) hx hb d_LabXyz_cubeRoot_17 hl (by decide) rfl (fun ls hl => ?_)
      refine lv_lload hx hb d_LabXyz_cubeRoot_19 (lv_at hl 0 rfl) ?_
      refine lv_lload hx hb d_LabXyz_cubeRoot_21 (lv_at hl 0 rfl) ?_
      refine lv_lmul hx hb d_LabXyz_cubeRoot_23 ?_
      refine lv_lload hx hb d_LabXyz_cubeRoot_24 (lv_at hl 0 rfl) ?_
      refine lv_lmul hx hb d_LabXyz_cubeRoot_26 ?_
      refine lv_lload_n hx hb d_LabXyz_cubeRoot_27 rfl (lv_at hl 1 rfl) ?_
      refine r_lcgt (tgt := 35) X d_LabXyz_cubeRoot_28 d_LabXyz_cubeRoot_29 (by decide) (fun hc => ?_) (fun hc => ?_)
      · have hf := mift hf hc
        exact w_LabXyz_cubeRoot_35 X G I ih hkx44 hf (lv_sub hl [1, 2, 3] rfl)
      · have hf := miff hf hc
        refine lv_lload hx hb d_LabXyz_cubeRoot_32 (lv_at hl 0 rfl) ?_
        refine lv_lstore_n (i := 2) (lv' := [(2, .long (x2 + (x4).toInt64)), (5, .long (x2 + (x4).toInt64)), (0, .long x0), (4, .int x4)]) hx hb d_LabXyz_cubeRoot_34 rfl hl (by decide) rfl (fun ls hl => ?_)
        exact w_LabXyz_cubeRoot_35 X G I ih hkx44 hf (lv_sub hl [2, 0, 3] rfl)

set_option maxHeartbeats 4000000 in
set_option maxRecDepth 100000 in
theorem w_LabXyz_cubeRoot {μ : mM} {r : Int64} (X : mX p m meth c s args b_LabXyz_cubeRoot 7 (some .long) "ColourLinker$LabXyz") (G : mG D cA dA z0 s) (I : mI D cA z0 s μ s.heap [] s.heap.size) {ls : Array Slot} {x0 : Int64} (hf : f_LabXyz_cubeRoot μ x0 = some r) (hl : lv_has ls 7 [(0, .long x0)]) : W p l e rm_LabXyz_cubeRoot s m args below meth c s.heap [] 0 0 (MQ below (mQR (some (.long r))) args s 0 0 (fun _ => False)) (F0 m 0 ls []) := by
  have hx := X.ex
  have hb := X.by_
  unfold f_LabXyz_cubeRoot at hf
  refine lv_lconst (v := 0) hx hb d_LabXyz_cubeRoot_0 (by decide) ?_
  refine lv_lstore_n (i := 2) (lv' := [(2, .long (0 : Int64)), (0, .long x0)]) hx hb d_LabXyz_cubeRoot_1 rfl hl (by decide) rfl (fun ls hl => ?_)
  refine lv_sipush (v := 16384) hx hb d_LabXyz_cubeRoot_2 (by decide) ?_
  refine lv_istore (i := 4) (lv' := [(4, .int (16384 : Int32)), (2, .long (0 : Int64)), (0, .long x0)]) hx hb d_LabXyz_cubeRoot_5 hl (by decide) rfl (fun ls hl => ?_)
  exact w_LabXyz_cubeRoot_7 X G I (fun ls x2 hf hl => w_LabXyz_cubeRoot_44 X G I hf hl) 4096 _ _ _ _ hf (lv_sub hl [2, 1, 0] rfl)

set_option maxHeartbeats 4000000 in
set_option maxRecDepth 100000 in
theorem c_LabXyz_cubeRoot {l : Launch} {D : va_G} {cA : Nat → ClassId} {dA z0 : Nat} {μ : mM} {x0 : Int64} {r : Int64} (hf : f_LabXyz_cubeRoot μ x0 = some r) : Met l y_LabXyz_cubeRoot (mW y_LabXyz_cubeRoot b_LabXyz_cubeRoot 7 (some .long)) rm_LabXyz_cubeRoot (va_Pc [.long x0] (mPr D cA dA z0 μ)) (mQR (some (.long r))) 0 0 (fun _ => False) := by
  refine Met.ofW (cc := b_LabXyz_cubeRoot) (maxL := 7) (ret := (some .long)) (by decide) rfl ?_
  intro p e s m args below meth c s₁ B hml hv
  obtain ⟨rfl, G, hP⟩ := hv
  have X := mX.of B hml
  exact m_entry (lv := [(0, .long x0)]) (Nat.le_of_ble_eq_true rfl) rfl (fun ls hl => w_LabXyz_cubeRoot X G (mI.start hP) hf hl)

abbrev rm_LabXyz_rootOf : Room := { frames := 2, cells := 0, slots := 0, locals := 52 }
theorem h_LabXyz_rootOf : mCS y_LabXyz_rootOf b_LabXyz_rootOf 6 (some .long) 2 := ⟨k_568, k_78, ⟨by decide, by decide, by decide +kernel⟩, k_567⟩
set_option maxHeartbeats 4000000 in
set_option maxRecDepth 100000 in
theorem w_LabXyz_rootOf_48 {μ : mM} {r : Int64} (X : mX p m meth c s args b_LabXyz_rootOf 6 (some .long) "ColourLinker$LabXyz") (G : mG D cA dA z0 s) (I : mI D cA z0 s μ s.heap [] s.heap.size) {ls : Array Slot} {s0 : Int64} (hf : f_LabXyz_rootOf_48 μ s0 = some r) (hl : lv_has ls 6 []) : W p l e rm_LabXyz_rootOf s m args below meth c s.heap [] 0 0 (MQ below (mQR (some (.long r))) args s 0 0 (fun _ => False)) (F0 m 48 ls [.long s0]) := by
  have hx := X.ex
  have hb := X.by_
  unfold f_LabXyz_rootOf_48 at hf
  obtain rfl := Option.some.inj hf
  exact r_lretR X d_LabXyz_rootOf_48

set_option maxHeartbeats 4000000 in
set_option maxRecDepth 100000 in
theorem w_LabXyz_rootOf {μ : mM} {r : Int64} (X : mX p m meth c s args b_LabXyz_rootOf 6 (some .long) "ColourLinker$LabXyz") (G : mG D cA dA z0 s) (I : mI D cA z0 s μ s.heap [] s.heap.size) {ls : Array Slot} {x0 : Int64} {x2 : Int64} (hf : f_LabXyz_rootOf μ x0 x2 = some r) (hl : lv_has ls 6 [(0, .long x0), (2, .long x2)]) : W p l e rm_LabXyz_rootOf s m args below meth c s.heap [] 0 0 (MQ below (mQR (some (.long r))) args s 0 0 (fun _ => False)) (F0 m 0 ls []) := by
  have hx := X.ex
  have hb := X.by_
  unfold f_LabXyz_rootOf at hf
  refine lv_ldc2 (v := 32768) hx hb X.ow (X.w k_569) d_LabXyz_rootOf_0 ?_
  refine lv_lload_n hx hb d_LabXyz_rootOf_3 rfl (lv_at hl 0 rfl) ?_
  refine lv_lmul hx hb d_LabXyz_rootOf_4 ?_
  refine lv_lload_n hx hb d_LabXyz_rootOf_5 rfl (lv_at hl 1 rfl) ?_
  obtain ⟨q1, hv, hf⟩ := mbind hf
  refine m_caR (m_runSN (As := [.long ((32768 : Int64) * x0), .long x2]) (rest := []) X G h_CL_nearest k_570 (c_CL_nearest hv) mPr_blind (m_pre G I) rfl rfl hl.1 (Nat.le_of_ble_eq_true rfl) rfl rfl ⟨Nat.le_of_ble_eq_true rfl, Nat.le_of_ble_eq_true rfl⟩ ⟨Nat.le_refl _, Nat.le_refl _⟩ d_LabXyz_rootOf_6) ?_
  refine lv_lstore (i := 4) (lv' := [(4, .long q1), (0, .long x0), (2, .long x2)]) hx hb d_LabXyz_rootOf_9 hl (by decide) rfl (fun ls hl => ?_)
  refine lv_lload hx hb d_LabXyz_rootOf_11 (lv_at hl 0 rfl) ?_
  refine lv_ldc2 (v := 290) hx hb X.ow (X.w k_571) d_LabXyz_rootOf_13 ?_
  refine r_lcle (tgt := 32) X d_LabXyz_rootOf_16 d_LabXyz_rootOf_17 (by decide) (fun hc => ?_) (fun hc => ?_)
  · have hf := mift hf hc
    refine lv_ldc2 (v := 841) hx hb X.ow (X.w k_576) d_LabXyz_rootOf_32 ?_
    refine lv_lload hx hb d_LabXyz_rootOf_35 (lv_at hl 0 rfl) ?_
    refine lv_lmul hx hb d_LabXyz_rootOf_37 ?_
    refine lv_ldc2 (v := 216) hx hb X.ow (X.w k_577) d_LabXyz_rootOf_38 ?_
    obtain ⟨q2, hv, hf⟩ := mbind hf
    refine m_caR (m_runSN (As := [.long ((841 : Int64) * q1), .long (216 : Int64)]) (rest := []) X G h_CL_nearest k_570 (c_CL_nearest hv) mPr_blind (m_pre G I) rfl rfl hl.1 (Nat.le_of_ble_eq_true rfl) rfl rfl ⟨Nat.le_of_ble_eq_true rfl, Nat.le_of_ble_eq_true rfl⟩ ⟨Nat.le_refl _, Nat.le_refl _⟩ d_LabXyz_rootOf_41) ?_
    refine lv_ldc2 (v := 2260) hx hb X.ow (X.w k_578) d_LabXyz_rootOf_44 ?_
    refine lv_ladd hx hb d_LabXyz_rootOf_47 ?_
    exact w_LabXyz_rootOf_48 X G I hf (lv_sub hl [] rfl)
  · have hf := miff hf hc
    refine lv_ldc2 (v := 134217728) hx hb X.ow (X.w k_572) d_LabXyz_rootOf_20 ?_
    refine lv_lload hx hb d_LabXyz_rootOf_23 (lv_at hl 0 rfl) ?_
    refine lv_lmul hx hb d_LabXyz_rootOf_25 ?_
    obtain ⟨q3, hv, hf⟩ := mbind hf
    refine m_caR (m_runS (As := [.long ((134217728 : Int64) * q1)]) (rest := []) X h_LabXyz_cubeRoot k_573 (c_LabXyz_cubeRoot hv) mPr_blind (m_pre G I) rfl rfl hl.1 (Nat.le_of_ble_eq_true rfl) rfl rfl ⟨Nat.le_of_ble_eq_true rfl, Nat.le_of_ble_eq_true rfl⟩ ⟨Nat.le_refl _, Nat.le_refl _⟩ d_LabXyz_rootOf_26) ?_
    refine lv_goto (tgt := 48) hx hb d_LabXyz_rootOf_29 (by decide) ?_
    exact w_LabXyz_rootOf_48 X G I hf (lv_sub hl [] rfl)

set_option maxHeartbeats 4000000 in
set_option maxRecDepth 100000 in
theorem c_LabXyz_rootOf {l : Launch} {D : va_G} {cA : Nat → ClassId} {dA z0 : Nat} {μ : mM} {x0 : Int64} {x2 : Int64} {r : Int64} (hf : f_LabXyz_rootOf μ x0 x2 = some r) : Met l y_LabXyz_rootOf (mW y_LabXyz_rootOf b_LabXyz_rootOf 6 (some .long)) rm_LabXyz_rootOf (va_Pc [.long x0, .long x2] (mPr D cA dA z0 μ)) (mQR (some (.long r))) 0 0 (fun _ => False) := by
  refine Met.ofW (cc := b_LabXyz_rootOf) (maxL := 6) (ret := (some .long)) (by decide) rfl ?_
  intro p e s m args below meth c s₁ B hml hv
  obtain ⟨rfl, G, hP⟩ := hv
  have X := mX.of B hml
  exact m_entry (lv := [(0, .long x0), (2, .long x2)]) (Nat.le_of_ble_eq_true rfl) rfl (fun ls hl => w_LabXyz_rootOf X G (mI.start hP) hf hl)

end WK
