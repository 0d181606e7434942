section WK
variable {p : Program} {l : Launch} {e : Env} {s : State} {m : MethodId} {args : Array Value} {below : List Frame} {meth : Method} {c : Code} {D : va_G} {cA : Nat → ClassId} {dA z0 : Nat}
abbrev rm_Math_floorDiv : Room := { frames := 0, cells := 0, slots := 0, locals := 0 }
theorem h_Math_floorDiv : mCS y_Math_floorDiv b_Math_floorDiv 6 (some .long) 2 := ⟨k_466, k_83, ⟨by decide, by decide, by decide +kernel⟩, k_465⟩
set_option maxHeartbeats 4000000 in
set_option maxRecDepth 100000 in
theorem w_Math_floorDiv_27 {μ : mM} {r : Int64} (X : mX p m meth c s args b_Math_floorDiv 6 (some .long) "java/lang/Math") (G : mG D cA dA z0 s) (I : mI D cA z0 s μ s.heap [] s.heap.size) {ls : Array Slot} {x4 : Int64} (hf : f_Math_floorDiv_27 μ x4 = some r) (hl : lv_has ls 6 [(4, .long x4)]) : W p l e rm_Math_floorDiv s m args below meth c s.heap [] 0 0 (MQ below (mQR (some (.long r))) args s 0 0 (fun _ => False)) (F0 m 27 ls []) := by
  have hx := X.ex
  have hb := X.by_
  unfold f_Math_floorDiv_27 at hf
  refine lv_lload hx hb d_Math_floorDiv_27 (lv_at hl 0 rfl) ?_
  obtain rfl := Option.some.inj hf
  exact r_lretR X d_Math_floorDiv_29

set_option maxHeartbeats 4000000 in
set_option maxRecDepth 100000 in
theorem w_Math_floorDiv {μ : mM} {r : Int64} (X : mX p m meth c s args b_Math_floorDiv 6 (some .long) "java/lang/Math") (G : mG D cA dA z0 s) (I : mI D cA z0 s μ s.heap [] s.heap.size) {ls : Array Slot} {x0 : Int64} {x2 : Int64} (hf : f_Math_floorDiv μ x0 x2 = some r) (hl : lv_has ls 6 [(0, .long x0), (2, .long x2)]) : W p l e rm_Math_floorDiv s m args below meth c s.heap [] 0 0 (MQ below (mQR (some (.long r))) args s 0 0 (fun _ => False)) (F0 m 0 ls []) := by
  have hx := X.ex
  have hb := X.by_
  unfold f_Math_floorDiv at hf
  refine lv_lload_n hx hb d_Math_floorDiv_0 rfl (lv_at hl 0 rfl) ?_
  refine lv_lload_n hx hb d_Math_floorDiv_1 rfl (lv_at hl 1 rfl) ?_
  by_cases hc : x2 = 0
  · exact absurd (mift hf hc) (by simp)
  have hf := miff hf hc
  refine lv_ldiv hx hb d_Math_floorDiv_2 hc ?_
  refine lv_lstore (i := 4) (lv' := [(4, .long (x0 / x2)), (0, .long x0), (2, .long x2)]) hx hb d_Math_floorDiv_3 hl (by decide) rfl (fun ls hl => ?_)
  refine lv_lload_n hx hb d_Math_floorDiv_5 rfl (lv_at hl 1 rfl) ?_
  refine lv_lload_n hx hb d_Math_floorDiv_6 rfl (lv_at hl 2 rfl) ?_
  refine lv_lxor hx hb d_Math_floorDiv_7 ?_
  refine lv_lconst (v := 0) hx hb d_Math_floorDiv_8 (by decide) ?_
  refine r_lcge (tgt := 27) X d_Math_floorDiv_9 d_Math_floorDiv_10 (by decide) (fun hc => ?_) (fun hc => ?_)
  · have hf := mift hf hc
    exact w_Math_floorDiv_27 X G I hf (lv_sub hl [0] rfl)
  · have hf := miff hf hc
    refine lv_lload hx hb d_Math_floorDiv_13 (lv_at hl 0 rfl) ?_
    refine lv_lload_n hx hb d_Math_floorDiv_15 rfl (lv_at hl 2 rfl) ?_
    refine lv_lmul hx hb d_Math_floorDiv_16 ?_
    refine lv_lload_n hx hb d_Math_floorDiv_17 rfl (lv_at hl 1 rfl) ?_
    refine r_lceq (tgt := 27) X d_Math_floorDiv_18 d_Math_floorDiv_19 (by decide) (fun hc => ?_) (fun hc => ?_)
    · have hf := mift hf hc
      exact w_Math_floorDiv_27 X G I hf (lv_sub hl [0] rfl)
    · have hf := miff hf hc
      refine lv_lload hx hb d_Math_floorDiv_22 (lv_at hl 0 rfl) ?_
      refine lv_lconst (v := 1) hx hb d_Math_floorDiv_24 (by decide) ?_
      refine lv_lsub hx hb d_Math_floorDiv_25 ?_
      obtain rfl := Option.some.inj hf
      exact r_lretR X d_Math_floorDiv_26

set_option maxHeartbeats 4000000 in
set_option maxRecDepth 100000 in
theorem c_Math_floorDiv {l : Launch} {D : va_G} {cA : Nat → ClassId} {dA z0 : Nat} {μ : mM} {x0 : Int64} {x2 : Int64} {r : Int64} (hf : f_Math_floorDiv μ x0 x2 = some r) : Met l y_Math_floorDiv (mW y_Math_floorDiv b_Math_floorDiv 6 (some .long)) rm_Math_floorDiv (va_Pc [.long x0, .long x2] (mPr D cA dA z0 μ)) (mQR (some (.long r))) 0 0 (fun _ => False) := by
  refine m_ofW (cc := b_Math_floorDiv) (maxL := 6) (ret := (some .long)) (by decide +kernel) rfl ?_
  intro p e s m args below meth c s₁ B hml hv
  obtain ⟨rfl, G, hP⟩ := hv
  have X := mX.of B hml
  exact m_entry (lv := [(0, .long x0), (2, .long x2)]) (Nat.le_of_ble_eq_true rfl) rfl (fun ls hl => w_Math_floorDiv X G (mI.start hP) hf hl)

abbrev rm_CL_nearest : Room := { frames := 1, cells := 0, slots := 0, locals := 25 }
theorem h_CL_nearest : mCS y_CL_nearest b_CL_nearest 8 (some .long) 2 := ⟨k_462, k_75, ⟨by decide, by decide, by decide +kernel⟩, k_461⟩
set_option maxHeartbeats 4000000 in
set_option maxRecDepth 100000 in
theorem w_CL_nearest_34 {μ : mM} {r : Int64} (X : mX p m meth c s args b_CL_nearest 8 (some .long) "ColourLinker") (G : mG D cA dA z0 s) (I : mI D cA z0 s μ s.heap [] s.heap.size) {ls : Array Slot} {x4 : Int64} {s0 : Int64} (hf : f_CL_nearest_34 μ x4 s0 = some r) (hl : lv_has ls 8 [(4, .long x4)]) : W p l e rm_CL_nearest s m args below meth c s.heap [] 0 0 (MQ below (mQR (some (.long r))) args s 0 0 (fun _ => False)) (F0 m 34 ls [.long s0]) := by
  have hx := X.ex
  have hb := X.by_
  unfold f_CL_nearest_34 at hf
  refine lv_lstore (i := 6) (lv' := [(6, .long s0), (4, .long x4)]) hx hb d_CL_nearest_34 hl (by decide) rfl (fun ls hl => ?_)
  refine lv_ldc2 (v := 2) hx hb X.ow (X.w k_463) d_CL_nearest_36 ?_
  refine lv_lload hx hb d_CL_nearest_39 (lv_at hl 1 rfl) ?_
  refine lv_lmul hx hb d_CL_nearest_41 ?_
  refine lv_lload hx hb d_CL_nearest_42 (lv_at hl 0 rfl) ?_
  refine lv_ladd hx hb d_CL_nearest_44 ?_
  refine lv_ldc2 (v := 2) hx hb X.ow (X.w k_463) d_CL_nearest_45 ?_
  refine lv_lload hx hb d_CL_nearest_48 (lv_at hl 0 rfl) ?_
  refine lv_lmul hx hb d_CL_nearest_50 ?_
  obtain ⟨q1, hv, hf⟩ := mbind hf
  refine m_caR (m_runS (As := [.long (((2 : Int64) * x4) + s0), .long ((2 : Int64) * s0)]) (rest := []) X h_Math_floorDiv k_464 (c_Math_floorDiv hv) mPr_blind (m_pre G I) rfl rfl hl.1 (Nat.le_of_ble_eq_true rfl) rfl rfl ⟨Nat.le_of_ble_eq_true rfl, Nat.le_of_ble_eq_true rfl⟩ ⟨Nat.le_refl _, Nat.le_refl _⟩ d_CL_nearest_51) ?_
  obtain rfl := Option.some.inj hf
  exact r_lretR X d_CL_nearest_54

set_option maxHeartbeats 4000000 in
set_option maxRecDepth 100000 in
theorem w_CL_nearest_20 {μ : mM} {r : Int64} (X : mX p m meth c s args b_CL_nearest 8 (some .long) "ColourLinker") (G : mG D cA dA z0 s) (I : mI D cA z0 s μ s.heap [] s.heap.size) {ls : Array Slot} {x2 : Int64} {s0 : Int64} (hf : f_CL_nearest_20 μ x2 s0 = some r) (hl : lv_has ls 8 [(2, .long x2)]) : W p l e rm_CL_nearest s m args below meth c s.heap [] 0 0 (MQ below (mQR (some (.long r))) args s 0 0 (fun _ => False)) (F0 m 20 ls [.long s0]) := by
  have hx := X.ex
  have hb := X.by_
  unfold f_CL_nearest_20 at hf
  refine lv_lstore (i := 4) (lv' := [(4, .long s0), (2, .long x2)]) hx hb d_CL_nearest_20 hl (by decide) rfl (fun ls hl => ?_)
  refine lv_lload_n hx hb d_CL_nearest_22 rfl (lv_at hl 1 rfl) ?_
  refine lv_lconst (v := 0) hx hb d_CL_nearest_23 (by decide) ?_
  refine r_lcge (tgt := 33) X d_CL_nearest_24 d_CL_nearest_25 (by decide) (fun hc => ?_) (fun hc => ?_)
  · have hf := mift hf hc
    refine lv_lload_n hx hb d_CL_nearest_33 rfl (lv_at hl 1 rfl) ?_
    exact w_CL_nearest_34 X G I hf (lv_sub hl [0] rfl)
  · have hf := miff hf hc
    refine lv_lload_n hx hb d_CL_nearest_28 rfl (lv_at hl 1 rfl) ?_
    refine lv_lneg hx hb d_CL_nearest_29 ?_
    refine lv_goto (tgt := 34) hx hb d_CL_nearest_30 (by decide) ?_
    exact w_CL_nearest_34 X G I hf (lv_sub hl [0] rfl)

set_option maxHeartbeats 4000000 in
set_option maxRecDepth 100000 in
theorem w_CL_nearest {μ : mM} {r : Int64} (X : mX p m meth c s args b_CL_nearest 8 (some .long) "ColourLinker") (G : mG D cA dA z0 s) (I : mI D cA z0 s μ s.heap [] s.heap.size) {ls : Array Slot} {x0 : Int64} {x2 : Int64} (hf : f_CL_nearest μ x0 x2 = some r) (hl : lv_has ls 8 [(0, .long x0), (2, .long x2)]) : W p l e rm_CL_nearest s m args below meth c s.heap [] 0 0 (MQ below (mQR (some (.long r))) args s 0 0 (fun _ => False)) (F0 m 0 ls []) := by
  have hx := X.ex
  have hb := X.by_
  unfold f_CL_nearest at hf
  refine lv_lload_n hx hb d_CL_nearest_0 rfl (lv_at hl 1 rfl) ?_
  refine lv_lconst (v := 0) hx hb d_CL_nearest_1 (by decide) ?_
  refine r_lcne (tgt := 8) X d_CL_nearest_2 d_CL_nearest_3 (by decide) (fun hc => ?_) (fun hc => ?_)
  · have hf := miff hf hc
    refine lv_lload_n hx hb d_CL_nearest_8 rfl (lv_at hl 1 rfl) ?_
    refine lv_lconst (v := 0) hx hb d_CL_nearest_9 (by decide) ?_
    refine r_lcge (tgt := 19) X d_CL_nearest_10 d_CL_nearest_11 (by decide) (fun hc => ?_) (fun hc => ?_)
    · have hf := mift hf hc
      refine lv_lload_n hx hb d_CL_nearest_19 rfl (lv_at hl 0 rfl) ?_
      exact w_CL_nearest_20 X G I hf (lv_sub hl [1] rfl)
    · have hf := miff hf hc
      refine lv_lload_n hx hb d_CL_nearest_14 rfl (lv_at hl 0 rfl) ?_
      refine lv_lneg hx hb d_CL_nearest_15 ?_
      refine lv_goto (tgt := 20) hx hb d_CL_nearest_16 (by decide) ?_
      exact w_CL_nearest_20 X G I hf (lv_sub hl [1] rfl)
  · have hf := mift hf hc
    refine lv_lconst (v := 0) hx hb d_CL_nearest_6 (by decide) ?_
    obtain rfl := Option.some.inj hf
    exact r_lretR X d_CL_nearest_7

set_option maxHeartbeats 4000000 in
set_option maxRecDepth 100000 in
theorem c_CL_nearest {l : Launch} {D : va_G} {cA : Nat → ClassId} {dA z0 : Nat} {μ : mM} {x0 : Int64} {x2 : Int64} {r : Int64} (hf : f_CL_nearest μ x0 x2 = some r) : Met l y_CL_nearest (mW y_CL_nearest b_CL_nearest 8 (some .long)) rm_CL_nearest (va_Pc [.long x0, .long x2] (mPr D cA dA z0 μ)) (mQR (some (.long r))) 0 0 (fun _ => False) := by
  refine Met.ofW (cc := b_CL_nearest) (maxL := 8) (ret := (some .long)) (by decide) rfl ?_
  intro p e s m args below meth c s₁ B hml hv
  obtain ⟨rfl, G, hP⟩ := hv
  have X := mX.of B hml
  exact m_entry (lv := [(0, .long x0), (2, .long x2)]) (Nat.le_of_ble_eq_true rfl) rfl (fun ls hl => w_CL_nearest X G (mI.start hP) hf hl)

abbrev rm_Adjust_scaled : Room := { frames := 2, cells := 0, slots := 0, locals := 52 }
theorem h_Adjust_scaled : mCV y_Adjust_scaled b_Adjust_scaled 4 (some .long) 2 := ⟨k_459, k_89, ⟨by decide, by decide, by decide +kernel⟩, k_457, k_8⟩
set_option maxHeartbeats 4000000 in
set_option maxRecDepth 100000 in
theorem w_Adjust_scaled {μ : mM} {h0 : Nat} {r : Int64} (X : mX p m meth c s args b_Adjust_scaled 4 (some .long) "ColourLinker$Adjust") (G : mG D cA dA z0 s) (I : mI D cA z0 s μ s.heap [] s.heap.size) {ls : Array Slot} {x1 : Int64} {x3 : Int32} (hf : f_Adjust_scaled μ h0 x1 x3 = some r) (hl : lv_has ls 4 [(0, va_rf (some h0)), (1, .long x1), (3, .int x3)]) : W p l e rm_Adjust_scaled s m args below meth c s.heap [] 0 0 (MQ below (mQR (some (.long r))) args s 0 0 (fun _ => False)) (F0 m 0 ls []) := by
  have hx := X.ex
  have hb := X.by_
  unfold f_Adjust_scaled at hf
  refine lv_lload_n hx hb d_Adjust_scaled_0 rfl (lv_at hl 1 rfl) ?_
  refine r_aload_n X d_Adjust_scaled_1 rfl (lv_at hl 0 rfl) ?_
  obtain ⟨v1, hv, hf⟩ := mbind hf
  refine r_getf X G I (mfA_e hv) o_Adjust_from k_727 (Or.inl rfl) d_Adjust_scaled_2 ?_
  obtain ⟨v2, hv, hf⟩ := mbind hf
  refine r_getfN X G I (mfA_e hv) o_Profile_white k_409 (Or.inl rfl) d_Adjust_scaled_5 ?_
  refine lv_iload_n hx hb d_Adjust_scaled_8 rfl (lv_at hl 2 rfl) ?_
  obtain ⟨v3, hv, hf⟩ := mbind hf
  refine r_iald X G I hv d_Adjust_scaled_9 ?_
  refine lv_i2l hx hb d_Adjust_scaled_10 rfl ?_
  refine lv_lmul hx hb d_Adjust_scaled_11 ?_
  refine r_aload_n X d_Adjust_scaled_12 rfl (lv_at hl 0 rfl) ?_
  obtain ⟨v4, hv, hf⟩ := mbind hf
  refine r_getf X G I (mfA_e hv) o_Adjust_to k_728 (Or.inl rfl) d_Adjust_scaled_13 ?_
  obtain ⟨v5, hv, hf⟩ := mbind hf
  refine r_getfN X G I (mfA_e hv) o_Profile_white k_409 (Or.inl rfl) d_Adjust_scaled_16 ?_
  refine lv_iload_n hx hb d_Adjust_scaled_19 rfl (lv_at hl 2 rfl) ?_
  obtain ⟨v6, hv, hf⟩ := mbind hf
  refine r_iald X G I hv d_Adjust_scaled_20 ?_
  refine lv_i2l hx hb d_Adjust_scaled_21 rfl ?_
  obtain ⟨q7, hv, hf⟩ := mbind hf
  refine m_caR (m_runSN (As := [.long (x1 * (v3).toInt64), .long ((v6).toInt64)]) (rest := []) X G h_CL_nearest k_460 (c_CL_nearest hv) mPr_blind (m_pre G I) rfl rfl hl.1 (Nat.le_of_ble_eq_true rfl) rfl rfl ⟨Nat.le_of_ble_eq_true rfl, Nat.le_of_ble_eq_true rfl⟩ ⟨Nat.le_refl _, Nat.le_refl _⟩ d_Adjust_scaled_22) ?_
  obtain rfl := Option.some.inj hf
  exact r_lretR X d_Adjust_scaled_25

set_option maxHeartbeats 4000000 in
set_option maxRecDepth 100000 in
theorem c_Adjust_scaled {l : Launch} {D : va_G} {cA : Nat → ClassId} {dA z0 : Nat} {μ : mM} {h0 : Nat} {x1 : Int64} {x3 : Int32} {r : Int64} (hf : f_Adjust_scaled μ h0 x1 x3 = some r) : Met l y_Adjust_scaled (mW y_Adjust_scaled b_Adjust_scaled 4 (some .long)) rm_Adjust_scaled (va_Pc [.ref h0, .long x1, .int x3] (mPr D cA dA z0 μ)) (mQR (some (.long r))) 0 0 (fun _ => False) := by
  refine Met.ofW (cc := b_Adjust_scaled) (maxL := 4) (ret := (some .long)) (by decide) rfl ?_
  intro p e s m args below meth c s₁ B hml hv
  obtain ⟨rfl, G, hP⟩ := hv
  have X := mX.of B hml
  exact m_entry (lv := [(0, va_rf (some h0)), (1, .long x1), (3, .int x3)]) (Nat.le_of_ble_eq_true rfl) rfl (fun ls hl => w_Adjust_scaled X G (mI.start hP) hf hl)

abbrev rm_Profile_blackLevel : Room := { frames := 0, cells := 0, slots := 0, locals := 0 }
theorem h_Profile_blackLevel : mCV y_Profile_blackLevel b_Profile_blackLevel 2 (some .int) 1 := ⟨k_476, k_80, ⟨by decide, by decide, by decide +kernel⟩, k_474, k_475⟩
set_option maxHeartbeats 4000000 in
set_option maxRecDepth 100000 in
theorem w_Profile_blackLevel_19 {μ : mM} {h0 : Nat} {r : Int32} (X : mX p m meth c s args b_Profile_blackLevel 2 (some .int) "ColourLinker$Profile") (G : mG D cA dA z0 s) (I : mI D cA z0 s μ s.heap [] s.heap.size) {ls : Array Slot} {s0 : Int32} (hf : f_Profile_blackLevel_19 μ h0 s0 = some r) (hl : lv_has ls 2 [(0, va_rf (some h0))]) : W p l e rm_Profile_blackLevel s m args below meth c s.heap [] 0 0 (MQ below (mQR (some (.int r))) args s 0 0 (fun _ => False)) (F0 m 19 ls [.int s0]) := by
  have hx := X.ex
  have hb := X.by_
  unfold f_Profile_blackLevel_19 at hf
  obtain rfl := Option.some.inj hf
  exact r_iretR X d_Profile_blackLevel_19

set_option maxHeartbeats 4000000 in
set_option maxRecDepth 100000 in
theorem w_Profile_blackLevel_18 {μ : mM} {h0 : Nat} {r : Int32} (X : mX p m meth c s args b_Profile_blackLevel 2 (some .int) "ColourLinker$Profile") (G : mG D cA dA z0 s) (I : mI D cA z0 s μ s.heap [] s.heap.size) {ls : Array Slot}  (hf : f_Profile_blackLevel_18 μ h0 = some r) (hl : lv_has ls 2 [(0, va_rf (some h0))]) : W p l e rm_Profile_blackLevel s m args below meth c s.heap [] 0 0 (MQ below (mQR (some (.int r))) args s 0 0 (fun _ => False)) (F0 m 18 ls []) := by
  have hx := X.ex
  have hb := X.by_
  unfold f_Profile_blackLevel_18 at hf
  refine lv_iconst (v := 0) hx hb d_Profile_blackLevel_18 (by decide) ?_
  exact w_Profile_blackLevel_19 X G I hf hl

set_option maxHeartbeats 4000000 in
set_option maxRecDepth 100000 in
theorem w_Profile_blackLevel {μ : mM} {h0 : Nat} {r : Int32} (X : mX p m meth c s args b_Profile_blackLevel 2 (some .int) "ColourLinker$Profile") (G : mG D cA dA z0 s) (I : mI D cA z0 s μ s.heap [] s.heap.size) {ls : Array Slot} {x1 : Int32} (hf : f_Profile_blackLevel μ h0 x1 = some r) (hl : lv_has ls 2 [(0, va_rf (some h0)), (1, .int x1)]) : W p l e rm_Profile_blackLevel s m args below meth c s.heap [] 0 0 (MQ below (mQR (some (.int r))) args s 0 0 (fun _ => False)) (F0 m 0 ls []) := by
  have hx := X.ex
  have hb := X.by_
  unfold f_Profile_blackLevel at hf
  refine lv_iload_n hx hb d_Profile_blackLevel_0 rfl (lv_at hl 1 rfl) ?_
  refine lv_if_lt (tgt := 18) hx hb d_Profile_blackLevel_1 (by decide) (fun hc => ?_) (fun hc => ?_)
  · have hf := mift hf hc
    exact w_Profile_blackLevel_18 X G I hf (lv_sub hl [0] rfl)
  · have hf := miff hf hc
    refine lv_iload_n hx hb d_Profile_blackLevel_4 rfl (lv_at hl 1 rfl) ?_
    refine lv_iconst (v := 3) hx hb d_Profile_blackLevel_5 (by decide) ?_
    refine lv_icmp_ge (tgt := 18) hx hb d_Profile_blackLevel_6 (by decide) (fun hc => ?_) (fun hc => ?_)
    · have hf := mift hf hc
      exact w_Profile_blackLevel_18 X G I hf (lv_sub hl [0] rfl)
    · have hf := miff hf hc
      refine r_aload_n X d_Profile_blackLevel_9 rfl (lv_at hl 0 rfl) ?_
      obtain ⟨v1, hv, hf⟩ := mbind hf
      refine r_getf X G I (mfA_e hv) o_Profile_blackLevels k_410 (Or.inl rfl) d_Profile_blackLevel_10 ?_
      refine lv_iload_n hx hb d_Profile_blackLevel_13 rfl (lv_at hl 1 rfl) ?_
      obtain ⟨v2, hv, hf⟩ := mbind hf
      refine r_iald X G I hv d_Profile_blackLevel_14 ?_
      refine lv_goto (tgt := 19) hx hb d_Profile_blackLevel_15 (by decide) ?_
      exact w_Profile_blackLevel_19 X G I hf (lv_sub hl [0] rfl)

set_option maxHeartbeats 4000000 in
set_option maxRecDepth 100000 in
theorem c_Profile_blackLevel {l : Launch} {D : va_G} {cA : Nat → ClassId} {dA z0 : Nat} {μ : mM} {h0 : Nat} {x1 : Int32} {r : Int32} (hf : f_Profile_blackLevel μ h0 x1 = some r) : Met l y_Profile_blackLevel (mW y_Profile_blackLevel b_Profile_blackLevel 2 (some .int)) rm_Profile_blackLevel (va_Pc [.ref h0, .int x1] (mPr D cA dA z0 μ)) (mQR (some (.int r))) 0 0 (fun _ => False) := by
  refine Met.ofW (cc := b_Profile_blackLevel) (maxL := 2) (ret := (some .int)) (by decide) rfl ?_
  intro p e s m args below meth c s₁ B hml hv
  obtain ⟨rfl, G, hP⟩ := hv
  have X := mX.of B hml
  exact m_entry (lv := [(0, va_rf (some h0)), (1, .int x1)]) (Nat.le_of_ble_eq_true rfl) rfl (fun ls hl => w_Profile_blackLevel X G (mI.start hP) hf hl)

abbrev rm_Adjust_darkened : Room := { frames := 2, cells := 0, slots := 0, locals := 52 }
theorem h_Adjust_darkened : mCV y_Adjust_darkened b_Adjust_darkened 4 (some .long) 2 := ⟨k_470, k_89, ⟨by decide, by decide, by decide +kernel⟩, k_469, k_9⟩
set_option maxHeartbeats 4000000 in
set_option maxRecDepth 100000 in
theorem w_Adjust_darkened {μ : mM} {h0 : Nat} {r : Int64} (X : mX p m meth c s args b_Adjust_darkened 4 (some .long) "ColourLinker$Adjust") (G : mG D cA dA z0 s) (I : mI D cA z0 s μ s.heap [] s.heap.size) {ls : Array Slot} {x1 : Int64} {x3 : Int32} (hf : f_Adjust_darkened μ h0 x1 x3 = some r) (hl : lv_has ls 4 [(0, va_rf (some h0)), (1, .long x1), (3, .int x3)]) : W p l e rm_Adjust_darkened s m args below meth c s.heap [] 0 0 (MQ below (mQR (some (.long r))) args s 0 0 (fun _ => False)) (F0 m 0 ls []) := by
  have hx := X.ex
  have hb := X.by_
  unfold f_Adjust_darkened at hf
  refine r_getsN X G I k_471 rfl d_Adjust_darkened_0 ?_
  refine lv_iload_n hx hb d_Adjust_darkened_3 rfl (lv_at hl 2 rfl) ?_
  obtain ⟨v1, hv, hf⟩ := mbind hf
  refine r_ti X G I hv d_Adjust_darkened_4 ?_
  refine lv_i2l hx hb d_Adjust_darkened_5 rfl ?_
  refine r_getsN X G I k_471 rfl d_Adjust_darkened_6 ?_
  refine lv_iload_n hx hb d_Adjust_darkened_9 rfl (lv_at hl 2 rfl) ?_
  obtain ⟨v2, hv, hf⟩ := mbind hf
  refine r_ti X G I hv d_Adjust_darkened_10 ?_
  refine lv_i2l hx hb d_Adjust_darkened_11 rfl ?_
  refine lv_lload_n hx hb d_Adjust_darkened_12 rfl (lv_at hl 1 rfl) ?_
  refine lv_lsub hx hb d_Adjust_darkened_13 ?_
  refine lv_ldc (v := 32768) hx hb X.ow (X.w k_472) d_Adjust_darkened_14 ?_
  refine r_aload_n X d_Adjust_darkened_16 rfl (lv_at hl 0 rfl) ?_
  obtain ⟨v3, hv, hf⟩ := mbind hf
  refine r_getf X G I (mfA_e hv) o_Adjust_to k_728 (Or.inl rfl) d_Adjust_darkened_17 ?_
  refine r_aload_n X d_Adjust_darkened_20 rfl (lv_at hl 0 rfl) ?_
  obtain ⟨v4, hv, hf⟩ := mbind hf
  refine r_getf X G I (mfI_e hv) o_Adjust_intent k_729 (Or.inl rfl) d_Adjust_darkened_21 ?_
  obtain ⟨q5, hv, hf⟩ := mbind hf
  obtain ⟨a, ha, hv⟩ := mbind hv
  obtain ⟨ha, fs, hm⟩ := mrc_e ha
  refine m_caR (m_runV (As := [.int v4]) (r := v3) (rest := [.int (32768 : Int32), .long ((v2).toInt64 - x1), .long ((v1).toInt64)]) X G I h_Profile_blackLevel k_473 (c_Profile_blackLevel hv) mPr_blind (m_pre G I) hm rfl ha rfl rfl hl.1 (Nat.le_of_ble_eq_true rfl) rfl rfl ⟨Nat.le_of_ble_eq_true rfl, Nat.le_of_ble_eq_true rfl⟩ ⟨Nat.le_refl _, Nat.le_refl _⟩ d_Adjust_darkened_24) ?_
  refine lv_isub hx hb d_Adjust_darkened_27 ?_
  refine lv_i2l hx hb d_Adjust_darkened_28 rfl ?_
  refine lv_lmul hx hb d_Adjust_darkened_29 ?_
  refine lv_ldc (v := 32768) hx hb X.ow (X.w k_472) d_Adjust_darkened_30 ?_
  refine r_aload_n X d_Adjust_darkened_32 rfl (lv_at hl 0 rfl) ?_
  obtain ⟨v6, hv, hf⟩ := mbind hf
  refine r_getf X G I (mfA_e hv) o_Adjust_from k_727 (Or.inl rfl) d_Adjust_darkened_33 ?_
  refine r_aload_n X d_Adjust_darkened_36 rfl (lv_at hl 0 rfl) ?_
  obtain ⟨v7, hv, hf⟩ := mbind hf
  refine r_getf X G I (mfI_e hv) o_Adjust_intent k_729 (Or.inl rfl) d_Adjust_darkened_37 ?_
  obtain ⟨q8, hv, hf⟩ := mbind hf
  obtain ⟨a, ha, hv⟩ := mbind hv
  obtain ⟨ha, fs, hm⟩ := mrc_e ha
  refine m_caR (m_runV (As := [.int v7]) (r := v6) (rest := [.int (32768 : Int32), .long (((v2).toInt64 - x1) * (((32768 : Int32) - q5)).toInt64), .long ((v1).toInt64)]) X G I h_Profile_blackLevel k_473 (c_Profile_blackLevel hv) mPr_blind (m_pre G I) hm rfl ha rfl rfl hl.1 (Nat.le_of_ble_eq_true rfl) rfl rfl ⟨Nat.le_of_ble_eq_true rfl, Nat.le_of_ble_eq_true rfl⟩ ⟨Nat.le_refl _, Nat.le_refl _⟩ d_Adjust_darkened_40) ?_
  refine lv_isub hx hb d_Adjust_darkened_43 ?_
  refine lv_i2l hx hb d_Adjust_darkened_44 rfl ?_
  obtain ⟨q9, hv, hf⟩ := mbind hf
  refine m_caR (m_runSN (As := [.long (((v2).toInt64 - x1) * (((32768 : Int32) - q5)).toInt64), .long ((((32768 : Int32) - q8)).toInt64)]) (rest := [.long ((v1).toInt64)]) X G h_CL_nearest k_460 (c_CL_nearest hv) mPr_blind (m_pre G I) rfl rfl hl.1 (Nat.le_of_ble_eq_true rfl) rfl rfl ⟨Nat.le_of_ble_eq_true rfl, Nat.le_of_ble_eq_true rfl⟩ ⟨Nat.le_refl _, Nat.le_refl _⟩ d_Adjust_darkened_45) ?_
  refine lv_lsub hx hb d_Adjust_darkened_48 ?_
  obtain rfl := Option.some.inj hf
  exact r_lretR X d_Adjust_darkened_49

set_option maxHeartbeats 4000000 in
set_option maxRecDepth 100000 in
theorem c_Adjust_darkened {l : Launch} {D : va_G} {cA : Nat → ClassId} {dA z0 : Nat} {μ : mM} {h0 : Nat} {x1 : Int64} {x3 : Int32} {r : Int64} (hf : f_Adjust_darkened μ h0 x1 x3 = some r) : Met l y_Adjust_darkened (mW y_Adjust_darkened b_Adjust_darkened 4 (some .long)) rm_Adjust_darkened (va_Pc [.ref h0, .long x1, .int x3] (mPr D cA dA z0 μ)) (mQR (some (.long r))) 0 0 (fun _ => False) := by
  refine Met.ofW (cc := b_Adjust_darkened) (maxL := 4) (ret := (some .long)) (by decide) rfl ?_
  intro p e s m args below meth c s₁ B hml hv
  obtain ⟨rfl, G, hP⟩ := hv
  have X := mX.of B hml
  exact m_entry (lv := [(0, va_rf (some h0)), (1, .long x1), (3, .int x3)]) (Nat.le_of_ble_eq_true rfl) rfl (fun ls hl => w_Adjust_darkened X G (mI.start hP) hf hl)

abbrev rm_CL_clip : Room := { frames := 1, cells := 0, slots := 0, locals := 23 }
theorem h_CL_clip : mCS y_CL_clip b_CL_clip 2 (some .int) 1 := ⟨k_479, k_75, ⟨by decide, by decide, by decide +kernel⟩, k_478⟩
set_option maxHeartbeats 4000000 in
set_option maxRecDepth 100000 in
theorem w_CL_clip {μ : mM} {r : Int32} (X : mX p m meth c s args b_CL_clip 2 (some .int) "ColourLinker") (G : mG D cA dA z0 s) (I : mI D cA z0 s μ s.heap [] s.heap.size) {ls : Array Slot} {x0 : Int64} (hf : f_CL_clip μ x0 = some r) (hl : lv_has ls 2 [(0, .long x0)]) : W p l e rm_CL_clip s m args below meth c s.heap [] 0 0 (MQ below (mQR (some (.int r))) args s 0 0 (fun _ => False)) (F0 m 0 ls []) := by
  have hx := X.ex
  have hb := X.by_
  unfold f_CL_clip at hf
  refine lv_lconst (v := 0) hx hb d_CL_clip_0 (by decide) ?_
  refine lv_ldc2 (v := 65535) hx hb X.ow (X.w k_480) d_CL_clip_1 ?_
  refine lv_lload_n hx hb d_CL_clip_4 rfl (lv_at hl 0 rfl) ?_
  refine va_mmin_long (rest := [.long (0 : Int64)]) hx hb (X.ml.trans hl.1.symm) X.ow (X.w k_481) (X.w k_482) (X.w k_83) (X.w k_483) (Nat.le_of_ble_eq_true rfl) (Nat.le_trans (Nat.add_le_add_right (m_cat8 (Nat.le_of_ble_eq_true rfl)) 15) (Nat.le_of_ble_eq_true rfl)) (Nat.le_refl _) (Nat.le_refl _) d_CL_clip_5 ?_
  refine va_mmax_long (rest := []) hx hb (X.ml.trans hl.1.symm) X.ow (X.w k_484) (X.w k_485) (X.w k_83) (X.w k_486) (Nat.le_of_ble_eq_true rfl) (Nat.le_trans (Nat.add_le_add_right (m_cat8 (Nat.le_of_ble_eq_true rfl)) 15) (Nat.le_of_ble_eq_true rfl)) (Nat.le_refl _) (Nat.le_refl _) d_CL_clip_8 ?_
  refine lv_l2i hx hb d_CL_clip_11 rfl ?_
  obtain rfl := Option.some.inj hf
  exact r_iretR X d_CL_clip_12

set_option maxHeartbeats 4000000 in
set_option maxRecDepth 100000 in
theorem c_CL_clip {l : Launch} {D : va_G} {cA : Nat → ClassId} {dA z0 : Nat} {μ : mM} {x0 : Int64} {r : Int32} (hf : f_CL_clip μ x0 = some r) : Met l y_CL_clip (mW y_CL_clip b_CL_clip 2 (some .int)) rm_CL_clip (va_Pc [.long x0] (mPr D cA dA z0 μ)) (mQR (some (.int r))) 0 0 (fun _ => False) := by
  refine Met.ofW (cc := b_CL_clip) (maxL := 2) (ret := (some .int)) (by decide) rfl ?_
  intro p e s m args below meth c s₁ B hml hv
  obtain ⟨rfl, G, hP⟩ := hv
  have X := mX.of B hml
  exact m_entry (lv := [(0, .long x0)]) (Nat.le_of_ble_eq_true rfl) rfl (fun ls hl => w_CL_clip X G (mI.start hP) hf hl)

abbrev rm_Adjust_run : Room := { frames := 3, cells := 0, slots := 0, locals := 75 }
-- no selects word for Adjust_run
set_option maxHeartbeats 4000000 in
set_option maxRecDepth 100000 in
theorem w_Adjust_run_49 {h0 : Nat} {r : mM} (X : mX p m meth c s args b_Adjust_run 3 none "ColourLinker$Adjust") (G : mG D cA dA z0 s) {H : Heap} {locs : List Loc} {μ : mM} {ls : Array Slot}  (I : mI D cA z0 s μ H locs s.heap.size) (hf : f_Adjust_run_49 h0 μ = some r) (hl : lv_has ls 3 [(0, va_rf (some h0))]) : W p l e rm_Adjust_run s m args below meth c H locs 0 0 (MQ below (mQW D cA z0 none r) args s 0 0 (mA z0)) (F0 m 49 ls []) := by
  have hx := X.ex
  have hb := X.by_
  unfold f_Adjust_run_49 at hf
  obtain rfl := Option.some.inj hf
  exact r_vretW X I d_Adjust_run_49

set_option maxHeartbeats 4000000 in
set_option maxRecDepth 100000 in
theorem w_Adjust_run_39 {h0 : Nat} {r : mM} (X : mX p m meth c s args b_Adjust_run 3 none "ColourLinker$Adjust") (G : mG D cA dA z0 s) {k : mM → (Option Nat) → Int32 → Option (mM)} {kx49 : mM → Option (mM)} (hk : ∀ (H : Heap) (locs : List Loc) (μ : mM) (ls : Array Slot) (x1 : Option Nat) (x2 : Int32), mI D cA z0 s μ H locs s.heap.size → k μ x1 x2 = some r → lv_has ls 3 [(0, va_rf (some h0)), (1, va_rf x1), (2, .int x2)] → W p l e rm_Adjust_run s m args below meth c H locs 0 0 (MQ below (mQW D cA z0 none r) args s 0 0 (mA z0)) (F0 m 2 ls [])) (hkx49 : ∀ (H : Heap) (locs : List Loc) (μ : mM) (ls : Array Slot), mI D cA z0 s μ H locs s.heap.size → kx49 μ = some r → lv_has ls 3 [(0, va_rf (some h0))] → W p l e rm_Adjust_run s m args below meth c H locs 0 0 (MQ below (mQW D cA z0 none r) args s 0 0 (mA z0)) (F0 m 49 ls [])) {H : Heap} {locs : List Loc} {μ : mM} {ls : Array Slot} {x1 : Option Nat} {x2 : Int32} {s0 : Option Nat} {s1 : Int32} {s2 : Int64} (I : mI D cA z0 s μ H locs s.heap.size) (hf : f_Adjust_run_39 h0 k kx49 μ x1 x2 s0 s1 s2 = some r) (hl : lv_has ls 3 [(0, va_rf (some h0)), (1, va_rf x1), (2, .int x2)]) : W p l e rm_Adjust_run s m args below meth c H locs 0 0 (MQ below (mQW D cA z0 none r) args s 0 0 (mA z0)) (F0 m 39 ls [.long s2, .int s1, va_rf s0]) := by
  have hx := X.ex
  have hb := X.by_
  unfold f_Adjust_run_39 at hf
  obtain ⟨q6, hv, hf⟩ := mbind hf
  refine m_caR (m_runSN (As := [.long s2]) (rest := [.int s1, va_rf s0]) X G h_CL_clip k_477 (c_CL_clip hv) mPr_blind (m_pre G I) rfl rfl hl.1 (Nat.le_of_ble_eq_true rfl) rfl rfl ⟨Nat.le_of_ble_eq_true rfl, Nat.le_of_ble_eq_true rfl⟩ ⟨Nat.le_refl _, Nat.le_refl _⟩ d_Adjust_run_39) ?_
  obtain ⟨m7, hv, hf⟩ := mbind hf
  refine r_iast X G I hv d_Adjust_run_42 (fun H locs I => ?_)
  refine lv_iinc (i := 2) (k := 2) (v := (x2 + (1 : Int32))) (lv' := [(2, .int (x2 + (1 : Int32))), (0, va_rf (some h0)), (1, va_rf x1)]) hx hb d_Adjust_run_43 hl rfl (congrArg (fun t => x2 + t) (by decide : Int32.ofInt (1) = (1 : Int32))) (by decide) (by simp [mrf_cat]) (fun ls hl => ?_)
  refine lv_goto (tgt := 2) hx hb d_Adjust_run_46 (by decide) ?_
  exact hk _ _ _ _ _ _ I hf (lv_sub hl [1, 2, 0] rfl)

set_option maxHeartbeats 4000000 in
set_option maxRecDepth 100000 in
theorem w_Adjust_run_2 {h0 : Nat} {r : mM} (X : mX p m meth c s args b_Adjust_run 3 none "ColourLinker$Adjust") (G : mG D cA dA z0 s) {kx49 : mM → Option (mM)} (hkx49 : ∀ (H : Heap) (locs : List Loc) (μ : mM) (ls : Array Slot), mI D cA z0 s μ H locs s.heap.size → kx49 μ = some r → lv_has ls 3 [(0, va_rf (some h0))] → W p l e rm_Adjust_run s m args below meth c H locs 0 0 (MQ below (mQW D cA z0 none r) args s 0 0 (mA z0)) (F0 m 49 ls [])) : ∀ (n : Nat) (H : Heap) (locs : List Loc) (μ : mM) (ls : Array Slot) (x1 : Option Nat) (x2 : Int32), mI D cA z0 s μ H locs s.heap.size → f_Adjust_run_2 h0 kx49 n μ x1 x2 = some r → lv_has ls 3 [(0, va_rf (some h0)), (1, va_rf x1), (2, .int x2)] → W p l e rm_Adjust_run s m args below meth c H locs 0 0 (MQ below (mQW D cA z0 none r) args s 0 0 (mA z0)) (F0 m 2 ls []) := by
  have hx := X.ex
  have hb := X.by_
  intro n
  induction n with
  | zero => intro H locs μ ls x1 x2 I hf hl; rw [f_Adjust_run_2] at hf; cases hf
  | succ n ih =>
    intro H locs μ ls x1 x2 I hf hl
    rw [f_Adjust_run_2] at hf
    refine lv_iload_n hx hb d_Adjust_run_2 rfl (lv_at hl 2 rfl) ?_
    refine lv_iconst (v := 3) hx hb d_Adjust_run_3 (by decide) ?_
    refine lv_icmp_ge (tgt := 49) hx hb d_Adjust_run_4 (by decide) (fun hc => ?_) (fun hc => ?_)
    · have hf := mift hf hc
      exact hkx49 _ _ _ _ I hf (lv_sub hl [0] rfl)
    · have hf := miff hf hc
      refine r_aload_n X d_Adjust_run_7 rfl (lv_at hl 1 rfl) ?_
      refine lv_iload_n hx hb d_Adjust_run_8 rfl (lv_at hl 2 rfl) ?_
      refine r_aload_n X d_Adjust_run_9 rfl (lv_at hl 0 rfl) ?_
      obtain ⟨v1, hv, hf⟩ := mbind hf
      refine r_getf X G I (mfI_e hv) o_Piece_kind_1 k_132 (Or.inr k_133) d_Adjust_run_10 ?_
      refine lv_bipush (v := 7) hx hb d_Adjust_run_13 (by decide) ?_
      refine lv_icmp_ne (tgt := 30) hx hb d_Adjust_run_15 (by decide) (fun hc => ?_) (fun hc => ?_)
      · have hf := miff hf hc
        refine r_aload_n X d_Adjust_run_30 rfl (lv_at hl 0 rfl) ?_
        refine r_aload_n X d_Adjust_run_31 rfl (lv_at hl 1 rfl) ?_
        refine lv_iload_n hx hb d_Adjust_run_32 rfl (lv_at hl 2 rfl) ?_
        obtain ⟨v2, hv, hf⟩ := mbind hf
        refine r_iald X G I hv d_Adjust_run_33 ?_
        refine lv_i2l hx hb d_Adjust_run_34 rfl ?_
        refine lv_iload_n hx hb d_Adjust_run_35 rfl (lv_at hl 2 rfl) ?_
        obtain ⟨q3, hv, hf⟩ := mbind hf
        obtain ⟨a, ha, hv⟩ := mbind hv
        obtain ⟨ha, fs, hm⟩ := mrc_e ha
        refine m_caR (m_runV (As := [.long ((v2).toInt64), .int x2]) (r := some h0) (rest := [.int x2, va_rf x1]) X G I h_Adjust_darkened k_467 (c_Adjust_darkened hv) mPr_blind (m_pre G I) hm rfl ha rfl rfl hl.1 (Nat.le_of_ble_eq_true rfl) rfl rfl ⟨Nat.le_of_ble_eq_true rfl, Nat.le_of_ble_eq_true rfl⟩ ⟨Nat.le_refl _, Nat.le_refl _⟩ d_Adjust_run_36) ?_
        exact w_Adjust_run_39 X G ih hkx49 I hf hl
      · have hf := mift hf hc
        refine r_aload_n X d_Adjust_run_18 rfl (lv_at hl 0 rfl) ?_
        refine r_aload_n X d_Adjust_run_19 rfl (lv_at hl 1 rfl) ?_
        refine lv_iload_n hx hb d_Adjust_run_20 rfl (lv_at hl 2 rfl) ?_
        obtain ⟨v4, hv, hf⟩ := mbind hf
        refine r_iald X G I hv d_Adjust_run_21 ?_
        refine lv_i2l hx hb d_Adjust_run_22 rfl ?_
        refine lv_iload_n hx hb d_Adjust_run_23 rfl (lv_at hl 2 rfl) ?_
        obtain ⟨q5, hv, hf⟩ := mbind hf
        obtain ⟨a, ha, hv⟩ := mbind hv
        obtain ⟨ha, fs, hm⟩ := mrc_e ha
        refine m_caR (m_runV (As := [.long ((v4).toInt64), .int x2]) (r := some h0) (rest := [.int x2, va_rf x1]) X G I h_Adjust_scaled k_455 (c_Adjust_scaled hv) mPr_blind (m_pre G I) hm rfl ha rfl rfl hl.1 (Nat.le_of_ble_eq_true rfl) rfl rfl ⟨Nat.le_of_ble_eq_true rfl, Nat.le_of_ble_eq_true rfl⟩ ⟨Nat.le_refl _, Nat.le_refl _⟩ d_Adjust_run_24) ?_
        refine lv_goto (tgt := 39) hx hb d_Adjust_run_27 (by decide) ?_
        exact w_Adjust_run_39 X G ih hkx49 I hf hl

set_option maxHeartbeats 4000000 in
set_option maxRecDepth 100000 in
theorem w_Adjust_run {h0 : Nat} {r : mM} (X : mX p m meth c s args b_Adjust_run 3 none "ColourLinker$Adjust") (G : mG D cA dA z0 s) {H : Heap} {locs : List Loc} {μ : mM} {ls : Array Slot} {x1 : Option Nat} (I : mI D cA z0 s μ H locs s.heap.size) (hf : f_Adjust_run h0 μ x1 = some r) (hl : lv_has ls 3 [(0, va_rf (some h0)), (1, va_rf x1)]) : W p l e rm_Adjust_run s m args below meth c H locs 0 0 (MQ below (mQW D cA z0 none r) args s 0 0 (mA z0)) (F0 m 0 ls []) := by
  have hx := X.ex
  have hb := X.by_
  unfold f_Adjust_run at hf
  refine lv_iconst (v := 0) hx hb d_Adjust_run_0 (by decide) ?_
  refine lv_istore_n (i := 2) (lv' := [(2, .int (0 : Int32)), (0, va_rf (some h0)), (1, va_rf x1)]) hx hb d_Adjust_run_1 rfl hl (by decide) (by simp [mrf_cat]) (fun ls hl => ?_)
  exact w_Adjust_run_2 X G (fun H locs μ ls I hf hl => w_Adjust_run_49 X G I hf hl) 4096 _ _ _ _ _ _ I hf (lv_sub hl [1, 2, 0] rfl)

set_option maxHeartbeats 4000000 in
set_option maxRecDepth 100000 in
theorem c_Adjust_run {l : Launch} {D : va_G} {cA : Nat → ClassId} {dA z0 : Nat} {μ : mM} {h0 : Nat} {x1 : Option Nat} {r : mM} (hf : f_Adjust_run h0 μ x1 = some r) : Met l y_Adjust_run (mW y_Adjust_run b_Adjust_run 3 none) rm_Adjust_run (va_Pc [.ref h0, va_rf x1] (mPr D cA dA z0 μ)) (mQW D cA z0 none r) 0 0 (mA z0) := by
  refine Met.ofW (cc := b_Adjust_run) (maxL := 3) (ret := none) (by decide) rfl ?_
  intro p e s m args below meth c s₁ B hml hv
  obtain ⟨rfl, G, hP⟩ := hv
  have X := mX.of B hml
  exact m_entry (lv := [(0, va_rf (some h0)), (1, va_rf x1)]) (by simp [lg_sl, mrf_cat, mc_int, mc_long, mc_ref]) (by simp [lv_args, mrf_cat, mc_int, mc_long, mc_ref, mrf_some]) (fun ls hl => w_Adjust_run X G (mI.start hP) hf hl)

abbrev rm_Curve_lineAt : Room := { frames := 2, cells := 0, slots := 0, locals := 52 }
theorem h_Curve_lineAt : mCV y_Curve_lineAt b_Curve_lineAt 2 (some .int) 1 := ⟨k_497, k_84, ⟨by decide, by decide, by decide +kernel⟩, k_496, k_10⟩
set_option maxHeartbeats 4000000 in
set_option maxRecDepth 100000 in
theorem w_Curve_lineAt {μ : mM} {h0 : Nat} {r : Int32} (X : mX p m meth c s args b_Curve_lineAt 2 (some .int) "ColourLinker$Curve") (G : mG D cA dA z0 s) (I : mI D cA z0 s μ s.heap [] s.heap.size) {ls : Array Slot} {x1 : Int32} (hf : f_Curve_lineAt μ h0 x1 = some r) (hl : lv_has ls 2 [(0, va_rf (some h0)), (1, .int x1)]) : W p l e rm_Curve_lineAt s m args below meth c s.heap [] 0 0 (MQ below (mQR (some (.int r))) args s 0 0 (fun _ => False)) (F0 m 0 ls []) := by
  have hx := X.ex
  have hb := X.by_
  unfold f_Curve_lineAt at hf
  refine r_aload_n X d_Curve_lineAt_0 rfl (lv_at hl 0 rfl) ?_
  obtain ⟨v1, hv, hf⟩ := mbind hf
  refine r_getf X G I (mfA_e hv) o_Curve_words k_301 (Or.inl rfl) d_Curve_lineAt_1 ?_
  refine lv_iconst (v := 0) hx hb d_Curve_lineAt_4 (by decide) ?_
  obtain ⟨v2, hv, hf⟩ := mbind hf
  refine r_iald X G I hv d_Curve_lineAt_5 ?_
  refine lv_i2l hx hb d_Curve_lineAt_6 rfl ?_
  refine lv_iload_n hx hb d_Curve_lineAt_7 rfl (lv_at hl 1 rfl) ?_
  refine lv_i2l hx hb d_Curve_lineAt_8 rfl ?_
  refine lv_lmul hx hb d_Curve_lineAt_9 ?_
  refine lv_ldc2 (v := 256) hx hb X.ow (X.w k_498) d_Curve_lineAt_10 ?_
  obtain ⟨q3, hv, hf⟩ := mbind hf
  refine m_caR (m_runSN (As := [.long ((v2).toInt64 * (x1).toInt64), .long (256 : Int64)]) (rest := []) X G h_CL_nearest k_499 (c_CL_nearest hv) mPr_blind (m_pre G I) rfl rfl hl.1 (Nat.le_of_ble_eq_true rfl) rfl rfl ⟨Nat.le_of_ble_eq_true rfl, Nat.le_of_ble_eq_true rfl⟩ ⟨Nat.le_refl _, Nat.le_refl _⟩ d_Curve_lineAt_13) ?_
  obtain ⟨q4, hv, hf⟩ := mbind hf
  refine m_caR (m_runSN (As := [.long q3]) (rest := []) X G h_CL_clip k_500 (c_CL_clip hv) mPr_blind (m_pre G I) rfl rfl hl.1 (Nat.le_of_ble_eq_true rfl) rfl rfl ⟨Nat.le_of_ble_eq_true rfl, Nat.le_of_ble_eq_true rfl⟩ ⟨Nat.le_refl _, Nat.le_refl _⟩ d_Curve_lineAt_16) ?_
  obtain rfl := Option.some.inj hf
  exact r_iretR X d_Curve_lineAt_19

set_option maxHeartbeats 4000000 in
set_option maxRecDepth 100000 in
theorem c_Curve_lineAt {l : Launch} {D : va_G} {cA : Nat → ClassId} {dA z0 : Nat} {μ : mM} {h0 : Nat} {x1 : Int32} {r : Int32} (hf : f_Curve_lineAt μ h0 x1 = some r) : Met l y_Curve_lineAt (mW y_Curve_lineAt b_Curve_lineAt 2 (some .int)) rm_Curve_lineAt (va_Pc [.ref h0, .int x1] (mPr D cA dA z0 μ)) (mQR (some (.int r))) 0 0 (fun _ => False) := by
  refine Met.ofW (cc := b_Curve_lineAt) (maxL := 2) (ret := (some .int)) (by decide) rfl ?_
  intro p e s m args below meth c s₁ B hml hv
  obtain ⟨rfl, G, hP⟩ := hv
  have X := mX.of B hml
  exact m_entry (lv := [(0, va_rf (some h0)), (1, .int x1)]) (Nat.le_of_ble_eq_true rfl) rfl (fun ls hl => w_Curve_lineAt X G (mI.start hP) hf hl)

abbrev rm_Curve_powerAt : Room := { frames := 2, cells := 0, slots := 0, locals := 52 }
theorem h_Curve_powerAt : mCV y_Curve_powerAt b_Curve_powerAt 5 (some .int) 1 := ⟨k_504, k_84, ⟨by decide, by decide, by decide +kernel⟩, k_503, k_11⟩
set_option maxHeartbeats 4000000 in
set_option maxRecDepth 100000 in
theorem w_Curve_powerAt_32 {μ : mM} {h0 : Nat} {r : Int32} (X : mX p m meth c s args b_Curve_powerAt 5 (some .int) "ColourLinker$Curve") (G : mG D cA dA z0 s) (I : mI D cA z0 s μ s.heap [] s.heap.size) {ls : Array Slot} {x2 : Int64} (hf : f_Curve_powerAt_32 μ h0 x2 = some r) (hl : lv_has ls 5 [(0, va_rf (some h0)), (2, .long x2)]) : W p l e rm_Curve_powerAt s m args below meth c s.heap [] 0 0 (MQ below (mQR (some (.int r))) args s 0 0 (fun _ => False)) (F0 m 32 ls []) := by
  have hx := X.ex
  have hb := X.by_
  unfold f_Curve_powerAt_32 at hf
  refine lv_lload_n hx hb d_Curve_powerAt_32 rfl (lv_at hl 1 rfl) ?_
  refine lv_l2i hx hb d_Curve_powerAt_33 rfl ?_
  obtain rfl := Option.some.inj hf
  exact r_iretR X d_Curve_powerAt_34

set_option maxHeartbeats 4000000 in
set_option maxRecDepth 100000 in
theorem w_Curve_powerAt_6 {μ : mM} {h0 : Nat} {r : Int32} (X : mX p m meth c s args b_Curve_powerAt 5 (some .int) "ColourLinker$Curve") (G : mG D cA dA z0 s) (I : mI D cA z0 s μ s.heap [] s.heap.size) {kx32 : Int64 → Option (Int32)} (hkx32 : ∀ (ls : Array Slot) (x2 : Int64), kx32 x2 = some r → lv_has ls 5 [(0, va_rf (some h0)), (2, .long x2)] → W p l e rm_Curve_powerAt s m args below meth c s.heap [] 0 0 (MQ below (mQR (some (.int r))) args s 0 0 (fun _ => False)) (F0 m 32 ls [])) : ∀ (n : Nat) (ls : Array Slot) (x1 : Int32) (x2 : Int64) (x4 : Int32), f_Curve_powerAt_6 μ h0 kx32 n x1 x2 x4 = some r → lv_has ls 5 [(0, va_rf (some h0)), (1, .int x1), (2, .long x2), (4, .int x4)] → W p l e rm_Curve_powerAt s m args below meth c s.heap [] 0 0 (MQ below (mQR (some (.int r))) args s 0 0 (fun _ => False)) (F0 m 6 ls []) := by
  have hx := X.ex
  have hb := X.by_
  intro n
  induction n with
  | zero => intro ls x1 x2 x4 hf hl; rw [f_Curve_powerAt_6] at hf; cases hf
  | succ n ih =>
    intro ls x1 x2 x4 hf hl
    rw [f_Curve_powerAt_6] at hf
    refine lv_iload hx hb d_Curve_powerAt_6 (lv_at hl 3 rfl) ?_
    refine r_aload_n X d_Curve_powerAt_8 rfl (lv_at hl 0 rfl) ?_
    obtain ⟨v1, hv, hf⟩ := mbind hf
    refine r_getf X G I (mfI_e hv) o_Curve_power k_300 (Or.inl rfl) d_Curve_powerAt_9 ?_
    refine lv_icmp_ge (tgt := 32) hx hb d_Curve_powerAt_12 (by decide) (fun hc => ?_) (fun hc => ?_)
    · have hf := mift hf hc
      exact hkx32 _ _ hf (lv_sub hl [0, 2] rfl)
    · have hf := miff hf hc
      refine lv_lload_n hx hb d_Curve_powerAt_15 rfl (lv_at hl 2 rfl) ?_
      refine lv_iload_n hx hb d_Curve_powerAt_16 rfl (lv_at hl 1 rfl) ?_
      refine lv_i2l hx hb d_Curve_powerAt_17 rfl ?_
      refine lv_lmul hx hb d_Curve_powerAt_18 ?_
      refine lv_ldc2 (v := 65535) hx hb X.ow (X.w k_505) d_Curve_powerAt_19 ?_
      obtain ⟨q2, hv, hf⟩ := mbind hf
      refine m_caR (m_runSN (As := [.long (x2 * (x1).toInt64), .long (65535 : Int64)]) (rest := []) X G h_CL_nearest k_499 (c_CL_nearest hv) mPr_blind (m_pre G I) rfl rfl hl.1 (Nat.le_of_ble_eq_true rfl) rfl rfl ⟨Nat.le_of_ble_eq_true rfl, Nat.le_of_ble_eq_true rfl⟩ ⟨Nat.le_refl _, Nat.le_refl _⟩ d_Curve_powerAt_22) ?_
      refine lv_lstore_n (i := 2) (lv' := [(2, .long q2), (0, va_rf (some h0)), (1, .int x1), (4, .int x4)]) hx hb d_Curve_powerAt_25 rfl hl (by decide) rfl (fun ls hl => ?_)
      refine lv_iinc (i := 4) (k := 3) (v := (x4 + (1 : Int32))) (lv' := [(4, .int (x4 + (1 : Int32))), (2, .long q2), (0, va_rf (some h0)), (1, .int x1)]) hx hb d_Curve_powerAt_26 hl rfl (congrArg (fun t => x4 + t) (by decide : Int32.ofInt (1) = (1 : Int32))) (by decide) rfl (fun ls hl => ?_)
      refine lv_goto (tgt := 6) hx hb d_Curve_powerAt_29 (by decide) ?_
      exact ih _ _ _ _ hf (lv_sub hl [2, 3, 1, 0] rfl)

set_option maxHeartbeats 4000000 in
set_option maxRecDepth 100000 in
theorem w_Curve_powerAt {μ : mM} {h0 : Nat} {r : Int32} (X : mX p m meth c s args b_Curve_powerAt 5 (some .int) "ColourLinker$Curve") (G : mG D cA dA z0 s) (I : mI D cA z0 s μ s.heap [] s.heap.size) {ls : Array Slot} {x1 : Int32} (hf : f_Curve_powerAt μ h0 x1 = some r) (hl : lv_has ls 5 [(0, va_rf (some h0)), (1, .int x1)]) : W p l e rm_Curve_powerAt s m args below meth c s.heap [] 0 0 (MQ below (mQR (some (.int r))) args s 0 0 (fun _ => False)) (F0 m 0 ls []) := by
  have hx := X.ex
  have hb := X.by_
  unfold f_Curve_powerAt at hf
  refine lv_iload_n hx hb d_Curve_powerAt_0 rfl (lv_at hl 1 rfl) ?_
  refine lv_i2l hx hb d_Curve_powerAt_1 rfl ?_
  refine lv_lstore_n (i := 2) (lv' := [(2, .long ((x1).toInt64)), (0, va_rf (some h0)), (1, .int x1)]) hx hb d_Curve_powerAt_2 rfl hl (by decide) rfl (fun ls hl => ?_)
  refine lv_iconst (v := 1) hx hb d_Curve_powerAt_3 (by decide) ?_
  refine lv_istore (i := 4) (lv' := [(4, .int (1 : Int32)), (2, .long ((x1).toInt64)), (0, va_rf (some h0)), (1, .int x1)]) hx hb d_Curve_powerAt_4 hl (by decide) rfl (fun ls hl => ?_)
  exact w_Curve_powerAt_6 X G I (fun ls x2 hf hl => w_Curve_powerAt_32 X G I hf hl) 4096 _ _ _ _ hf (lv_sub hl [2, 3, 1, 0] rfl)

set_option maxHeartbeats 4000000 in
set_option maxRecDepth 100000 in
theorem c_Curve_powerAt {l : Launch} {D : va_G} {cA : Nat → ClassId} {dA z0 : Nat} {μ : mM} {h0 : Nat} {x1 : Int32} {r : Int32} (hf : f_Curve_powerAt μ h0 x1 = some r) : Met l y_Curve_powerAt (mW y_Curve_powerAt b_Curve_powerAt 5 (some .int)) rm_Curve_powerAt (va_Pc [.ref h0, .int x1] (mPr D cA dA z0 μ)) (mQR (some (.int r))) 0 0 (fun _ => False) := by
  refine Met.ofW (cc := b_Curve_powerAt) (maxL := 5) (ret := (some .int)) (by decide) rfl ?_
  intro p e s m args below meth c s₁ B hml hv
  obtain ⟨rfl, G, hP⟩ := hv
  have X := mX.of B hml
  exact m_entry (lv := [(0, va_rf (some h0)), (1, .int x1)]) (Nat.le_of_ble_eq_true rfl) rfl (fun ls hl => w_Curve_powerAt X G (mI.start hP) hf hl)

abbrev rm_Curve_sampleAt : Room := { frames := 2, cells := 0, slots := 0, locals := 52 }
theorem h_Curve_sampleAt : mCV y_Curve_sampleAt b_Curve_sampleAt 6 (some .int) 1 := ⟨k_509, k_84, ⟨by decide, by decide, by decide +kernel⟩, k_508, k_12⟩
set_option maxHeartbeats 4000000 in
set_option maxRecDepth 100000 in
theorem w_Curve_sampleAt {μ : mM} {h0 : Nat} {r : Int32} (X : mX p m meth c s args b_Curve_sampleAt 6 (some .int) "ColourLinker$Curve") (G : mG D cA dA z0 s) (I : mI D cA z0 s μ s.heap [] s.heap.size) {ls : Array Slot} {x1 : Int32} (hf : f_Curve_sampleAt μ h0 x1 = some r) (hl : lv_has ls 6 [(0, va_rf (some h0)), (1, .int x1)]) : W p l e rm_Curve_sampleAt s m args below meth c s.heap [] 0 0 (MQ below (mQR (some (.int r))) args s 0 0 (fun _ => False)) (F0 m 0 ls []) := by
  have hx := X.ex
  have hb := X.by_
  unfold f_Curve_sampleAt at hf
  refine lv_iload_n hx hb d_Curve_sampleAt_0 rfl (lv_at hl 1 rfl) ?_
  refine r_aload_n X d_Curve_sampleAt_1 rfl (lv_at hl 0 rfl) ?_
  obtain ⟨v1, hv, hf⟩ := mbind hf
  refine r_getf X G I (mfA_e hv) o_Curve_words k_301 (Or.inl rfl) d_Curve_sampleAt_2 ?_
  obtain ⟨v2, hv, hf⟩ := mbind hf
  refine r_alen X G I hv d_Curve_sampleAt_5 ?_
  refine lv_iconst (v := 1) hx hb d_Curve_sampleAt_6 (by decide) ?_
  refine lv_isub hx hb d_Curve_sampleAt_7 ?_
  refine lv_imul hx hb d_Curve_sampleAt_8 ?_
  refine lv_istore_n (i := 2) (lv' := [(2, .int (x1 * (v2 - (1 : Int32)))), (0, va_rf (some h0)), (1, .int x1)]) hx hb d_Curve_sampleAt_9 rfl hl (by decide) rfl (fun ls hl => ?_)
  refine r_aload_n X d_Curve_sampleAt_10 rfl (lv_at hl 1 rfl) ?_
  obtain ⟨v3, hv, hf⟩ := mbind hf
  refine r_getf X G I (mfA_e hv) o_Curve_words k_301 (Or.inl rfl) d_Curve_sampleAt_11 ?_
  obtain ⟨v4, hv, hf⟩ := mbind hf
  refine r_alen X G I hv d_Curve_sampleAt_14 ?_
  refine lv_iconst (v := 2) hx hb d_Curve_sampleAt_15 (by decide) ?_
  refine lv_isub hx hb d_Curve_sampleAt_16 ?_
  refine lv_iload_n hx hb d_Curve_sampleAt_17 rfl (lv_at hl 0 rfl) ?_
  refine lv_ldc (v := 65535) hx hb X.ow (X.w k_510) d_Curve_sampleAt_18 ?_
  refine lv_idiv hx hb d_Curve_sampleAt_20 (by decide) ?_
  refine va_mmin (rest := []) hx hb (X.ml.trans hl.1.symm) X.ow (X.w k_511) (X.w k_279) (X.w k_83) (X.w k_280) (Nat.le_of_ble_eq_true rfl) (Nat.le_trans (Nat.add_le_add_right (m_cat8 (Nat.le_of_ble_eq_true rfl)) 13) (Nat.le_of_ble_eq_true rfl)) (Nat.le_refl _) (Nat.le_refl _) d_Curve_sampleAt_21 ?_
  refine lv_istore_n (i := 3) (lv' := [(3, .int (jminI (v4 - (2 : Int32)) ((x1 * (v2 - (1 : Int32))) / (65535 : Int32)))), (2, .int (x1 * (v2 - (1 : Int32)))), (0, va_rf (some h0)), (1, .int x1)]) hx hb d_Curve_sampleAt_24 rfl hl (by decide) rfl (fun ls hl => ?_)
  refine lv_iload_n hx hb d_Curve_sampleAt_25 rfl (lv_at hl 1 rfl) ?_
  refine lv_ldc (v := 65535) hx hb X.ow (X.w k_510) d_Curve_sampleAt_26 ?_
  refine lv_iload_n hx hb d_Curve_sampleAt_28 rfl (lv_at hl 0 rfl) ?_
  refine lv_imul hx hb d_Curve_sampleAt_29 ?_
  refine lv_isub hx hb d_Curve_sampleAt_30 ?_
  refine lv_i2l hx hb d_Curve_sampleAt_31 rfl ?_
  refine lv_lstore (i := 4) (lv' := [(4, .long ((((x1 * (v2 - (1 : Int32))) - ((65535 : Int32) * (jminI (v4 - (2 : Int32)) ((x1 * (v2 - (1 : Int32))) / (65535 : Int32)))))).toInt64)), (3, .int (jminI (v4 - (2 : Int32)) ((x1 * (v2 - (1 : Int32))) / (65535 : Int32)))), (2, .int (x1 * (v2 - (1 : Int32)))), (0, va_rf (some h0)), (1, .int x1)]) hx hb d_Curve_sampleAt_32 hl (by decide) rfl (fun ls hl => ?_)
  refine r_aload_n X d_Curve_sampleAt_34 rfl (lv_at hl 3 rfl) ?_
  obtain ⟨v5, hv, hf⟩ := mbind hf
  refine r_getf X G I (mfA_e hv) o_Curve_words k_301 (Or.inl rfl) d_Curve_sampleAt_35 ?_
  refine lv_iload_n hx hb d_Curve_sampleAt_38 rfl (lv_at hl 1 rfl) ?_
  obtain ⟨v6, hv, hf⟩ := mbind hf
  refine r_iald X G I hv d_Curve_sampleAt_39 ?_
  refine r_aload_n X d_Curve_sampleAt_40 rfl (lv_at hl 3 rfl) ?_
  obtain ⟨v7, hv, hf⟩ := mbind hf
  refine r_getf X G I (mfA_e hv) o_Curve_words k_301 (Or.inl rfl) d_Curve_sampleAt_41 ?_
  refine lv_iload_n hx hb d_Curve_sampleAt_44 rfl (lv_at hl 1 rfl) ?_
  refine lv_iconst (v := 1) hx hb d_Curve_sampleAt_45 (by decide) ?_
  refine lv_iadd hx hb d_Curve_sampleAt_46 ?_
  obtain ⟨v8, hv, hf⟩ := mbind hf
  refine r_iald X G I hv d_Curve_sampleAt_47 ?_
  refine r_aload_n X d_Curve_sampleAt_48 rfl (lv_at hl 3 rfl) ?_
  obtain ⟨v9, hv, hf⟩ := mbind hf
  refine r_getf X G I (mfA_e hv) o_Curve_words k_301 (Or.inl rfl) d_Curve_sampleAt_49 ?_
  refine lv_iload_n hx hb d_Curve_sampleAt_52 rfl (lv_at hl 1 rfl) ?_
  obtain ⟨v10, hv, hf⟩ := mbind hf
  refine r_iald X G I hv d_Curve_sampleAt_53 ?_
  refine lv_isub hx hb d_Curve_sampleAt_54 ?_
  refine lv_i2l hx hb d_Curve_sampleAt_55 rfl ?_
  refine lv_lload hx hb d_Curve_sampleAt_56 (lv_at hl 0 rfl) ?_
  refine lv_lmul hx hb d_Curve_sampleAt_58 ?_
  refine lv_ldc2 (v := 65535) hx hb X.ow (X.w k_505) d_Curve_sampleAt_59 ?_
  obtain ⟨q11, hv, hf⟩ := mbind hf
  refine m_caR (m_runSN (As := [.long (((v8 - v10)).toInt64 * (((x1 * (v2 - (1 : Int32))) - ((65535 : Int32) * (jminI (v4 - (2 : Int32)) ((x1 * (v2 - (1 : Int32))) / (65535 : Int32)))))).toInt64), .long (65535 : Int64)]) (rest := [.int v6]) X G h_CL_nearest k_499 (c_CL_nearest hv) mPr_blind (m_pre G I) rfl rfl hl.1 (Nat.le_of_ble_eq_true rfl) rfl rfl ⟨Nat.le_of_ble_eq_true rfl, Nat.le_of_ble_eq_true rfl⟩ ⟨Nat.le_refl _, Nat.le_refl _⟩ d_Curve_sampleAt_62) ?_
  refine lv_l2i hx hb d_Curve_sampleAt_65 rfl ?_
  refine lv_iadd hx hb d_Curve_sampleAt_66 ?_
  obtain rfl := Option.some.inj hf
  exact r_iretR X d_Curve_sampleAt_67

set_option maxHeartbeats 4000000 in
set_option maxRecDepth 100000 in
theorem c_Curve_sampleAt {l : Launch} {D : va_G} {cA : Nat → ClassId} {dA z0 : Nat} {μ : mM} {h0 : Nat} {x1 : Int32} {r : Int32} (hf : f_Curve_sampleAt μ h0 x1 = some r) : Met l y_Curve_sampleAt (mW y_Curve_sampleAt b_Curve_sampleAt 6 (some .int)) rm_Curve_sampleAt (va_Pc [.ref h0, .int x1] (mPr D cA dA z0 μ)) (mQR (some (.int r))) 0 0 (fun _ => False) := by
  refine Met.ofW (cc := b_Curve_sampleAt) (maxL := 6) (ret := (some .int)) (by decide) rfl ?_
  intro p e s m args below meth c s₁ B hml hv
  obtain ⟨rfl, G, hP⟩ := hv
  have X := mX.of B hml
  exact m_entry (lv := [(0, va_rf (some h0)), (1, .int x1)]) (Nat.le_of_ble_eq_true rfl) rfl (fun ls hl => w_Curve_sampleAt X G (mI.start hP) hf hl)

abbrev rm_Curve_valueAt : Room := { frames := 3, cells := 0, slots := 0, locals := 77 }
theorem h_Curve_valueAt : mCV y_Curve_valueAt b_Curve_valueAt 2 (some .int) 1 := ⟨k_493, k_84, ⟨by decide, by decide, by decide +kernel⟩, k_491, k_492⟩
set_option maxHeartbeats 4000000 in
set_option maxRecDepth 100000 in
theorem w_Curve_valueAt_49 {μ : mM} {h0 : Nat} {r : Int32} (X : mX p m meth c s args b_Curve_valueAt 2 (some .int) "ColourLinker$Curve") (G : mG D cA dA z0 s) (I : mI D cA z0 s μ s.heap [] s.heap.size) {ls : Array Slot} {s0 : Int32} (hf : f_Curve_valueAt_49 μ h0 s0 = some r) (hl : lv_has ls 2 [(0, va_rf (some h0))]) : W p l e rm_Curve_valueAt s m args below meth c s.heap [] 0 0 (MQ below (mQR (some (.int r))) args s 0 0 (fun _ => False)) (F0 m 49 ls [.int s0]) := by
  have hx := X.ex
  have hb := X.by_
  unfold f_Curve_valueAt_49 at hf
  obtain rfl := Option.some.inj hf
  exact r_iretR X d_Curve_valueAt_49

set_option maxHeartbeats 4000000 in
set_option maxRecDepth 100000 in
theorem w_Curve_valueAt_30 {μ : mM} {h0 : Nat} {r : Int32} (X : mX p m meth c s args b_Curve_valueAt 2 (some .int) "ColourLinker$Curve") (G : mG D cA dA z0 s) (I : mI D cA z0 s μ s.heap [] s.heap.size) {ls : Array Slot} {s0 : Int32} (hf : f_Curve_valueAt_30 μ h0 s0 = some r) (hl : lv_has ls 2 [(0, va_rf (some h0))]) : W p l e rm_Curve_valueAt s m args below meth c s.heap [] 0 0 (MQ below (mQR (some (.int r))) args s 0 0 (fun _ => False)) (F0 m 30 ls [.int s0]) := by
  have hx := X.ex
  have hb := X.by_
  unfold f_Curve_valueAt_30 at hf
  obtain rfl := Option.some.inj hf
  exact r_iretR X d_Curve_valueAt_30

set_option maxHeartbeats 4000000 in
set_option maxRecDepth 100000 in
theorem w_Curve_valueAt {μ : mM} {h0 : Nat} {r : Int32} (X : mX p m meth c s args b_Curve_valueAt 2 (some .int) "ColourLinker$Curve") (G : mG D cA dA z0 s) (I : mI D cA z0 s μ s.heap [] s.heap.size) {ls : Array Slot} {x1 : Int32} (hf : f_Curve_valueAt μ h0 x1 = some r) (hl : lv_has ls 2 [(0, va_rf (some h0)), (1, .int x1)]) : W p l e rm_Curve_valueAt s m args below meth c s.heap [] 0 0 (MQ below (mQR (some (.int r))) args s 0 0 (fun _ => False)) (F0 m 0 ls []) := by
  have hx := X.ex
  have hb := X.by_
  unfold f_Curve_valueAt at hf
  refine r_aload_n X d_Curve_valueAt_0 rfl (lv_at hl 0 rfl) ?_
  obtain ⟨v1, hv, hf⟩ := mbind hf
  refine r_getf X G I (mfI_e hv) o_Curve_power k_300 (Or.inl rfl) d_Curve_valueAt_1 ?_
  refine lv_if_le (tgt := 31) hx hb d_Curve_valueAt_4 (by decide) (fun hc => ?_) (fun hc => ?_)
  · have hf := mift hf hc
    refine r_aload_n X d_Curve_valueAt_31 rfl (lv_at hl 0 rfl) ?_
    obtain ⟨v2, hv, hf⟩ := mbind hf
    refine r_getf X G I (mfA_e hv) o_Curve_words k_301 (Or.inl rfl) d_Curve_valueAt_32 ?_
    obtain ⟨v3, hv, hf⟩ := mbind hf
    refine r_alen X G I hv d_Curve_valueAt_35 ?_
    refine lv_iconst (v := 2) hx hb d_Curve_valueAt_36 (by decide) ?_
    refine lv_icmp_ge (tgt := 44) hx hb d_Curve_valueAt_37 (by decide) (fun hc => ?_) (fun hc => ?_)
    · have hf := mift hf hc
      refine r_aload_n X d_Curve_valueAt_44 rfl (lv_at hl 0 rfl) ?_
      refine lv_iload_n hx hb d_Curve_valueAt_45 rfl (lv_at hl 1 rfl) ?_
      obtain ⟨q4, hv, hf⟩ := mbind hf
      obtain ⟨a, ha, hv⟩ := mbind hv
      obtain ⟨ha, fs, hm⟩ := mrc_e ha
      refine m_caR (m_runV (As := [.int x1]) (r := some h0) (rest := []) X G I h_Curve_sampleAt k_506 (c_Curve_sampleAt hv) mPr_blind (m_pre G I) hm rfl ha rfl rfl hl.1 (Nat.le_of_ble_eq_true rfl) rfl rfl ⟨Nat.le_of_ble_eq_true rfl, Nat.le_of_ble_eq_true rfl⟩ ⟨Nat.le_refl _, Nat.le_refl _⟩ d_Curve_valueAt_46) ?_
      exact w_Curve_valueAt_49 X G I hf (lv_sub hl [0] rfl)
    · have hf := miff hf hc
      refine lv_iload_n hx hb d_Curve_valueAt_40 rfl (lv_at hl 1 rfl) ?_
      refine lv_goto (tgt := 49) hx hb d_Curve_valueAt_41 (by decide) ?_
      exact w_Curve_valueAt_49 X G I hf (lv_sub hl [0] rfl)
  · have hf := miff hf hc
    refine lv_iload_n hx hb d_Curve_valueAt_7 rfl (lv_at hl 1 rfl) ?_
    refine r_aload_n X d_Curve_valueAt_8 rfl (lv_at hl 0 rfl) ?_
    obtain ⟨v5, hv, hf⟩ := mbind hf
    refine r_getf X G I (mfA_e hv) o_Curve_words k_301 (Or.inl rfl) d_Curve_valueAt_9 ?_
    refine lv_iconst (v := 1) hx hb d_Curve_valueAt_12 (by decide) ?_
    obtain ⟨v6, hv, hf⟩ := mbind hf
    refine r_iald X G I hv d_Curve_valueAt_13 ?_
    refine lv_icmp_ge (tgt := 25) hx hb d_Curve_valueAt_14 (by decide) (fun hc => ?_) (fun hc => ?_)
    · have hf := mift hf hc
      refine r_aload_n X d_Curve_valueAt_25 rfl (lv_at hl 0 rfl) ?_
      refine lv_iload_n hx hb d_Curve_valueAt_26 rfl (lv_at hl 1 rfl) ?_
      obtain ⟨q7, hv, hf⟩ := mbind hf
      obtain ⟨a, ha, hv⟩ := mbind hv
      obtain ⟨ha, fs, hm⟩ := mrc_e ha
      refine m_caR (m_runV (As := [.int x1]) (r := some h0) (rest := []) X G I h_Curve_powerAt k_501 (c_Curve_powerAt hv) mPr_blind (m_pre G I) hm rfl ha rfl rfl hl.1 (Nat.le_of_ble_eq_true rfl) rfl rfl ⟨Nat.le_of_ble_eq_true rfl, Nat.le_of_ble_eq_true rfl⟩ ⟨Nat.le_refl _, Nat.le_refl _⟩ d_Curve_valueAt_27) ?_
      exact w_Curve_valueAt_30 X G I hf (lv_sub hl [0] rfl)
    · have hf := miff hf hc
      refine r_aload_n X d_Curve_valueAt_17 rfl (lv_at hl 0 rfl) ?_
      refine lv_iload_n hx hb d_Curve_valueAt_18 rfl (lv_at hl 1 rfl) ?_
      obtain ⟨q8, hv, hf⟩ := mbind hf
      obtain ⟨a, ha, hv⟩ := mbind hv
      obtain ⟨ha, fs, hm⟩ := mrc_e ha
      refine m_caR (m_runV (As := [.int x1]) (r := some h0) (rest := []) X G I h_Curve_lineAt k_494 (c_Curve_lineAt hv) mPr_blind (m_pre G I) hm rfl ha rfl rfl hl.1 (Nat.le_of_ble_eq_true rfl) rfl rfl ⟨Nat.le_of_ble_eq_true rfl, Nat.le_of_ble_eq_true rfl⟩ ⟨Nat.le_refl _, Nat.le_refl _⟩ d_Curve_valueAt_19) ?_
      refine lv_goto (tgt := 30) hx hb d_Curve_valueAt_22 (by decide) ?_
      exact w_Curve_valueAt_30 X G I hf (lv_sub hl [0] rfl)

set_option maxHeartbeats 4000000 in
set_option maxRecDepth 100000 in
theorem c_Curve_valueAt {l : Launch} {D : va_G} {cA : Nat → ClassId} {dA z0 : Nat} {μ : mM} {h0 : Nat} {x1 : Int32} {r : Int32} (hf : f_Curve_valueAt μ h0 x1 = some r) : Met l y_Curve_valueAt (mW y_Curve_valueAt b_Curve_valueAt 2 (some .int)) rm_Curve_valueAt (va_Pc [.ref h0, .int x1] (mPr D cA dA z0 μ)) (mQR (some (.int r))) 0 0 (fun _ => False) := by
  refine Met.ofW (cc := b_Curve_valueAt) (maxL := 2) (ret := (some .int)) (by decide) rfl ?_
  intro p e s m args below meth c s₁ B hml hv
  obtain ⟨rfl, G, hP⟩ := hv
  have X := mX.of B hml
  exact m_entry (lv := [(0, va_rf (some h0)), (1, .int x1)]) (Nat.le_of_ble_eq_true rfl) rfl (fun ls hl => w_Curve_valueAt X G (mI.start hP) hf hl)

abbrev rm_Curve_inverseAt : Room := { frames := 4, cells := 0, slots := 0, locals := 98 }
theorem h_Curve_inverseAt : mCV y_Curve_inverseAt b_Curve_inverseAt 4 (some .int) 1 := ⟨k_515, k_84, ⟨by decide, by decide, by decide +kernel⟩, k_513, k_514⟩
set_option maxHeartbeats 4000000 in
set_option maxRecDepth 100000 in
theorem w_Curve_inverseAt_33 {μ : mM} {h0 : Nat} {r : Int32} (X : mX p m meth c s args b_Curve_inverseAt 4 (some .int) "ColourLinker$Curve") (G : mG D cA dA z0 s) (I : mI D cA z0 s μ s.heap [] s.heap.size) {ls : Array Slot} {x2 : Int32} (hf : f_Curve_inverseAt_33 μ h0 x2 = some r) (hl : lv_has ls 4 [(0, va_rf (some h0)), (2, .int x2)]) : W p l e rm_Curve_inverseAt s m args below meth c s.heap [] 0 0 (MQ below (mQR (some (.int r))) args s 0 0 (fun _ => False)) (F0 m 33 ls []) := by
  have hx := X.ex
  have hb := X.by_
  unfold f_Curve_inverseAt_33 at hf
  refine lv_iload_n hx hb d_Curve_inverseAt_33 rfl (lv_at hl 1 rfl) ?_
  obtain rfl := Option.some.inj hf
  exact r_iretR X d_Curve_inverseAt_34

set_option maxHeartbeats 4000000 in
set_option maxRecDepth 100000 in
theorem w_Curve_inverseAt_26 {μ : mM} {h0 : Nat} {r : Int32} (X : mX p m meth c s args b_Curve_inverseAt 4 (some .int) "ColourLinker$Curve") (G : mG D cA dA z0 s) (I : mI D cA z0 s μ s.heap [] s.heap.size) {k : Int32 → Int32 → Int32 → Option (Int32)} {kx33 : Int32 → Option (Int32)} (hk : ∀ (ls : Array Slot) (x1 : Int32) (x2 : Int32) (x3 : Int32), k x1 x2 x3 = some r → lv_has ls 4 [(0, va_rf (some h0)), (1, .int x1), (2, .int x2), (3, .int x3)] → W p l e rm_Curve_inverseAt s m args below meth c s.heap [] 0 0 (MQ below (mQR (some (.int r))) args s 0 0 (fun _ => False)) (F0 m 5 ls [])) (hkx33 : ∀ (ls : Array Slot) (x2 : Int32), kx33 x2 = some r → lv_has ls 4 [(0, va_rf (some h0)), (2, .int x2)] → W p l e rm_Curve_inverseAt s m args below meth c s.heap [] 0 0 (MQ below (mQR (some (.int r))) args s 0 0 (fun _ => False)) (F0 m 33 ls [])) {ls : Array Slot} {x1 : Int32} {x2 : Int32} {x3 : Int32} (hf : f_Curve_inverseAt_26 μ h0 k kx33 x1 x2 x3 = some r) (hl : lv_has ls 4 [(0, va_rf (some h0)), (1, .int x1), (2, .int x2), (3, .int x3)]) : W p l e rm_Curve_inverseAt s m args below meth c s.heap [] 0 0 (MQ below (mQR (some (.int r))) args s 0 0 (fun _ => False)) (F0 m 26 ls []) := by
  have hx := X.ex
  have hb := X.by_
  unfold f_Curve_inverseAt_26 at hf
  refine lv_iload_n hx hb d_Curve_inverseAt_26 rfl (lv_at hl 3 rfl) ?_
  refine lv_iconst (v := 2) hx hb d_Curve_inverseAt_27 (by decide) ?_
  refine lv_idiv hx hb d_Curve_inverseAt_28 (by decide) ?_
  refine lv_istore_n (i := 3) (lv' := [(3, .int (x3 / (2 : Int32))), (0, va_rf (some h0)), (1, .int x1), (2, .int x2)]) hx hb d_Curve_inverseAt_29 rfl hl (by decide) rfl (fun ls hl => ?_)
  refine lv_goto (tgt := 5) hx hb d_Curve_inverseAt_30 (by decide) ?_
  exact hk _ _ _ _ hf (lv_sub hl [1, 2, 3, 0] rfl)

set_option maxHeartbeats 4000000 in
set_option maxRecDepth 100000 in
theorem w_Curve_inverseAt_5 {μ : mM} {h0 : Nat} {r : Int32} (X : mX p m meth c s args b_Curve_inverseAt 4 (some .int) "ColourLinker$Curve") (G : mG D cA dA z0 s) (I : mI D cA z0 s μ s.heap [] s.heap.size) {kx33 : Int32 → Option (Int32)} (hkx33 : ∀ (ls : Array Slot) (x2 : Int32), kx33 x2 = some r → lv_has ls 4 [(0, va_rf (some h0)), (2, .int x2)] → W p l e rm_Curve_inverseAt s m args below meth c s.heap [] 0 0 (MQ below (mQR (some (.int r))) args s 0 0 (fun _ => False)) (F0 m 33 ls [])) : ∀ (n : Nat) (ls : Array Slot) (x1 : Int32) (x2 : Int32) (x3 : Int32), f_Curve_inverseAt_5 μ h0 kx33 n x1 x2 x3 = some r → lv_has ls 4 [(0, va_rf (some h0)), (1, .int x1), (2, .int x2), (3, .int x3)] → W p l e rm_Curve_inverseAt s m args below meth c s.heap [] 0 0 (MQ below (mQR (some (.int r))) args s 0 0 (fun _ => False)) (F0 m 5 ls []) := by
  have hx := X.ex
  have hb := X.by_
  intro n
  induction n with
  | zero => intro ls x1 x2 x3 hf hl; rw [f_Curve_inverseAt_5] at hf; cases hf
  | succ n ih =>
    intro ls x1 x2 x3 hf hl
    rw [f_Curve_inverseAt_5] at hf
    refine lv_iload_n hx hb d_Curve_inverseAt_5 rfl (lv_at hl 3 rfl) ?_
    refine lv_if_le (tgt := 33) hx hb d_Curve_inverseAt_6 (by decide) (fun hc => ?_) (fun hc => ?_)
    · have hf := mift hf hc
      exact hkx33 _ _ hf (lv_sub hl [0, 2] rfl)
    · have hf := miff hf hc
      refine r_aload_n X d_Curve_inverseAt_9 rfl (lv_at hl 0 rfl) ?_
      refine lv_iload_n hx hb d_Curve_inverseAt_10 rfl (lv_at hl 2 rfl) ?_
      refine lv_iload_n hx hb d_Curve_inverseAt_11 rfl (lv_at hl 3 rfl) ?_
      refine lv_iadd hx hb d_Curve_inverseAt_12 ?_
      refine lv_iconst (v := 1) hx hb d_Curve_inverseAt_13 (by decide) ?_
      refine lv_isub hx hb d_Curve_inverseAt_14 ?_
      obtain ⟨q1, hv, hf⟩ := mbind hf
      obtain ⟨a, ha, hv⟩ := mbind hv
      obtain ⟨ha, fs, hm⟩ := mrc_e ha
      refine m_caR (m_runV (As := [.int ((x2 + x3) - (1 : Int32))]) (r := some h0) (rest := []) X G I h_Curve_valueAt k_517 (c_Curve_valueAt hv) mPr_blind (m_pre G I) hm rfl ha rfl rfl hl.1 (Nat.le_of_ble_eq_true rfl) rfl rfl ⟨Nat.le_of_ble_eq_true rfl, Nat.le_of_ble_eq_true rfl⟩ ⟨Nat.le_refl _, Nat.le_refl _⟩ d_Curve_inverseAt_15) ?_
      refine lv_iload_n hx hb d_Curve_inverseAt_18 rfl (lv_at hl 1 rfl) ?_
      refine lv_icmp_ge (tgt := 26) hx hb d_Curve_inverseAt_19 (by decide) (fun hc => ?_) (fun hc => ?_)
      · have hf := mift hf hc
        exact w_Curve_inverseAt_26 X G I ih hkx33 hf hl
      · have hf := miff hf hc
        refine lv_iload_n hx hb d_Curve_inverseAt_22 rfl (lv_at hl 2 rfl) ?_
        refine lv_iload_n hx hb d_Curve_inverseAt_23 rfl (lv_at hl 3 rfl) ?_
        refine lv_iadd hx hb d_Curve_inverseAt_24 ?_
        refine lv_istore_n (i := 2) (lv' := [(2, .int (x2 + x3)), (0, va_rf (some h0)), (1, .int x1), (3, .int x3)]) hx hb d_Curve_inverseAt_25 rfl hl (by decide) rfl (fun ls hl => ?_)
        exact w_Curve_inverseAt_26 X G I ih hkx33 hf (lv_sub hl [1, 2, 0, 3] rfl)

set_option maxHeartbeats 4000000 in
set_option maxRecDepth 100000 in
theorem w_Curve_inverseAt {μ : mM} {h0 : Nat} {r : Int32} (X : mX p m meth c s args b_Curve_inverseAt 4 (some .int) "ColourLinker$Curve") (G : mG D cA dA z0 s) (I : mI D cA z0 s μ s.heap [] s.heap.size) {ls : Array Slot} {x1 : Int32} (hf : f_Curve_inverseAt μ h0 x1 = some r) (hl : lv_has ls 4 [(0, va_rf (some h0)), (1, .int x1)]) : W p l e rm_Curve_inverseAt s m args below meth c s.heap [] 0 0 (MQ below (mQR (some (.int r))) args s 0 0 (fun _ => False)) (F0 m 0 ls []) := by
  have hx := X.ex
  have hb := X.by_
  unfold f_Curve_inverseAt at hf
  refine lv_iconst (v := 0) hx hb d_Curve_inverseAt_0 (by decide) ?_
  refine lv_istore_n (i := 2) (lv' := [(2, .int (0 : Int32)), (0, va_rf (some h0)), (1, .int x1)]) hx hb d_Curve_inverseAt_1 rfl hl (by decide) rfl (fun ls hl => ?_)
  refine lv_ldc (v := 32768) hx hb X.ow (X.w k_516) d_Curve_inverseAt_2 ?_
  refine lv_istore_n (i := 3) (lv' := [(3, .int (32768 : Int32)), (2, .int (0 : Int32)), (0, va_rf (some h0)), (1, .int x1)]) hx hb d_Curve_inverseAt_4 rfl hl (by decide) rfl (fun ls hl => ?_)
  exact w_Curve_inverseAt_5 X G I (fun ls x2 hf hl => w_Curve_inverseAt_33 X G I hf hl) 4096 _ _ _ _ hf (lv_sub hl [2, 3, 1, 0] rfl)

set_option maxHeartbeats 4000000 in
set_option maxRecDepth 100000 in
theorem c_Curve_inverseAt {l : Launch} {D : va_G} {cA : Nat → ClassId} {dA z0 : Nat} {μ : mM} {h0 : Nat} {x1 : Int32} {r : Int32} (hf : f_Curve_inverseAt μ h0 x1 = some r) : Met l y_Curve_inverseAt (mW y_Curve_inverseAt b_Curve_inverseAt 4 (some .int)) rm_Curve_inverseAt (va_Pc [.ref h0, .int x1] (mPr D cA dA z0 μ)) (mQR (some (.int r))) 0 0 (fun _ => False) := by
  refine Met.ofW (cc := b_Curve_inverseAt) (maxL := 4) (ret := (some .int)) (by decide) rfl ?_
  intro p e s m args below meth c s₁ B hml hv
  obtain ⟨rfl, G, hP⟩ := hv
  have X := mX.of B hml
  exact m_entry (lv := [(0, va_rf (some h0)), (1, .int x1)]) (Nat.le_of_ble_eq_true rfl) rfl (fun ls hl => w_Curve_inverseAt X G (mI.start hP) hf hl)

abbrev rm_Curves_run : Room := { frames := 5, cells := 0, slots := 0, locals := 121 }
-- no selects word for Curves_run
set_option maxHeartbeats 4000000 in
set_option maxRecDepth 100000 in
theorem w_Curves_run_55 {h0 : Nat} {r : mM} (X : mX p m meth c s args b_Curves_run 3 none "ColourLinker$Curves") (G : mG D cA dA z0 s) {H : Heap} {locs : List Loc} {μ : mM} {ls : Array Slot}  (I : mI D cA z0 s μ H locs s.heap.size) (hf : f_Curves_run_55 h0 μ = some r) (hl : lv_has ls 3 [(0, va_rf (some h0))]) : W p l e rm_Curves_run s m args below meth c H locs 0 0 (MQ below (mQW D cA z0 none r) args s 0 0 (mA z0)) (F0 m 55 ls []) := by
  have hx := X.ex
  have hb := X.by_
  unfold f_Curves_run_55 at hf
  obtain rfl := Option.some.inj hf
  exact r_vretW X I d_Curves_run_55

set_option maxHeartbeats 4000000 in
set_option maxRecDepth 100000 in
theorem w_Curves_run_48 {h0 : Nat} {r : mM} (X : mX p m meth c s args b_Curves_run 3 none "ColourLinker$Curves") (G : mG D cA dA z0 s) {k : mM → (Option Nat) → Int32 → Option (mM)} {kx55 : mM → Option (mM)} (hk : ∀ (H : Heap) (locs : List Loc) (μ : mM) (ls : Array Slot) (x1 : Option Nat) (x2 : Int32), mI D cA z0 s μ H locs s.heap.size → k μ x1 x2 = some r → lv_has ls 3 [(0, va_rf (some h0)), (1, va_rf x1), (2, .int x2)] → W p l e rm_Curves_run s m args below meth c H locs 0 0 (MQ below (mQW D cA z0 none r) args s 0 0 (mA z0)) (F0 m 2 ls [])) (hkx55 : ∀ (H : Heap) (locs : List Loc) (μ : mM) (ls : Array Slot), mI D cA z0 s μ H locs s.heap.size → kx55 μ = some r → lv_has ls 3 [(0, va_rf (some h0))] → W p l e rm_Curves_run s m args below meth c H locs 0 0 (MQ below (mQW D cA z0 none r) args s 0 0 (mA z0)) (F0 m 55 ls [])) {H : Heap} {locs : List Loc} {μ : mM} {ls : Array Slot} {x1 : Option Nat} {x2 : Int32} {s0 : Option Nat} {s1 : Int32} {s2 : Int32} (I : mI D cA z0 s μ H locs s.heap.size) (hf : f_Curves_run_48 h0 k kx55 μ x1 x2 s0 s1 s2 = some r) (hl : lv_has ls 3 [(0, va_rf (some h0)), (1, va_rf x1), (2, .int x2)]) : W p l e rm_Curves_run s m args below meth c H locs 0 0 (MQ below (mQW D cA z0 none r) args s 0 0 (mA z0)) (F0 m 48 ls [.int s2, .int s1, va_rf s0]) := by
  have hx := X.ex
  have hb := X.by_
  unfold f_Curves_run_48 at hf
  obtain ⟨m12, hv, hf⟩ := mbind hf
  refine r_iast X G I hv d_Curves_run_48 (fun H locs I => ?_)
  refine lv_iinc (i := 2) (k := 2) (v := (x2 + (1 : Int32))) (lv' := [(2, .int (x2 + (1 : Int32))), (0, va_rf (some h0)), (1, va_rf x1)]) hx hb d_Curves_run_49 hl rfl (congrArg (fun t => x2 + t) (by decide : Int32.ofInt (1) = (1 : Int32))) (by decide) (by simp [mrf_cat]) (fun ls hl => ?_)
  refine lv_goto (tgt := 2) hx hb d_Curves_run_52 (by decide) ?_
  exact hk _ _ _ _ _ _ I hf (lv_sub hl [1, 2, 0] rfl)

set_option maxHeartbeats 4000000 in
set_option maxRecDepth 100000 in
theorem w_Curves_run_2 {h0 : Nat} {r : mM} (X : mX p m meth c s args b_Curves_run 3 none "ColourLinker$Curves") (G : mG D cA dA z0 s) {kx55 : mM → Option (mM)} (hkx55 : ∀ (H : Heap) (locs : List Loc) (μ : mM) (ls : Array Slot), mI D cA z0 s μ H locs s.heap.size → kx55 μ = some r → lv_has ls 3 [(0, va_rf (some h0))] → W p l e rm_Curves_run s m args below meth c H locs 0 0 (MQ below (mQW D cA z0 none r) args s 0 0 (mA z0)) (F0 m 55 ls [])) : ∀ (n : Nat) (H : Heap) (locs : List Loc) (μ : mM) (ls : Array Slot) (x1 : Option Nat) (x2 : Int32), mI D cA z0 s μ H locs s.heap.size → f_Curves_run_2 h0 kx55 n μ x1 x2 = some r → lv_has ls 3 [(0, va_rf (some h0)), (1, va_rf x1), (2, .int x2)] → W p l e rm_Curves_run s m args below meth c H locs 0 0 (MQ below (mQW D cA z0 none r) args s 0 0 (mA z0)) (F0 m 2 ls []) := by
  have hx := X.ex
  have hb := X.by_
  intro n
  induction n with
  | zero => intro H locs μ ls x1 x2 I hf hl; rw [f_Curves_run_2] at hf; cases hf
  | succ n ih =>
    intro H locs μ ls x1 x2 I hf hl
    rw [f_Curves_run_2] at hf
    refine lv_iload_n hx hb d_Curves_run_2 rfl (lv_at hl 2 rfl) ?_
    refine r_aload_n X d_Curves_run_3 rfl (lv_at hl 0 rfl) ?_
    obtain ⟨v1, hv, hf⟩ := mbind hf
    refine r_getf X G I (mfA_e hv) o_Curves_row k_343 (Or.inl rfl) d_Curves_run_4 ?_
    obtain ⟨v2, hv, hf⟩ := mbind hf
    refine r_alen X G I hv d_Curves_run_7 ?_
    refine lv_icmp_ge (tgt := 55) hx hb d_Curves_run_8 (by decide) (fun hc => ?_) (fun hc => ?_)
    · have hf := mift hf hc
      exact hkx55 _ _ _ _ I hf (lv_sub hl [0] rfl)
    · have hf := miff hf hc
      refine r_aload_n X d_Curves_run_11 rfl (lv_at hl 1 rfl) ?_
      refine lv_iload_n hx hb d_Curves_run_12 rfl (lv_at hl 2 rfl) ?_
      refine r_aload_n X d_Curves_run_13 rfl (lv_at hl 0 rfl) ?_
      obtain ⟨v3, hv, hf⟩ := mbind hf
      refine r_getf X G I (mfI_e hv) o_Piece_kind_2 k_134 (Or.inr k_135) d_Curves_run_14 ?_
      refine lv_iconst (v := 1) hx hb d_Curves_run_17 (by decide) ?_
      refine lv_icmp_ne (tgt := 36) hx hb d_Curves_run_18 (by decide) (fun hc => ?_) (fun hc => ?_)
      · have hf := miff hf hc
        refine r_aload_n X d_Curves_run_36 rfl (lv_at hl 0 rfl) ?_
        obtain ⟨v4, hv, hf⟩ := mbind hf
        refine r_getf X G I (mfA_e hv) o_Curves_row k_343 (Or.inl rfl) d_Curves_run_37 ?_
        refine lv_iload_n hx hb d_Curves_run_40 rfl (lv_at hl 2 rfl) ?_
        obtain ⟨v5, hv, hf⟩ := mbind hf
        refine r_aald X G I hv d_Curves_run_41 ?_
        refine r_aload_n X d_Curves_run_42 rfl (lv_at hl 1 rfl) ?_
        refine lv_iload_n hx hb d_Curves_run_43 rfl (lv_at hl 2 rfl) ?_
        obtain ⟨v6, hv, hf⟩ := mbind hf
        refine r_iald X G I hv d_Curves_run_44 ?_
        obtain ⟨q7, hv, hf⟩ := mbind hf
        obtain ⟨a, ha, hv⟩ := mbind hv
        obtain ⟨ha, fs, hm⟩ := mrc_e ha
        refine m_caR (m_runV (As := [.int v6]) (r := v5) (rest := [.int x2, va_rf x1]) X G I h_Curve_inverseAt k_512 (c_Curve_inverseAt hv) mPr_blind (m_pre G I) hm rfl ha rfl rfl hl.1 (Nat.le_of_ble_eq_true rfl) rfl rfl ⟨Nat.le_of_ble_eq_true rfl, Nat.le_of_ble_eq_true rfl⟩ ⟨Nat.le_refl _, Nat.le_refl _⟩ d_Curves_run_45) ?_
        exact w_Curves_run_48 X G ih hkx55 I hf hl
      · have hf := mift hf hc
        refine r_aload_n X d_Curves_run_21 rfl (lv_at hl 0 rfl) ?_
        obtain ⟨v8, hv, hf⟩ := mbind hf
        refine r_getf X G I (mfA_e hv) o_Curves_row k_343 (Or.inl rfl) d_Curves_run_22 ?_
        refine lv_iload_n hx hb d_Curves_run_25 rfl (lv_at hl 2 rfl) ?_
        obtain ⟨v9, hv, hf⟩ := mbind hf
        refine r_aald X G I hv d_Curves_run_26 ?_
        refine r_aload_n X d_Curves_run_27 rfl (lv_at hl 1 rfl) ?_
        refine lv_iload_n hx hb d_Curves_run_28 rfl (lv_at hl 2 rfl) ?_
        obtain ⟨v10, hv, hf⟩ := mbind hf
        refine r_iald X G I hv d_Curves_run_29 ?_
        obtain ⟨q11, hv, hf⟩ := mbind hf
        obtain ⟨a, ha, hv⟩ := mbind hv
        obtain ⟨ha, fs, hm⟩ := mrc_e ha
        refine m_caR (m_runV (As := [.int v10]) (r := v9) (rest := [.int x2, va_rf x1]) X G I h_Curve_valueAt k_490 (c_Curve_valueAt hv) mPr_blind (m_pre G I) hm rfl ha rfl rfl hl.1 (Nat.le_of_ble_eq_true rfl) rfl rfl ⟨Nat.le_of_ble_eq_true rfl, Nat.le_of_ble_eq_true rfl⟩ ⟨Nat.le_refl _, Nat.le_refl _⟩ d_Curves_run_30) ?_
        refine lv_goto (tgt := 48) hx hb d_Curves_run_33 (by decide) ?_
        exact w_Curves_run_48 X G ih hkx55 I hf hl

set_option maxHeartbeats 4000000 in
set_option maxRecDepth 100000 in
theorem w_Curves_run {h0 : Nat} {r : mM} (X : mX p m meth c s args b_Curves_run 3 none "ColourLinker$Curves") (G : mG D cA dA z0 s) {H : Heap} {locs : List Loc} {μ : mM} {ls : Array Slot} {x1 : Option Nat} (I : mI D cA z0 s μ H locs s.heap.size) (hf : f_Curves_run h0 μ x1 = some r) (hl : lv_has ls 3 [(0, va_rf (some h0)), (1, va_rf x1)]) : W p l e rm_Curves_run s m args below meth c H locs 0 0 (MQ below (mQW D cA z0 none r) args s 0 0 (mA z0)) (F0 m 0 ls []) := by
  have hx := X.ex
  have hb := X.by_
  unfold f_Curves_run at hf
  refine lv_iconst (v := 0) hx hb d_Curves_run_0 (by decide) ?_
  refine lv_istore_n (i := 2) (lv' := [(2, .int (0 : Int32)), (0, va_rf (some h0)), (1, va_rf x1)]) hx hb d_Curves_run_1 rfl hl (by decide) (by simp [mrf_cat]) (fun ls hl => ?_)
  exact w_Curves_run_2 X G (fun H locs μ ls I hf hl => w_Curves_run_55 X G I hf hl) 4096 _ _ _ _ _ _ I hf (lv_sub hl [1, 2, 0] rfl)

set_option maxHeartbeats 4000000 in
set_option maxRecDepth 100000 in
theorem c_Curves_run {l : Launch} {D : va_G} {cA : Nat → ClassId} {dA z0 : Nat} {μ : mM} {h0 : Nat} {x1 : Option Nat} {r : mM} (hf : f_Curves_run h0 μ x1 = some r) : Met l y_Curves_run (mW y_Curves_run b_Curves_run 3 none) rm_Curves_run (va_Pc [.ref h0, va_rf x1] (mPr D cA dA z0 μ)) (mQW D cA z0 none r) 0 0 (mA z0) := by
  refine Met.ofW (cc := b_Curves_run) (maxL := 3) (ret := none) (by decide) rfl ?_
  intro p e s m args below meth c s₁ B hml hv
  obtain ⟨rfl, G, hP⟩ := hv
  have X := mX.of B hml
  exact m_entry (lv := [(0, va_rf (some h0)), (1, va_rf x1)]) (by simp [lg_sl, mrf_cat, mc_int, mc_long, mc_ref]) (by simp [lv_args, mrf_cat, mc_int, mc_long, mc_ref, mrf_some]) (fun ls hl => w_Curves_run X G (mI.start hP) hf hl)

end WK
