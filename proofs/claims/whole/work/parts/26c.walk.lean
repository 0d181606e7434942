section WK
variable {p : Program} {l : Launch} {e : Env} {s : State} {m : MethodId} {args : Array Value} {below : List Frame} {meth : Method} {c : Code} {D : va_G} {cA : Nat → ClassId} {dA z0 : Nat}
abbrev rm_Mo_determinant : Room := { frames := 0, cells := 0, slots := 0, locals := 0 }
theorem h_Mo_determinant : mCV y_Mo_determinant b_Mo_determinant 5 (some .long) 0 := ⟨k_1045, k_79, ⟨by decide, by decide, by decide +kernel⟩, k_1044, k_47⟩
set_option maxHeartbeats 4000000 in
set_option maxRecDepth 100000 in
theorem w_Mo_determinant {μ : mM} {h0 : Nat} {r : Int64} (X : mX p m meth c s args b_Mo_determinant 5 (some .long) "ColourLinkerModel") (G : mG D cA dA z0 s) (I : mI D cA z0 s μ s.heap [] s.heap.size) {ls : Array Slot}  (hf : f_Mo_determinant μ h0 = some r) (hl : lv_has ls 5 [(0, va_rf (some h0))]) : W p l e rm_Mo_determinant s m args below meth c s.heap [] 0 0 (MQ below (mQR (some (.long r))) args s 0 0 (fun _ => False)) (F0 m 0 ls []) := by
  have hx := X.ex
  have hb := X.by_
  unfold f_Mo_determinant at hf
  refine r_aload_n X d_Mo_determinant_0 rfl (lv_at hl 0 rfl) ?_
  obtain ⟨v1, hv, hf⟩ := mbind hf
  refine r_getf X G I (mfA_e hv) o_Mo_m k_854 (Or.inl rfl) d_Mo_determinant_1 ?_
  refine lv_iconst (v := 0) hx hb d_Mo_determinant_4 (by decide) ?_
  obtain ⟨v2, hv, hf⟩ := mbind hf
  refine r_lald X G I hv d_Mo_determinant_5 ?_
  refine r_aload_n X d_Mo_determinant_6 rfl (lv_at hl 0 rfl) ?_
  obtain ⟨v3, hv, hf⟩ := mbind hf
  refine r_getf X G I (mfA_e hv) o_Mo_m k_854 (Or.inl rfl) d_Mo_determinant_7 ?_
  refine lv_iconst (v := 4) hx hb d_Mo_determinant_10 (by decide) ?_
  obtain ⟨v4, hv, hf⟩ := mbind hf
  refine r_lald X G I hv d_Mo_determinant_11 ?_
  refine r_aload_n X d_Mo_determinant_12 rfl (lv_at hl 0 rfl) ?_
  obtain ⟨v5, hv, hf⟩ := mbind hf
  refine r_getf X G I (mfA_e hv) o_Mo_m k_854 (Or.inl rfl) d_Mo_determinant_13 ?_
  refine lv_bipush (v := 8) hx hb d_Mo_determinant_16 (by decide) ?_
  obtain ⟨v6, hv, hf⟩ := mbind hf
  refine r_lald X G I hv d_Mo_determinant_18 ?_
  refine lv_lmul hx hb d_Mo_determinant_19 ?_
  refine r_aload_n X d_Mo_determinant_20 rfl (lv_at hl 0 rfl) ?_
  obtain ⟨v7, hv, hf⟩ := mbind hf
  refine r_getf X G I (mfA_e hv) o_Mo_m k_854 (Or.inl rfl) d_Mo_determinant_21 ?_
  refine lv_iconst (v := 5) hx hb d_Mo_determinant_24 (by decide) ?_
  obtain ⟨v8, hv, hf⟩ := mbind hf
  refine r_lald X G I hv d_Mo_determinant_25 ?_
  refine r_aload_n X d_Mo_determinant_26 rfl (lv_at hl 0 rfl) ?_
  obtain ⟨v9, hv, hf⟩ := mbind hf
  refine r_getf X G I (mfA_e hv) o_Mo_m k_854 (Or.inl rfl) d_Mo_determinant_27 ?_
  refine lv_bipush (v := 7) hx hb d_Mo_determinant_30 (by decide) ?_
  obtain ⟨v10, hv, hf⟩ := mbind hf
  refine r_lald X G I hv d_Mo_determinant_32 ?_
  refine lv_lmul hx hb d_Mo_determinant_33 ?_
  refine lv_lsub hx hb d_Mo_determinant_34 ?_
  refine lv_lmul hx hb d_Mo_determinant_35 ?_
  refine lv_lstore_n (i := 1) (lv' := [(1, .long (v2 * ((v4 * v6) - (v8 * v10)))), (0, va_rf (some h0))]) hx hb d_Mo_determinant_36 rfl hl (by decide) (by simp [mrf_cat]) (fun ls hl => ?_)
  refine r_aload_n X d_Mo_determinant_37 rfl (lv_at hl 1 rfl) ?_
  obtain ⟨v11, hv, hf⟩ := mbind hf
  refine r_getf X G I (mfA_e hv) o_Mo_m k_854 (Or.inl rfl) d_Mo_determinant_38 ?_
  refine lv_iconst (v := 1) hx hb d_Mo_determinant_41 (by decide) ?_
  obtain ⟨v12, hv, hf⟩ := mbind hf
  refine r_lald X G I hv d_Mo_determinant_42 ?_
  refine r_aload_n X d_Mo_determinant_43 rfl (lv_at hl 1 rfl) ?_
  obtain ⟨v13, hv, hf⟩ := mbind hf
  refine r_getf X G I (mfA_e hv) o_Mo_m k_854 (Or.inl rfl) d_Mo_determinant_44 ?_
  refine lv_iconst (v := 5) hx hb d_Mo_determinant_47 (by decide) ?_
  obtain ⟨v14, hv, hf⟩ := mbind hf
  refine r_lald X G I hv d_Mo_determinant_48 ?_
  refine r_aload_n X d_Mo_determinant_49 rfl (lv_at hl 1 rfl) ?_
  obtain ⟨v15, hv, hf⟩ := mbind hf
  refine r_getf X G I (mfA_e hv) o_Mo_m k_854 (Or.inl rfl) d_Mo_determinant_50 ?_
  refine lv_bipush (v := 6) hx hb d_Mo_determinant_53 (by decide) ?_
  obtain ⟨v16, hv, hf⟩ := mbind hf
  refine r_lald X G I hv d_Mo_determinant_55 ?_
  refine lv_lmul hx hb d_Mo_determinant_56 ?_
  refine r_aload_n X d_Mo_determinant_57 rfl (lv_at hl 1 rfl) ?_
  obtain ⟨v17, hv, hf⟩ := mbind hf
  refine r_getf X G I (mfA_e hv) o_Mo_m k_854 (Or.inl rfl) d_Mo_determinant_58 ?_
  refine lv_iconst (v := 3) hx hb d_Mo_determinant_61 (by decide) ?_
  obtain ⟨v18, hv, hf⟩ := mbind hf
  refine r_lald X G I hv d_Mo_determinant_62 ?_
  refine r_aload_n X d_Mo_determinant_63 rfl (lv_at hl 1 rfl) ?_
  obtain ⟨v19, hv, hf⟩ := mbind hf
  refine r_getf X G I (mfA_e hv) o_Mo_m k_854 (Or.inl rfl) d_Mo_determinant_64 ?_
  refine lv_bipush (v := 8) hx hb d_Mo_determinant_67 (by decide) ?_
  obtain ⟨v20, hv, hf⟩ := mbind hf
  refine r_lald X G I hv d_Mo_determinant_69 ?_
  refine lv_lmul hx hb d_Mo_determinant_70 ?_
  refine lv_lsub hx hb d_Mo_determinant_71 ?_
  refine lv_lmul hx hb d_Mo_determinant_72 ?_
  refine lv_lstore_n (i := 3) (lv' := [(3, .long (v12 * ((v14 * v16) - (v18 * v20)))), (1, .long (v2 * ((v4 * v6) - (v8 * v10)))), (0, va_rf (some h0))]) hx hb d_Mo_determinant_73 rfl hl (by decide) rfl (fun ls hl => ?_)
  refine lv_lload_n hx hb d_Mo_determinant_74 rfl (lv_at hl 1 rfl) ?_
  refine lv_lload_n hx hb d_Mo_determinant_75 rfl (lv_at hl 0 rfl) ?_
  refine lv_ladd hx hb d_Mo_determinant_76 ?_
  refine r_aload_n X d_Mo_determinant_77 rfl (lv_at hl 2 rfl) ?_
  obtain ⟨v21, hv, hf⟩ := mbind hf
  refine r_getf X G I (mfA_e hv) o_Mo_m k_854 (Or.inl rfl) d_Mo_determinant_78 ?_
  refine lv_iconst (v := 2) hx hb d_Mo_determinant_81 (by decide) ?_
  obtain ⟨v22, hv, hf⟩ := mbind hf
  refine r_lald X G I hv d_Mo_determinant_82 ?_
  refine r_aload_n X d_Mo_determinant_83 rfl (lv_at hl 2 rfl) ?_
  obtain ⟨v23, hv, hf⟩ := mbind hf
  refine r_getf X G I (mfA_e hv) o_Mo_m k_854 (Or.inl rfl) d_Mo_determinant_84 ?_
  refine lv_iconst (v := 3) hx hb d_Mo_determinant_87 (by decide) ?_
  obtain ⟨v24, hv, hf⟩ := mbind hf
  refine r_lald X G I hv d_Mo_determinant_88 ?_
  refine r_aload_n X d_Mo_determinant_89 rfl (lv_at hl 2 rfl) ?_
  obtain ⟨v25, hv, hf⟩ := mbind hf
  refine r_getf X G I (mfA_e hv) o_Mo_m k_854 (Or.inl rfl) d_Mo_determinant_90 ?_
  refine lv_bipush (v := 7) hx hb d_Mo_determinant_93 (by decide) ?_
  obtain ⟨v26, hv, hf⟩ := mbind hf
  refine r_lald X G I hv d_Mo_determinant_95 ?_
  refine lv_lmul hx hb d_Mo_determinant_96 ?_
  refine r_aload_n X d_Mo_determinant_97 rfl (lv_at hl 2 rfl) ?_
  obtain ⟨v27, hv, hf⟩ := mbind hf
  refine r_getf X G I (mfA_e hv) o_Mo_m k_854 (Or.inl rfl) d_Mo_determinant_98 ?_
  refine lv_iconst (v := 4) hx hb d_Mo_determinant_101 (by decide) ?_
  obtain ⟨v28, hv, hf⟩ := mbind hf
  refine r_lald X G I hv d_Mo_determinant_102 ?_
  refine r_aload_n X d_Mo_determinant_103 rfl (lv_at hl 2 rfl) ?_
  obtain ⟨v29, hv, hf⟩ := mbind hf
  refine r_getf X G I (mfA_e hv) o_Mo_m k_854 (Or.inl rfl) d_Mo_determinant_104 ?_
  refine lv_bipush (v := 6) hx hb d_Mo_determinant_107 (by decide) ?_
  obtain ⟨v30, hv, hf⟩ := mbind hf
  refine r_lald X G I hv d_Mo_determinant_109 ?_
  refine lv_lmul hx hb d_Mo_determinant_110 ?_
  refine lv_lsub hx hb d_Mo_determinant_111 ?_
  refine lv_lmul hx hb d_Mo_determinant_112 ?_
  refine lv_ladd hx hb d_Mo_determinant_113 ?_
  obtain rfl := Option.some.inj hf
  exact r_lretR X d_Mo_determinant_114

set_option maxHeartbeats 4000000 in
set_option maxRecDepth 100000 in
theorem c_Mo_determinant {l : Launch} {D : va_G} {cA : Nat → ClassId} {dA z0 : Nat} {μ : mM} {h0 : Nat} {r : Int64} (hf : f_Mo_determinant μ h0 = some r) : Met l y_Mo_determinant (mW y_Mo_determinant b_Mo_determinant 5 (some .long)) rm_Mo_determinant (va_Pc [.ref h0] (mPr D cA dA z0 μ)) (mQR (some (.long r))) 0 0 (fun _ => False) := by
  refine Met.ofW (cc := b_Mo_determinant) (maxL := 5) (ret := (some .long)) (by decide) rfl ?_
  intro p e s m args below meth c s₁ B hml hv
  obtain ⟨rfl, G, hP⟩ := hv
  have X := mX.of B hml
  exact m_entry (lv := [(0, va_rf (some h0))]) (Nat.le_of_ble_eq_true rfl) rfl (fun ls hl => w_Mo_determinant X G (mI.start hP) hf hl)

abbrev rm_Mo_point : Room := { frames := 0, cells := 0, slots := 0, locals := 0 }
theorem h_Mo_point : mCS y_Mo_point b_Mo_point 1 (some .int) 1 := ⟨k_1058, k_79, ⟨by decide, by decide, by decide +kernel⟩, k_1057⟩
set_option maxHeartbeats 4000000 in
set_option maxRecDepth 100000 in
theorem w_Mo_point_23 {μ : mM} {r : Int32} (X : mX p m meth c s args b_Mo_point 1 (some .int) "ColourLinkerModel") (G : mG D cA dA z0 s) (I : mI D cA z0 s μ s.heap [] s.heap.size) {ls : Array Slot} {s0 : Int32} (hf : f_Mo_point_23 μ s0 = some r) (hl : lv_has ls 1 []) : W p l e rm_Mo_point s m args below meth c s.heap [] 0 0 (MQ below (mQR (some (.int r))) args s 0 0 (fun _ => False)) (F0 m 23 ls [.int s0]) := by
  have hx := X.ex
  have hb := X.by_
  unfold f_Mo_point_23 at hf
  obtain rfl := Option.some.inj hf
  exact r_iretR X d_Mo_point_23

set_option maxHeartbeats 4000000 in
set_option maxRecDepth 100000 in
theorem w_Mo_point {μ : mM} {r : Int32} (X : mX p m meth c s args b_Mo_point 1 (some .int) "ColourLinkerModel") (G : mG D cA dA z0 s) (I : mI D cA z0 s μ s.heap [] s.heap.size) {ls : Array Slot} {x0 : Int32} (hf : f_Mo_point μ x0 = some r) (hl : lv_has ls 1 [(0, .int x0)]) : W p l e rm_Mo_point s m args below meth c s.heap [] 0 0 (MQ below (mQR (some (.int r))) args s 0 0 (fun _ => False)) (F0 m 0 ls []) := by
  have hx := X.ex
  have hb := X.by_
  unfold f_Mo_point at hf
  refine lv_iload_n hx hb d_Mo_point_0 rfl (lv_at hl 0 rfl) ?_
  refine lv_if_ne (tgt := 10) hx hb d_Mo_point_1 (by decide) (fun hc => ?_) (fun hc => ?_)
  · have hf := miff hf hc
    refine lv_iload_n hx hb d_Mo_point_10 rfl (lv_at hl 0 rfl) ?_
    refine lv_iconst (v := 1) hx hb d_Mo_point_11 (by decide) ?_
    refine lv_icmp_ne (tgt := 20) hx hb d_Mo_point_12 (by decide) (fun hc => ?_) (fun hc => ?_)
    · have hf := miff hf hc
      refine lv_sipush (v := 27030) hx hb d_Mo_point_20 (by decide) ?_
      exact w_Mo_point_23 X G I hf (lv_sub hl [] rfl)
    · have hf := mift hf hc
      refine lv_ldc (v := 32768) hx hb X.ow (X.w k_1059) d_Mo_point_15 ?_
      refine lv_goto (tgt := 23) hx hb d_Mo_point_17 (by decide) ?_
      exact w_Mo_point_23 X G I hf (lv_sub hl [] rfl)
  · have hf := mift hf hc
    refine lv_sipush (v := 31595) hx hb d_Mo_point_4 (by decide) ?_
    refine lv_goto (tgt := 23) hx hb d_Mo_point_7 (by decide) ?_
    exact w_Mo_point_23 X G I hf (lv_sub hl [] rfl)

set_option maxHeartbeats 4000000 in
set_option maxRecDepth 100000 in
theorem c_Mo_point {l : Launch} {D : va_G} {cA : Nat → ClassId} {dA z0 : Nat} {μ : mM} {x0 : Int32} {r : Int32} (hf : f_Mo_point μ x0 = some r) : Met l y_Mo_point (mW y_Mo_point b_Mo_point 1 (some .int)) rm_Mo_point (va_Pc [.int x0] (mPr D cA dA z0 μ)) (mQR (some (.int r))) 0 0 (fun _ => False) := by
  refine Met.ofW (cc := b_Mo_point) (maxL := 1) (ret := (some .int)) (by decide) rfl ?_
  intro p e s m args below meth c s₁ B hml hv
  obtain ⟨rfl, G, hP⟩ := hv
  have X := mX.of B hml
  exact m_entry (lv := [(0, .int x0)]) (Nat.le_of_ble_eq_true rfl) rfl (fun ls hl => w_Mo_point X G (mI.start hP) hf hl)

abbrev rm_Mo_white : Room := { frames := 3, cells := 0, slots := 0, locals := 69 }
theorem h_Mo_white : mCV y_Mo_white b_Mo_white 4 (some .int) 2 := ⟨k_1055, k_79, ⟨by decide, by decide, by decide +kernel⟩, k_1054, k_49⟩
set_option maxHeartbeats 4000000 in
set_option maxRecDepth 100000 in
theorem w_Mo_white_31 {μ : mM} {h0 : Nat} {r : Int32} (X : mX p m meth c s args b_Mo_white 4 (some .int) "ColourLinkerModel") (G : mG D cA dA z0 s) (I : mI D cA z0 s μ s.heap [] s.heap.size) {ls : Array Slot} {s0 : Int32} (hf : f_Mo_white_31 μ h0 s0 = some r) (hl : lv_has ls 4 [(0, va_rf (some h0))]) : W p l e rm_Mo_white s m args below meth c s.heap [] 0 0 (MQ below (mQR (some (.int r))) args s 0 0 (fun _ => False)) (F0 m 31 ls [.int s0]) := by
  have hx := X.ex
  have hb := X.by_
  unfold f_Mo_white_31 at hf
  obtain rfl := Option.some.inj hf
  exact r_iretR X d_Mo_white_31

set_option maxHeartbeats 4000000 in
set_option maxRecDepth 100000 in
theorem w_Mo_white {μ : mM} {h0 : Nat} {r : Int32} (X : mX p m meth c s args b_Mo_white 4 (some .int) "ColourLinkerModel") (G : mG D cA dA z0 s) (I : mI D cA z0 s μ s.heap [] s.heap.size) {ls : Array Slot} {x1 : Int32} {x2 : Int32} (hf : f_Mo_white μ h0 x1 x2 = some r) (hl : lv_has ls 4 [(0, va_rf (some h0)), (1, .int x1), (2, .int x2)]) : W p l e rm_Mo_white s m args below meth c s.heap [] 0 0 (MQ below (mQR (some (.int r))) args s 0 0 (fun _ => False)) (F0 m 0 ls []) := by
  have hx := X.ex
  have hb := X.by_
  unfold f_Mo_white at hf
  refine r_aload_n X d_Mo_white_0 rfl (lv_at hl 0 rfl) ?_
  refine lv_iload_n hx hb d_Mo_white_1 rfl (lv_at hl 1 rfl) ?_
  refine lv_bipush (v := 12) hx hb d_Mo_white_2 (by decide) ?_
  obtain ⟨q1, hv, hf⟩ := mbind hf
  obtain ⟨a, ha, hv⟩ := mbind hv
  obtain ⟨ha, fs, hm⟩ := mrc_e ha
  refine m_caR (m_runV (As := [.int x1, .int (12 : Int32)]) (r := some h0) (rest := []) X G I h_Mo_data k_947 (c_Mo_data hv) mPr_blind (m_pre G I) hm rfl ha rfl rfl hl.1 (Nat.le_of_ble_eq_true rfl) rfl rfl ⟨Nat.le_of_ble_eq_true rfl, Nat.le_of_ble_eq_true rfl⟩ ⟨Nat.le_refl _, Nat.le_refl _⟩ d_Mo_white_4) ?_
  refine lv_istore_n (i := 3) (lv' := [(3, .int q1), (0, va_rf (some h0)), (1, .int x1), (2, .int x2)]) hx hb d_Mo_white_7 rfl hl (by decide) rfl (fun ls hl => ?_)
  refine lv_iload_n hx hb d_Mo_white_8 rfl (lv_at hl 0 rfl) ?_
  refine lv_if_ge (tgt := 19) hx hb d_Mo_white_9 (by decide) (fun hc => ?_) (fun hc => ?_)
  · have hf := mift hf hc
    refine r_aload_n X d_Mo_white_19 rfl (lv_at hl 1 rfl) ?_
    refine lv_iload_n hx hb d_Mo_white_20 rfl (lv_at hl 2 rfl) ?_
    refine lv_iload_n hx hb d_Mo_white_21 rfl (lv_at hl 0 rfl) ?_
    refine lv_iconst (v := 2) hx hb d_Mo_white_22 (by decide) ?_
    refine lv_iadd hx hb d_Mo_white_23 ?_
    refine lv_iconst (v := 2) hx hb d_Mo_white_24 (by decide) ?_
    refine lv_iload_n hx hb d_Mo_white_25 rfl (lv_at hl 3 rfl) ?_
    refine lv_imul hx hb d_Mo_white_26 ?_
    refine lv_iadd hx hb d_Mo_white_27 ?_
    obtain ⟨q2, hv, hf⟩ := mbind hf
    obtain ⟨a, ha, hv⟩ := mbind hv
    obtain ⟨ha, fs, hm⟩ := mrc_e ha
    refine m_caR (m_runV (As := [.int x1, .int ((q1 + (2 : Int32)) + ((2 : Int32) * x2))]) (r := some h0) (rest := []) X G I h_Mo_word k_984 (c_Mo_word hv) mPr_blind (m_pre G I) hm rfl ha rfl rfl hl.1 (Nat.le_of_ble_eq_true rfl) rfl rfl ⟨Nat.le_of_ble_eq_true rfl, Nat.le_of_ble_eq_true rfl⟩ ⟨Nat.le_refl _, Nat.le_refl _⟩ d_Mo_white_28) ?_
    exact w_Mo_white_31 X G I hf (lv_sub hl [1] rfl)
  · have hf := miff hf hc
    refine lv_iload_n hx hb d_Mo_white_12 rfl (lv_at hl 3 rfl) ?_
    obtain ⟨q3, hv, hf⟩ := mbind hf
    refine m_caR (m_runS (As := [.int x2]) (rest := []) X h_Mo_point k_1056 (c_Mo_point hv) mPr_blind (m_pre G I) rfl rfl hl.1 (Nat.le_of_ble_eq_true rfl) rfl rfl ⟨Nat.le_of_ble_eq_true rfl, Nat.le_of_ble_eq_true rfl⟩ ⟨Nat.le_refl _, Nat.le_refl _⟩ d_Mo_white_13) ?_
    refine lv_goto (tgt := 31) hx hb d_Mo_white_16 (by decide) ?_
    exact w_Mo_white_31 X G I hf (lv_sub hl [1] rfl)

set_option maxHeartbeats 4000000 in
set_option maxRecDepth 100000 in
theorem c_Mo_white {l : Launch} {D : va_G} {cA : Nat → ClassId} {dA z0 : Nat} {μ : mM} {h0 : Nat} {x1 : Int32} {x2 : Int32} {r : Int32} (hf : f_Mo_white μ h0 x1 x2 = some r) : Met l y_Mo_white (mW y_Mo_white b_Mo_white 4 (some .int)) rm_Mo_white (va_Pc [.ref h0, .int x1, .int x2] (mPr D cA dA z0 μ)) (mQR (some (.int r))) 0 0 (fun _ => False) := by
  refine Met.ofW (cc := b_Mo_white) (maxL := 4) (ret := (some .int)) (by decide) rfl ?_
  intro p e s m args below meth c s₁ B hml hv
  obtain ⟨rfl, G, hP⟩ := hv
  have X := mX.of B hml
  exact m_entry (lv := [(0, va_rf (some h0)), (1, .int x1), (2, .int x2)]) (Nat.le_of_ble_eq_true rfl) rfl (fun ls hl => w_Mo_white X G (mI.start hP) hf hl)

abbrev rm_Mo_otherWhite : Room := { frames := 4, cells := 0, slots := 0, locals := 92 }
theorem h_Mo_otherWhite : mCV y_Mo_otherWhite b_Mo_otherWhite 5 (some .boolean) 2 := ⟨k_1051, k_79, ⟨by decide, by decide, by decide +kernel⟩, k_1050, k_48⟩
set_option maxHeartbeats 4000000 in
set_option maxRecDepth 100000 in
theorem w_Mo_otherWhite_44 {μ : mM} {h0 : Nat} {r : Int32} (X : mX p m meth c s args b_Mo_otherWhite 5 (some .boolean) "ColourLinkerModel") (G : mG D cA dA z0 s) (I : mI D cA z0 s μ s.heap [] s.heap.size) {ls : Array Slot} {x3 : Int32} (hf : f_Mo_otherWhite_44 μ h0 x3 = some r) (hl : lv_has ls 5 [(0, va_rf (some h0)), (3, .int x3)]) : W p l e rm_Mo_otherWhite s m args below meth c s.heap [] 0 0 (MQ below (mQR (some (.int r))) args s 0 0 (fun _ => False)) (F0 m 44 ls []) := by
  have hx := X.ex
  have hb := X.by_
  unfold f_Mo_otherWhite_44 at hf
  refine lv_iload_n hx hb d_Mo_otherWhite_44 rfl (lv_at hl 1 rfl) ?_
  obtain ⟨v3, hv, hf⟩ := mbind hf
  obtain ⟨hz0, hz⟩ := mz_e hv
  rw [hz0] at hf
  obtain rfl := Option.some.inj hf
  exact r_zretR X hz d_Mo_otherWhite_45

set_option maxHeartbeats 4000000 in
set_option maxRecDepth 100000 in
theorem w_Mo_otherWhite_37 {μ : mM} {h0 : Nat} {r : Int32} (X : mX p m meth c s args b_Mo_otherWhite 5 (some .boolean) "ColourLinkerModel") (G : mG D cA dA z0 s) (I : mI D cA z0 s μ s.heap [] s.heap.size) {k : Int32 → Int32 → Int32 → Int32 → Option (Int32)} {kx44 : Int32 → Option (Int32)} (hk : ∀ (ls : Array Slot) (x1 : Int32) (x2 : Int32) (x3 : Int32) (x4 : Int32), k x1 x2 x3 x4 = some r → lv_has ls 5 [(0, va_rf (some h0)), (1, .int x1), (2, .int x2), (3, .int x3), (4, .int x4)] → W p l e rm_Mo_otherWhite s m args below meth c s.heap [] 0 0 (MQ below (mQR (some (.int r))) args s 0 0 (fun _ => False)) (F0 m 5 ls [])) (hkx44 : ∀ (ls : Array Slot) (x3 : Int32), kx44 x3 = some r → lv_has ls 5 [(0, va_rf (some h0)), (3, .int x3)] → W p l e rm_Mo_otherWhite s m args below meth c s.heap [] 0 0 (MQ below (mQR (some (.int r))) args s 0 0 (fun _ => False)) (F0 m 44 ls [])) {ls : Array Slot} {x1 : Int32} {x2 : Int32} {x4 : Int32} {s0 : Int32} (hf : f_Mo_otherWhite_37 μ h0 k kx44 x1 x2 x4 s0 = some r) (hl : lv_has ls 5 [(0, va_rf (some h0)), (1, .int x1), (2, .int x2), (4, .int x4)]) : W p l e rm_Mo_otherWhite s m args below meth c s.heap [] 0 0 (MQ below (mQR (some (.int r))) args s 0 0 (fun _ => False)) (F0 m 37 ls [.int s0]) := by
  have hx := X.ex
  have hb := X.by_
  unfold f_Mo_otherWhite_37 at hf
  refine lv_istore_n (i := 3) (lv' := [(3, .int s0), (0, va_rf (some h0)), (1, .int x1), (2, .int x2), (4, .int x4)]) hx hb d_Mo_otherWhite_37 rfl hl (by decide) rfl (fun ls hl => ?_)
  refine lv_iinc (i := 4) (k := 4) (v := (x4 + (1 : Int32))) (lv' := [(4, .int (x4 + (1 : Int32))), (3, .int s0), (0, va_rf (some h0)), (1, .int x1), (2, .int x2)]) hx hb d_Mo_otherWhite_38 hl rfl (congrArg (fun t => x4 + t) (by decide : Int32.ofInt (1) = (1 : Int32))) (by decide) rfl (fun ls hl => ?_)
  refine lv_goto (tgt := 5) hx hb d_Mo_otherWhite_41 (by decide) ?_
  exact hk _ _ _ _ _ hf (lv_sub hl [2, 3, 4, 1, 0] rfl)

set_option maxHeartbeats 4000000 in
set_option maxRecDepth 100000 in
theorem w_Mo_otherWhite_32 {μ : mM} {h0 : Nat} {r : Int32} (X : mX p m meth c s args b_Mo_otherWhite 5 (some .boolean) "ColourLinkerModel") (G : mG D cA dA z0 s) (I : mI D cA z0 s μ s.heap [] s.heap.size) {k : Int32 → Int32 → Int32 → Int32 → Option (Int32)} {kx44 : Int32 → Option (Int32)} (hk : ∀ (ls : Array Slot) (x1 : Int32) (x2 : Int32) (x3 : Int32) (x4 : Int32), k x1 x2 x3 x4 = some r → lv_has ls 5 [(0, va_rf (some h0)), (1, .int x1), (2, .int x2), (3, .int x3), (4, .int x4)] → W p l e rm_Mo_otherWhite s m args below meth c s.heap [] 0 0 (MQ below (mQR (some (.int r))) args s 0 0 (fun _ => False)) (F0 m 5 ls [])) (hkx44 : ∀ (ls : Array Slot) (x3 : Int32), kx44 x3 = some r → lv_has ls 5 [(0, va_rf (some h0)), (3, .int x3)] → W p l e rm_Mo_otherWhite s m args below meth c s.heap [] 0 0 (MQ below (mQR (some (.int r))) args s 0 0 (fun _ => False)) (F0 m 44 ls [])) {ls : Array Slot} {x1 : Int32} {x2 : Int32} {x4 : Int32} (hf : f_Mo_otherWhite_32 μ h0 k kx44 x1 x2 x4 = some r) (hl : lv_has ls 5 [(0, va_rf (some h0)), (1, .int x1), (2, .int x2), (4, .int x4)]) : W p l e rm_Mo_otherWhite s m args below meth c s.heap [] 0 0 (MQ below (mQR (some (.int r))) args s 0 0 (fun _ => False)) (F0 m 32 ls []) := by
  have hx := X.ex
  have hb := X.by_
  unfold f_Mo_otherWhite_32 at hf
  refine lv_iconst (v := 1) hx hb d_Mo_otherWhite_32 (by decide) ?_
  refine lv_goto (tgt := 37) hx hb d_Mo_otherWhite_33 (by decide) ?_
  exact w_Mo_otherWhite_37 X G I hk hkx44 hf hl

set_option maxHeartbeats 4000000 in
set_option maxRecDepth 100000 in
theorem w_Mo_otherWhite_5 {μ : mM} {h0 : Nat} {r : Int32} (X : mX p m meth c s args b_Mo_otherWhite 5 (some .boolean) "ColourLinkerModel") (G : mG D cA dA z0 s) (I : mI D cA z0 s μ s.heap [] s.heap.size) {kx44 : Int32 → Option (Int32)} (hkx44 : ∀ (ls : Array Slot) (x3 : Int32), kx44 x3 = some r → lv_has ls 5 [(0, va_rf (some h0)), (3, .int x3)] → W p l e rm_Mo_otherWhite s m args below meth c s.heap [] 0 0 (MQ below (mQR (some (.int r))) args s 0 0 (fun _ => False)) (F0 m 44 ls [])) : ∀ (n : Nat) (ls : Array Slot) (x1 : Int32) (x2 : Int32) (x3 : Int32) (x4 : Int32), f_Mo_otherWhite_5 μ h0 kx44 n x1 x2 x3 x4 = some r → lv_has ls 5 [(0, va_rf (some h0)), (1, .int x1), (2, .int x2), (3, .int x3), (4, .int x4)] → W p l e rm_Mo_otherWhite s m args below meth c s.heap [] 0 0 (MQ below (mQR (some (.int r))) args s 0 0 (fun _ => False)) (F0 m 5 ls []) := by
  have hx := X.ex
  have hb := X.by_
  intro n
  induction n with
  | zero => intro ls x1 x2 x3 x4 hf hl; rw [f_Mo_otherWhite_5] at hf; cases hf
  | succ n ih =>
    intro ls x1 x2 x3 x4 hf hl
    rw [f_Mo_otherWhite_5] at hf
    refine lv_iload hx hb d_Mo_otherWhite_5 (lv_at hl 4 rfl) ?_
    refine lv_iconst (v := 3) hx hb d_Mo_otherWhite_7 (by decide) ?_
    refine lv_icmp_ge (tgt := 44) hx hb d_Mo_otherWhite_8 (by decide) (fun hc => ?_) (fun hc => ?_)
    · have hf := mift hf hc
      exact hkx44 _ _ hf (lv_sub hl [0, 3] rfl)
    · have hf := miff hf hc
      refine lv_iload_n hx hb d_Mo_otherWhite_11 rfl (lv_at hl 3 rfl) ?_
      refine lv_if_ne (tgt := 32) hx hb d_Mo_otherWhite_12 (by decide) (fun hc => ?_) (fun hc => ?_)
      · have hf := miff hf hc
        exact w_Mo_otherWhite_32 X G I ih hkx44 hf (lv_sub hl [0, 1, 2, 4] rfl)
      · have hf := mift hf hc
        refine r_aload_n X d_Mo_otherWhite_15 rfl (lv_at hl 0 rfl) ?_
        refine lv_iload_n hx hb d_Mo_otherWhite_16 rfl (lv_at hl 1 rfl) ?_
        refine lv_iload hx hb d_Mo_otherWhite_17 (lv_at hl 4 rfl) ?_
        obtain ⟨q1, hv, hf⟩ := mbind hf
        obtain ⟨a, ha, hv⟩ := mbind hv
        obtain ⟨ha, fs, hm⟩ := mrc_e ha
        refine m_caR (m_runV (As := [.int x1, .int x4]) (r := some h0) (rest := []) X G I h_Mo_white k_1052 (c_Mo_white hv) mPr_blind (m_pre G I) hm rfl ha rfl rfl hl.1 (Nat.le_of_ble_eq_true rfl) rfl rfl ⟨Nat.le_of_ble_eq_true rfl, Nat.le_of_ble_eq_true rfl⟩ ⟨Nat.le_refl _, Nat.le_refl _⟩ d_Mo_otherWhite_19) ?_
        refine r_aload_n X d_Mo_otherWhite_22 rfl (lv_at hl 0 rfl) ?_
        refine lv_iload_n hx hb d_Mo_otherWhite_23 rfl (lv_at hl 2 rfl) ?_
        refine lv_iload hx hb d_Mo_otherWhite_24 (lv_at hl 4 rfl) ?_
        obtain ⟨q2, hv, hf⟩ := mbind hf
        obtain ⟨a, ha, hv⟩ := mbind hv
        obtain ⟨ha, fs, hm⟩ := mrc_e ha
        refine m_caR (m_runV (As := [.int x2, .int x4]) (r := some h0) (rest := [.int q1]) X G I h_Mo_white k_1052 (c_Mo_white hv) mPr_blind (m_pre G I) hm rfl ha rfl rfl hl.1 (Nat.le_of_ble_eq_true rfl) rfl rfl ⟨Nat.le_of_ble_eq_true rfl, Nat.le_of_ble_eq_true rfl⟩ ⟨Nat.le_refl _, Nat.le_refl _⟩ d_Mo_otherWhite_26) ?_
        refine lv_icmp_eq (tgt := 36) hx hb d_Mo_otherWhite_29 (by decide) (fun hc => ?_) (fun hc => ?_)
        · have hf := mift hf hc
          refine lv_iconst (v := 0) hx hb d_Mo_otherWhite_36 (by decide) ?_
          exact w_Mo_otherWhite_37 X G I ih hkx44 hf (lv_sub hl [0, 1, 2, 4] rfl)
        · have hf := miff hf hc
          exact w_Mo_otherWhite_32 X G I ih hkx44 hf (lv_sub hl [0, 1, 2, 4] rfl)

set_option maxHeartbeats 4000000 in
set_option maxRecDepth 100000 in
theorem w_Mo_otherWhite {μ : mM} {h0 : Nat} {r : Int32} (X : mX p m meth c s args b_Mo_otherWhite 5 (some .boolean) "ColourLinkerModel") (G : mG D cA dA z0 s) (I : mI D cA z0 s μ s.heap [] s.heap.size) {ls : Array Slot} {x1 : Int32} {x2 : Int32} (hf : f_Mo_otherWhite μ h0 x1 x2 = some r) (hl : lv_has ls 5 [(0, va_rf (some h0)), (1, .int x1), (2, .int x2)]) : W p l e rm_Mo_otherWhite s m args below meth c s.heap [] 0 0 (MQ below (mQR (some (.int r))) args s 0 0 (fun _ => False)) (F0 m 0 ls []) := by
  have hx := X.ex
  have hb := X.by_
  unfold f_Mo_otherWhite at hf
  refine lv_iconst (v := 0) hx hb d_Mo_otherWhite_0 (by decide) ?_
  refine lv_istore_n (i := 3) (lv' := [(3, .int (0 : Int32)), (0, va_rf (some h0)), (1, .int x1), (2, .int x2)]) hx hb d_Mo_otherWhite_1 rfl hl (by decide) rfl (fun ls hl => ?_)
  refine lv_iconst (v := 0) hx hb d_Mo_otherWhite_2 (by decide) ?_
  refine lv_istore (i := 4) (lv' := [(4, .int (0 : Int32)), (3, .int (0 : Int32)), (0, va_rf (some h0)), (1, .int x1), (2, .int x2)]) hx hb d_Mo_otherWhite_3 hl (by decide) rfl (fun ls hl => ?_)
  exact w_Mo_otherWhite_5 X G I (fun ls x3 hf hl => w_Mo_otherWhite_44 X G I hf hl) 4096 _ _ _ _ _ hf (lv_sub hl [2, 3, 4, 1, 0] rfl)

set_option maxHeartbeats 4000000 in
set_option maxRecDepth 100000 in
theorem c_Mo_otherWhite {l : Launch} {D : va_G} {cA : Nat → ClassId} {dA z0 : Nat} {μ : mM} {h0 : Nat} {x1 : Int32} {x2 : Int32} {r : Int32} (hf : f_Mo_otherWhite μ h0 x1 x2 = some r) : Met l y_Mo_otherWhite (mW y_Mo_otherWhite b_Mo_otherWhite 5 (some .boolean)) rm_Mo_otherWhite (va_Pc [.ref h0, .int x1, .int x2] (mPr D cA dA z0 μ)) (mQR (some (.int r))) 0 0 (fun _ => False) := by
  refine Met.ofW (cc := b_Mo_otherWhite) (maxL := 5) (ret := (some .boolean)) (by decide) rfl ?_
  intro p e s m args below meth c s₁ B hml hv
  obtain ⟨rfl, G, hP⟩ := hv
  have X := mX.of B hml
  exact m_entry (lv := [(0, va_rf (some h0)), (1, .int x1), (2, .int x2)]) (Nat.le_of_ble_eq_true rfl) rfl (fun ls hl => w_Mo_otherWhite X G (mI.start hP) hf hl)

abbrev rm_Mo_plain : Room := { frames := 3, cells := 0, slots := 0, locals := 69 }
theorem h_Mo_plain : mCV y_Mo_plain b_Mo_plain 4 (some .boolean) 2 := ⟨k_1075, k_79, ⟨by decide, by decide, by decide +kernel⟩, k_1074, k_53⟩
set_option maxHeartbeats 4000000 in
set_option maxRecDepth 100000 in
theorem w_Mo_plain_33 {μ : mM} {h0 : Nat} {r : Int32} (X : mX p m meth c s args b_Mo_plain 4 (some .boolean) "ColourLinkerModel") (G : mG D cA dA z0 s) (I : mI D cA z0 s μ s.heap [] s.heap.size) {ls : Array Slot} {s0 : Int32} (hf : f_Mo_plain_33 μ h0 s0 = some r) (hl : lv_has ls 4 [(0, va_rf (some h0))]) : W p l e rm_Mo_plain s m args below meth c s.heap [] 0 0 (MQ below (mQR (some (.int r))) args s 0 0 (fun _ => False)) (F0 m 33 ls [.int s0]) := by
  have hx := X.ex
  have hb := X.by_
  unfold f_Mo_plain_33 at hf
  obtain ⟨v4, hv, hf⟩ := mbind hf
  obtain ⟨hz0, hz⟩ := mz_e hv
  rw [hz0] at hf
  obtain rfl := Option.some.inj hf
  exact r_zretR X hz d_Mo_plain_33

set_option maxHeartbeats 4000000 in
set_option maxRecDepth 100000 in
theorem w_Mo_plain_32 {μ : mM} {h0 : Nat} {r : Int32} (X : mX p m meth c s args b_Mo_plain 4 (some .boolean) "ColourLinkerModel") (G : mG D cA dA z0 s) (I : mI D cA z0 s μ s.heap [] s.heap.size) {ls : Array Slot}  (hf : f_Mo_plain_32 μ h0 = some r) (hl : lv_has ls 4 [(0, va_rf (some h0))]) : W p l e rm_Mo_plain s m args below meth c s.heap [] 0 0 (MQ below (mQR (some (.int r))) args s 0 0 (fun _ => False)) (F0 m 32 ls []) := by
  have hx := X.ex
  have hb := X.by_
  unfold f_Mo_plain_32 at hf
  refine lv_iconst (v := 0) hx hb d_Mo_plain_32 (by decide) ?_
  exact w_Mo_plain_33 X G I hf hl

set_option maxHeartbeats 4000000 in
set_option maxRecDepth 100000 in
theorem w_Mo_plain {μ : mM} {h0 : Nat} {r : Int32} (X : mX p m meth c s args b_Mo_plain 4 (some .boolean) "ColourLinkerModel") (G : mG D cA dA z0 s) (I : mI D cA z0 s μ s.heap [] s.heap.size) {ls : Array Slot} {x1 : Int32} {x2 : Int32} (hf : f_Mo_plain μ h0 x1 x2 = some r) (hl : lv_has ls 4 [(0, va_rf (some h0)), (1, .int x1), (2, .int x2)]) : W p l e rm_Mo_plain s m args below meth c s.heap [] 0 0 (MQ below (mQR (some (.int r))) args s 0 0 (fun _ => False)) (F0 m 0 ls []) := by
  have hx := X.ex
  have hb := X.by_
  unfold f_Mo_plain at hf
  refine r_aload_n X d_Mo_plain_0 rfl (lv_at hl 0 rfl) ?_
  refine lv_iload_n hx hb d_Mo_plain_1 rfl (lv_at hl 1 rfl) ?_
  refine lv_iload_n hx hb d_Mo_plain_2 rfl (lv_at hl 2 rfl) ?_
  obtain ⟨q1, hv, hf⟩ := mbind hf
  obtain ⟨a, ha, hv⟩ := mbind hv
  obtain ⟨ha, fs, hm⟩ := mrc_e ha
  refine m_caR (m_runV (As := [.int x1, .int x2]) (r := some h0) (rest := []) X G I h_Mo_data k_947 (c_Mo_data hv) mPr_blind (m_pre G I) hm rfl ha rfl rfl hl.1 (Nat.le_of_ble_eq_true rfl) rfl rfl ⟨Nat.le_of_ble_eq_true rfl, Nat.le_of_ble_eq_true rfl⟩ ⟨Nat.le_refl _, Nat.le_refl _⟩ d_Mo_plain_3) ?_
  refine lv_istore_n (i := 3) (lv' := [(3, .int q1), (0, va_rf (some h0)), (1, .int x1), (2, .int x2)]) hx hb d_Mo_plain_6 rfl hl (by decide) rfl (fun ls hl => ?_)
  refine r_aload_n X d_Mo_plain_7 rfl (lv_at hl 1 rfl) ?_
  refine lv_iload_n hx hb d_Mo_plain_8 rfl (lv_at hl 2 rfl) ?_
  refine lv_iload_n hx hb d_Mo_plain_9 rfl (lv_at hl 0 rfl) ?_
  obtain ⟨q2, hv, hf⟩ := mbind hf
  obtain ⟨a, ha, hv⟩ := mbind hv
  obtain ⟨ha, fs, hm⟩ := mrc_e ha
  refine m_caR (m_runV (As := [.int x1, .int q1]) (r := some h0) (rest := []) X G I h_Mo_part k_955 (c_Mo_part hv) mPr_blind (m_pre G I) hm rfl ha rfl rfl hl.1 (Nat.le_of_ble_eq_true rfl) rfl rfl ⟨Nat.le_of_ble_eq_true rfl, Nat.le_of_ble_eq_true rfl⟩ ⟨Nat.le_refl _, Nat.le_refl _⟩ d_Mo_plain_10) ?_
  refine lv_iconst (v := 1) hx hb d_Mo_plain_13 (by decide) ?_
  refine lv_icmp_ne (tgt := 32) hx hb d_Mo_plain_14 (by decide) (fun hc => ?_) (fun hc => ?_)
  · have hf := miff hf hc
    exact w_Mo_plain_32 X G I hf (lv_sub hl [1] rfl)
  · have hf := mift hf hc
    refine r_aload_n X d_Mo_plain_17 rfl (lv_at hl 1 rfl) ?_
    refine lv_iload_n hx hb d_Mo_plain_18 rfl (lv_at hl 2 rfl) ?_
    refine lv_iload_n hx hb d_Mo_plain_19 rfl (lv_at hl 0 rfl) ?_
    refine lv_iconst (v := 1) hx hb d_Mo_plain_20 (by decide) ?_
    refine lv_iadd hx hb d_Mo_plain_21 ?_
    obtain ⟨q3, hv, hf⟩ := mbind hf
    obtain ⟨a, ha, hv⟩ := mbind hv
    obtain ⟨ha, fs, hm⟩ := mrc_e ha
    refine m_caR (m_runV (As := [.int x1, .int (q1 + (1 : Int32))]) (r := some h0) (rest := []) X G I h_Mo_part k_955 (c_Mo_part hv) mPr_blind (m_pre G I) hm rfl ha rfl rfl hl.1 (Nat.le_of_ble_eq_true rfl) rfl rfl ⟨Nat.le_of_ble_eq_true rfl, Nat.le_of_ble_eq_true rfl⟩ ⟨Nat.le_refl _, Nat.le_refl _⟩ d_Mo_plain_22) ?_
    refine lv_if_ne (tgt := 32) hx hb d_Mo_plain_25 (by decide) (fun hc => ?_) (fun hc => ?_)
    · have hf := miff hf hc
      exact w_Mo_plain_32 X G I hf (lv_sub hl [1] rfl)
    · have hf := mift hf hc
      refine lv_iconst (v := 1) hx hb d_Mo_plain_28 (by decide) ?_
      refine lv_goto (tgt := 33) hx hb d_Mo_plain_29 (by decide) ?_
      exact w_Mo_plain_33 X G I hf (lv_sub hl [1] rfl)

set_option maxHeartbeats 4000000 in
set_option maxRecDepth 100000 in
theorem c_Mo_plain {l : Launch} {D : va_G} {cA : Nat → ClassId} {dA z0 : Nat} {μ : mM} {h0 : Nat} {x1 : Int32} {x2 : Int32} {r : Int32} (hf : f_Mo_plain μ h0 x1 x2 = some r) : Met l y_Mo_plain (mW y_Mo_plain b_Mo_plain 4 (some .boolean)) rm_Mo_plain (va_Pc [.ref h0, .int x1, .int x2] (mPr D cA dA z0 μ)) (mQR (some (.int r))) 0 0 (fun _ => False) := by
  refine Met.ofW (cc := b_Mo_plain) (maxL := 4) (ret := (some .boolean)) (by decide) rfl ?_
  intro p e s m args below meth c s₁ B hml hv
  obtain ⟨rfl, G, hP⟩ := hv
  have X := mX.of B hml
  exact m_entry (lv := [(0, va_rf (some h0)), (1, .int x1), (2, .int x2)]) (Nat.le_of_ble_eq_true rfl) rfl (fun ls hl => w_Mo_plain X G (mI.start hP) hf hl)

abbrev rm_Mo_put : Room := { frames := 0, cells := 0, slots := 0, locals := 0 }
theorem h_Mo_put : mCV y_Mo_put b_Mo_put 5 none 4 := ⟨k_1079, k_79, ⟨by decide, by decide, by decide +kernel⟩, k_1078, k_54⟩
set_option maxHeartbeats 4000000 in
set_option maxRecDepth 100000 in
theorem w_Mo_put {h0 : Nat} {r : mM} (X : mX p m meth c s args b_Mo_put 5 none "ColourLinkerModel") (G : mG D cA dA z0 s) {H : Heap} {locs : List Loc} {μ : mM} {ls : Array Slot} {x1 : Int32} {x2 : Int32} {x3 : Int32} {x4 : Int32} (I : mI D cA z0 s μ H locs s.heap.size) (hf : f_Mo_put h0 μ x1 x2 x3 x4 = some r) (hl : lv_has ls 5 [(0, va_rf (some h0)), (1, .int x1), (2, .int x2), (3, .int x3), (4, .int x4)]) : W p l e rm_Mo_put s m args below meth c H locs 0 0 (MQ below (mQW D cA z0 none r) args s 0 0 (mA z0)) (F0 m 0 ls []) := by
  have hx := X.ex
  have hb := X.by_
  unfold f_Mo_put at hf
  refine r_aload_n X d_Mo_put_0 rfl (lv_at hl 0 rfl) ?_
  obtain ⟨v1, hv, hf⟩ := mbind hf
  refine r_getf X G I (mfA_e hv) o_Mo_kind k_846 (Or.inl rfl) d_Mo_put_1 ?_
  refine r_aload_n X d_Mo_put_4 rfl (lv_at hl 0 rfl) ?_
  obtain ⟨v2, hv, hf⟩ := mbind hf
  refine r_getf X G I (mfI_e hv) o_Mo_row k_850 (Or.inl rfl) d_Mo_put_5 ?_
  refine lv_iload_n hx hb d_Mo_put_8 rfl (lv_at hl 1 rfl) ?_
  obtain ⟨m3, hv, hf⟩ := mbind hf
  refine r_iast X G I hv d_Mo_put_9 (fun H locs I => ?_)
  refine r_aload_n X d_Mo_put_10 rfl (lv_at hl 0 rfl) ?_
  obtain ⟨v4, hv, hf⟩ := mbind hf
  refine r_getf X G I (mfA_e hv) o_Mo_who k_847 (Or.inl rfl) d_Mo_put_11 ?_
  refine r_aload_n X d_Mo_put_14 rfl (lv_at hl 0 rfl) ?_
  obtain ⟨v5, hv, hf⟩ := mbind hf
  refine r_getf X G I (mfI_e hv) o_Mo_row k_850 (Or.inl rfl) d_Mo_put_15 ?_
  refine lv_iload_n hx hb d_Mo_put_18 rfl (lv_at hl 2 rfl) ?_
  obtain ⟨m6, hv, hf⟩ := mbind hf
  refine r_iast X G I hv d_Mo_put_19 (fun H locs I => ?_)
  refine r_aload_n X d_Mo_put_20 rfl (lv_at hl 0 rfl) ?_
  obtain ⟨v7, hv, hf⟩ := mbind hf
  refine r_getf X G I (mfA_e hv) o_Mo_one k_848 (Or.inl rfl) d_Mo_put_21 ?_
  refine r_aload_n X d_Mo_put_24 rfl (lv_at hl 0 rfl) ?_
  obtain ⟨v8, hv, hf⟩ := mbind hf
  refine r_getf X G I (mfI_e hv) o_Mo_row k_850 (Or.inl rfl) d_Mo_put_25 ?_
  refine lv_iload_n hx hb d_Mo_put_28 rfl (lv_at hl 3 rfl) ?_
  obtain ⟨m9, hv, hf⟩ := mbind hf
  refine r_iast X G I hv d_Mo_put_29 (fun H locs I => ?_)
  refine r_aload_n X d_Mo_put_30 rfl (lv_at hl 0 rfl) ?_
  obtain ⟨v10, hv, hf⟩ := mbind hf
  refine r_getf X G I (mfA_e hv) o_Mo_two k_849 (Or.inl rfl) d_Mo_put_31 ?_
  refine r_aload_n X d_Mo_put_34 rfl (lv_at hl 0 rfl) ?_
  obtain ⟨v11, hv, hf⟩ := mbind hf
  refine r_getf X G I (mfI_e hv) o_Mo_row k_850 (Or.inl rfl) d_Mo_put_35 ?_
  refine lv_iload hx hb d_Mo_put_38 (lv_at hl 4 rfl) ?_
  obtain ⟨m12, hv, hf⟩ := mbind hf
  refine r_iast X G I hv d_Mo_put_40 (fun H locs I => ?_)
  refine r_aload_n X d_Mo_put_41 rfl (lv_at hl 0 rfl) ?_
  refine lv_dup hx hb d_Mo_put_42 (mrf_cat _) ?_
  obtain ⟨v13, hv, hf⟩ := mbind hf
  refine r_getf X G I (mfI_e hv) o_Mo_row k_850 (Or.inl rfl) d_Mo_put_43 ?_
  refine lv_iconst (v := 1) hx hb d_Mo_put_46 (by decide) ?_
  refine lv_iadd hx hb d_Mo_put_47 ?_
  obtain ⟨m14, hv, hf⟩ := mbind hf
  refine r_put (ty := .int) X G I hv o_Mo_row k_850 (Or.inl rfl) (by decide) rfl rfl d_Mo_put_48 (fun H locs I => ?_)
  obtain rfl := Option.some.inj hf
  exact r_vretW X I d_Mo_put_51

set_option maxHeartbeats 4000000 in
set_option maxRecDepth 100000 in
theorem c_Mo_put {l : Launch} {D : va_G} {cA : Nat → ClassId} {dA z0 : Nat} {μ : mM} {h0 : Nat} {x1 : Int32} {x2 : Int32} {x3 : Int32} {x4 : Int32} {r : mM} (hf : f_Mo_put h0 μ x1 x2 x3 x4 = some r) : Met l y_Mo_put (mW y_Mo_put b_Mo_put 5 none) rm_Mo_put (va_Pc [.ref h0, .int x1, .int x2, .int x3, .int x4] (mPr D cA dA z0 μ)) (mQW D cA z0 none r) 0 0 (mA z0) := by
  refine Met.ofW (cc := b_Mo_put) (maxL := 5) (ret := none) (by decide) rfl ?_
  intro p e s m args below meth c s₁ B hml hv
  obtain ⟨rfl, G, hP⟩ := hv
  have X := mX.of B hml
  exact m_entry (lv := [(0, va_rf (some h0)), (1, .int x1), (2, .int x2), (3, .int x3), (4, .int x4)]) (Nat.le_of_ble_eq_true rfl) rfl (fun ls hl => w_Mo_put X G (mI.start hP) hf hl)

abbrev rm_Mo_putCurves : Room := { frames := 4, cells := 0, slots := 0, locals := 92 }
theorem h_Mo_putCurves : mCV y_Mo_putCurves b_Mo_putCurves 4 none 2 := ⟨k_1071, k_79, ⟨by decide, by decide, by decide +kernel⟩, k_1070, k_52⟩
set_option maxHeartbeats 4000000 in
set_option maxRecDepth 100000 in
theorem w_Mo_putCurves_62 {h0 : Nat} {r : mM} (X : mX p m meth c s args b_Mo_putCurves 4 none "ColourLinkerModel") (G : mG D cA dA z0 s) {H : Heap} {locs : List Loc} {μ : mM} {ls : Array Slot}  (I : mI D cA z0 s μ H locs s.heap.size) (hf : f_Mo_putCurves_62 h0 μ = some r) (hl : lv_has ls 4 [(0, va_rf (some h0))]) : W p l e rm_Mo_putCurves s m args below meth c H locs 0 0 (MQ below (mQW D cA z0 none r) args s 0 0 (mA z0)) (F0 m 62 ls []) := by
  have hx := X.ex
  have hb := X.by_
  unfold f_Mo_putCurves_62 at hf
  obtain rfl := Option.some.inj hf
  exact r_vretW X I d_Mo_putCurves_62

set_option maxHeartbeats 4000000 in
set_option maxRecDepth 100000 in
theorem w_Mo_putCurves_49 {h0 : Nat} {r : mM} (X : mX p m meth c s args b_Mo_putCurves 4 none "ColourLinkerModel") (G : mG D cA dA z0 s) {H : Heap} {locs : List Loc} {μ : mM} {ls : Array Slot} {x1 : Int32} {x2 : Int32} {s0 : Int32} (I : mI D cA z0 s μ H locs s.heap.size) (hf : f_Mo_putCurves_49 h0 μ x1 x2 s0 = some r) (hl : lv_has ls 4 [(0, va_rf (some h0)), (1, .int x1), (2, .int x2)]) : W p l e rm_Mo_putCurves s m args below meth c H locs 0 0 (MQ below (mQW D cA z0 none r) args s 0 0 (mA z0)) (F0 m 49 ls [.int s0]) := by
  have hx := X.ex
  have hb := X.by_
  unfold f_Mo_putCurves_49 at hf
  refine lv_istore_n (i := 3) (lv' := [(3, .int s0), (0, va_rf (some h0)), (1, .int x1), (2, .int x2)]) hx hb d_Mo_putCurves_49 rfl hl (by decide) rfl (fun ls hl => ?_)
  refine lv_iload_n hx hb d_Mo_putCurves_50 rfl (lv_at hl 0 rfl) ?_
  refine lv_if_ne (tgt := 62) hx hb d_Mo_putCurves_51 (by decide) (fun hc => ?_) (fun hc => ?_)
  · have hf := miff hf hc
    exact w_Mo_putCurves_62 X G I hf (lv_sub hl [1] rfl)
  · have hf := mift hf hc
    refine r_aload_n X d_Mo_putCurves_54 rfl (lv_at hl 1 rfl) ?_
    refine lv_iload_n hx hb d_Mo_putCurves_55 rfl (lv_at hl 2 rfl) ?_
    refine lv_iload_n hx hb d_Mo_putCurves_56 rfl (lv_at hl 3 rfl) ?_
    refine lv_iconst (v := 0) hx hb d_Mo_putCurves_57 (by decide) ?_
    refine lv_iconst (v := 0) hx hb d_Mo_putCurves_58 (by decide) ?_
    obtain ⟨q6, hv, hf⟩ := mbind hf
    obtain ⟨a, ha, hv⟩ := mbind hv
    obtain ⟨ha, fs, hm⟩ := mrc_e ha
    refine m_caWv (m_runV (As := [.int x1, .int x2, .int (0 : Int32), .int (0 : Int32)]) (r := some h0) (rest := []) X G I h_Mo_put k_1076 (c_Mo_put hv) mPr_blind (m_pre G I) hm rfl ha rfl rfl hl.1 (Nat.le_of_ble_eq_true rfl) rfl rfl ⟨Nat.le_of_ble_eq_true rfl, Nat.le_of_ble_eq_true rfl⟩ ⟨Nat.le_refl _, Nat.le_refl _⟩ d_Mo_putCurves_59) I (fun H locs I => ?_)
    exact w_Mo_putCurves_62 X G I hf (lv_sub hl [1] rfl)

set_option maxHeartbeats 4000000 in
set_option maxRecDepth 100000 in
theorem w_Mo_putCurves_48 {h0 : Nat} {r : mM} (X : mX p m meth c s args b_Mo_putCurves 4 none "ColourLinkerModel") (G : mG D cA dA z0 s) {H : Heap} {locs : List Loc} {μ : mM} {ls : Array Slot} {x1 : Int32} {x2 : Int32} (I : mI D cA z0 s μ H locs s.heap.size) (hf : f_Mo_putCurves_48 h0 μ x1 x2 = some r) (hl : lv_has ls 4 [(0, va_rf (some h0)), (1, .int x1), (2, .int x2)]) : W p l e rm_Mo_putCurves s m args below meth c H locs 0 0 (MQ below (mQW D cA z0 none r) args s 0 0 (mA z0)) (F0 m 48 ls []) := by
  have hx := X.ex
  have hb := X.by_
  unfold f_Mo_putCurves_48 at hf
  refine lv_iconst (v := 0) hx hb d_Mo_putCurves_48 (by decide) ?_
  exact w_Mo_putCurves_49 X G I hf hl

set_option maxHeartbeats 4000000 in
set_option maxRecDepth 100000 in
theorem w_Mo_putCurves {h0 : Nat} {r : mM} (X : mX p m meth c s args b_Mo_putCurves 4 none "ColourLinkerModel") (G : mG D cA dA z0 s) {H : Heap} {locs : List Loc} {μ : mM} {ls : Array Slot} {x1 : Int32} {x2 : Int32} (I : mI D cA z0 s μ H locs s.heap.size) (hf : f_Mo_putCurves h0 μ x1 x2 = some r) (hl : lv_has ls 4 [(0, va_rf (some h0)), (1, .int x1), (2, .int x2)]) : W p l e rm_Mo_putCurves s m args below meth c H locs 0 0 (MQ below (mQW D cA z0 none r) args s 0 0 (mA z0)) (F0 m 0 ls []) := by
  have hx := X.ex
  have hb := X.by_
  unfold f_Mo_putCurves at hf
  refine r_aload_n X d_Mo_putCurves_0 rfl (lv_at hl 0 rfl) ?_
  refine lv_iload_n hx hb d_Mo_putCurves_1 rfl (lv_at hl 2 rfl) ?_
  obtain ⟨q1, hv, hf⟩ := mbind hf
  obtain ⟨a, ha, hv⟩ := mbind hv
  obtain ⟨ha, fs, hm⟩ := mrc_e ha
  refine m_caR (m_runV (As := [.int x2]) (r := some h0) (rest := []) X G I h_Mo_single k_1021 (c_Mo_single hv) mPr_blind (m_pre G I) hm rfl ha rfl rfl hl.1 (Nat.le_of_ble_eq_true rfl) rfl rfl ⟨Nat.le_of_ble_eq_true rfl, Nat.le_of_ble_eq_true rfl⟩ ⟨Nat.le_refl _, Nat.le_refl _⟩ d_Mo_putCurves_2) ?_
  refine lv_if_eq (tgt := 17) hx hb d_Mo_putCurves_5 (by decide) (fun hc => ?_) (fun hc => ?_)
  · have hf := mift hf hc
    refine r_aload_n X d_Mo_putCurves_17 rfl (lv_at hl 0 rfl) ?_
    refine lv_iload_n hx hb d_Mo_putCurves_18 rfl (lv_at hl 2 rfl) ?_
    refine lv_iconst (v := 2) hx hb d_Mo_putCurves_19 (by decide) ?_
    obtain ⟨q2, hv, hf⟩ := mbind hf
    obtain ⟨a, ha, hv⟩ := mbind hv
    obtain ⟨ha, fs, hm⟩ := mrc_e ha
    refine m_caR (m_runV (As := [.int x2, .int (2 : Int32)]) (r := some h0) (rest := []) X G I h_Mo_plain k_1072 (c_Mo_plain hv) mPr_blind (m_pre G I) hm rfl ha rfl rfl hl.1 (Nat.le_of_ble_eq_true rfl) rfl rfl ⟨Nat.le_of_ble_eq_true rfl, Nat.le_of_ble_eq_true rfl⟩ ⟨Nat.le_refl _, Nat.le_refl _⟩ d_Mo_putCurves_20) ?_
    refine lv_if_eq (tgt := 48) hx hb d_Mo_putCurves_23 (by decide) (fun hc => ?_) (fun hc => ?_)
    · have hf := mift hf hc
      exact w_Mo_putCurves_48 X G I hf hl
    · have hf := miff hf hc
      refine r_aload_n X d_Mo_putCurves_26 rfl (lv_at hl 0 rfl) ?_
      refine lv_iload_n hx hb d_Mo_putCurves_27 rfl (lv_at hl 2 rfl) ?_
      refine lv_iconst (v := 3) hx hb d_Mo_putCurves_28 (by decide) ?_
      obtain ⟨q3, hv, hf⟩ := mbind hf
      obtain ⟨a, ha, hv⟩ := mbind hv
      obtain ⟨ha, fs, hm⟩ := mrc_e ha
      refine m_caR (m_runV (As := [.int x2, .int (3 : Int32)]) (r := some h0) (rest := []) X G I h_Mo_plain k_1072 (c_Mo_plain hv) mPr_blind (m_pre G I) hm rfl ha rfl rfl hl.1 (Nat.le_of_ble_eq_true rfl) rfl rfl ⟨Nat.le_of_ble_eq_true rfl, Nat.le_of_ble_eq_true rfl⟩ ⟨Nat.le_refl _, Nat.le_refl _⟩ d_Mo_putCurves_29) ?_
      refine lv_if_eq (tgt := 48) hx hb d_Mo_putCurves_32 (by decide) (fun hc => ?_) (fun hc => ?_)
      · have hf := mift hf hc
        exact w_Mo_putCurves_48 X G I hf hl
      · have hf := miff hf hc
        refine r_aload_n X d_Mo_putCurves_35 rfl (lv_at hl 0 rfl) ?_
        refine lv_iload_n hx hb d_Mo_putCurves_36 rfl (lv_at hl 2 rfl) ?_
        refine lv_iconst (v := 4) hx hb d_Mo_putCurves_37 (by decide) ?_
        obtain ⟨q4, hv, hf⟩ := mbind hf
        obtain ⟨a, ha, hv⟩ := mbind hv
        obtain ⟨ha, fs, hm⟩ := mrc_e ha
        refine m_caR (m_runV (As := [.int x2, .int (4 : Int32)]) (r := some h0) (rest := []) X G I h_Mo_plain k_1072 (c_Mo_plain hv) mPr_blind (m_pre G I) hm rfl ha rfl rfl hl.1 (Nat.le_of_ble_eq_true rfl) rfl rfl ⟨Nat.le_of_ble_eq_true rfl, Nat.le_of_ble_eq_true rfl⟩ ⟨Nat.le_refl _, Nat.le_refl _⟩ d_Mo_putCurves_38) ?_
        refine lv_if_eq (tgt := 48) hx hb d_Mo_putCurves_41 (by decide) (fun hc => ?_) (fun hc => ?_)
        · have hf := mift hf hc
          exact w_Mo_putCurves_48 X G I hf hl
        · have hf := miff hf hc
          refine lv_iconst (v := 1) hx hb d_Mo_putCurves_44 (by decide) ?_
          refine lv_goto (tgt := 49) hx hb d_Mo_putCurves_45 (by decide) ?_
          exact w_Mo_putCurves_49 X G I hf hl
  · have hf := miff hf hc
    refine r_aload_n X d_Mo_putCurves_8 rfl (lv_at hl 0 rfl) ?_
    refine lv_iload_n hx hb d_Mo_putCurves_9 rfl (lv_at hl 2 rfl) ?_
    refine lv_iconst (v := 1) hx hb d_Mo_putCurves_10 (by decide) ?_
    obtain ⟨q5, hv, hf⟩ := mbind hf
    obtain ⟨a, ha, hv⟩ := mbind hv
    obtain ⟨ha, fs, hm⟩ := mrc_e ha
    refine m_caR (m_runV (As := [.int x2, .int (1 : Int32)]) (r := some h0) (rest := []) X G I h_Mo_plain k_1072 (c_Mo_plain hv) mPr_blind (m_pre G I) hm rfl ha rfl rfl hl.1 (Nat.le_of_ble_eq_true rfl) rfl rfl ⟨Nat.le_of_ble_eq_true rfl, Nat.le_of_ble_eq_true rfl⟩ ⟨Nat.le_refl _, Nat.le_refl _⟩ d_Mo_putCurves_11) ?_
    refine lv_goto (tgt := 49) hx hb d_Mo_putCurves_14 (by decide) ?_
    exact w_Mo_putCurves_49 X G I hf hl

set_option maxHeartbeats 4000000 in
set_option maxRecDepth 100000 in
theorem c_Mo_putCurves {l : Launch} {D : va_G} {cA : Nat → ClassId} {dA z0 : Nat} {μ : mM} {h0 : Nat} {x1 : Int32} {x2 : Int32} {r : mM} (hf : f_Mo_putCurves h0 μ x1 x2 = some r) : Met l y_Mo_putCurves (mW y_Mo_putCurves b_Mo_putCurves 4 none) rm_Mo_putCurves (va_Pc [.ref h0, .int x1, .int x2] (mPr D cA dA z0 μ)) (mQW D cA z0 none r) 0 0 (mA z0) := by
  refine Met.ofW (cc := b_Mo_putCurves) (maxL := 4) (ret := none) (by decide) rfl ?_
  intro p e s m args below meth c s₁ B hml hv
  obtain ⟨rfl, G, hP⟩ := hv
  have X := mX.of B hml
  exact m_entry (lv := [(0, va_rf (some h0)), (1, .int x1), (2, .int x2)]) (Nat.le_of_ble_eq_true rfl) rfl (fun ls hl => w_Mo_putCurves X G (mI.start hP) hf hl)

abbrev rm_Mo_putMatrix : Room := { frames := 4, cells := 0, slots := 0, locals := 93 }
theorem h_Mo_putMatrix : mCV y_Mo_putMatrix b_Mo_putMatrix 5 none 2 := ⟨k_1083, k_79, ⟨by decide, by decide, by decide +kernel⟩, k_1082, k_55⟩
set_option maxHeartbeats 4000000 in
set_option maxRecDepth 100000 in
theorem w_Mo_putMatrix_70 {h0 : Nat} {r : mM} (X : mX p m meth c s args b_Mo_putMatrix 5 none "ColourLinkerModel") (G : mG D cA dA z0 s) {H : Heap} {locs : List Loc} {μ : mM} {ls : Array Slot}  (I : mI D cA z0 s μ H locs s.heap.size) (hf : f_Mo_putMatrix_70 h0 μ = some r) (hl : lv_has ls 5 [(0, va_rf (some h0))]) : W p l e rm_Mo_putMatrix s m args below meth c H locs 0 0 (MQ below (mQW D cA z0 none r) args s 0 0 (mA z0)) (F0 m 70 ls []) := by
  have hx := X.ex
  have hb := X.by_
  unfold f_Mo_putMatrix_70 at hf
  obtain rfl := Option.some.inj hf
  exact r_vretW X I d_Mo_putMatrix_70

set_option maxHeartbeats 4000000 in
set_option maxRecDepth 100000 in
theorem w_Mo_putMatrix_58 {h0 : Nat} {r : mM} (X : mX p m meth c s args b_Mo_putMatrix 5 none "ColourLinkerModel") (G : mG D cA dA z0 s) {H : Heap} {locs : List Loc} {μ : mM} {ls : Array Slot} {x1 : Int32} {x2 : Int32} {x3 : Int32} (I : mI D cA z0 s μ H locs s.heap.size) (hf : f_Mo_putMatrix_58 h0 μ x1 x2 x3 = some r) (hl : lv_has ls 5 [(0, va_rf (some h0)), (1, .int x1), (2, .int x2), (3, .int x3)]) : W p l e rm_Mo_putMatrix s m args below meth c H locs 0 0 (MQ below (mQW D cA z0 none r) args s 0 0 (mA z0)) (F0 m 58 ls []) := by
  have hx := X.ex
  have hb := X.by_
  unfold f_Mo_putMatrix_58 at hf
  refine lv_iload_n hx hb d_Mo_putMatrix_58 rfl (lv_at hl 3 rfl) ?_
  refine lv_if_ne (tgt := 70) hx hb d_Mo_putMatrix_59 (by decide) (fun hc => ?_) (fun hc => ?_)
  · have hf := miff hf hc
    exact w_Mo_putMatrix_70 X G I hf (lv_sub hl [0] rfl)
  · have hf := mift hf hc
    refine r_aload_n X d_Mo_putMatrix_62 rfl (lv_at hl 0 rfl) ?_
    refine lv_iload_n hx hb d_Mo_putMatrix_63 rfl (lv_at hl 1 rfl) ?_
    refine lv_iload_n hx hb d_Mo_putMatrix_64 rfl (lv_at hl 2 rfl) ?_
    refine lv_iconst (v := 0) hx hb d_Mo_putMatrix_65 (by decide) ?_
    refine lv_iconst (v := 0) hx hb d_Mo_putMatrix_66 (by decide) ?_
    obtain ⟨q4, hv, hf⟩ := mbind hf
    obtain ⟨a, ha, hv⟩ := mbind hv
    obtain ⟨ha, fs, hm⟩ := mrc_e ha
    refine m_caWv (m_runV (As := [.int x1, .int x2, .int (0 : Int32), .int (0 : Int32)]) (r := some h0) (rest := []) X G I h_Mo_put k_1076 (c_Mo_put hv) mPr_blind (m_pre G I) hm rfl ha rfl rfl hl.1 (Nat.le_of_ble_eq_true rfl) rfl rfl ⟨Nat.le_of_ble_eq_true rfl, Nat.le_of_ble_eq_true rfl⟩ ⟨Nat.le_refl _, Nat.le_refl _⟩ d_Mo_putMatrix_67) I (fun H locs I => ?_)
    exact w_Mo_putMatrix_70 X G I hf (lv_sub hl [0] rfl)

set_option maxHeartbeats 4000000 in
set_option maxRecDepth 100000 in
theorem w_Mo_putMatrix_51 {h0 : Nat} {r : mM} (X : mX p m meth c s args b_Mo_putMatrix 5 none "ColourLinkerModel") (G : mG D cA dA z0 s) {k : mM → Int32 → Int32 → Int32 → Int32 → Option (mM)} {kx58 : mM → Int32 → Int32 → Int32 → Option (mM)} (hk : ∀ (H : Heap) (locs : List Loc) (μ : mM) (ls : Array Slot) (x1 : Int32) (x2 : Int32) (x3 : Int32) (x4 : Int32), mI D cA z0 s μ H locs s.heap.size → k μ x1 x2 x3 x4 = some r → lv_has ls 5 [(0, va_rf (some h0)), (1, .int x1), (2, .int x2), (3, .int x3), (4, .int x4)] → W p l e rm_Mo_putMatrix s m args below meth c H locs 0 0 (MQ below (mQW D cA z0 none r) args s 0 0 (mA z0)) (F0 m 10 ls [])) (hkx58 : ∀ (H : Heap) (locs : List Loc) (μ : mM) (ls : Array Slot) (x1 : Int32) (x2 : Int32) (x3 : Int32), mI D cA z0 s μ H locs s.heap.size → kx58 μ x1 x2 x3 = some r → lv_has ls 5 [(0, va_rf (some h0)), (1, .int x1), (2, .int x2), (3, .int x3)] → W p l e rm_Mo_putMatrix s m args below meth c H locs 0 0 (MQ below (mQW D cA z0 none r) args s 0 0 (mA z0)) (F0 m 58 ls [])) {H : Heap} {locs : List Loc} {μ : mM} {ls : Array Slot} {x1 : Int32} {x2 : Int32} {x4 : Int32} {s0 : Int32} (I : mI D cA z0 s μ H locs s.heap.size) (hf : f_Mo_putMatrix_51 h0 k kx58 μ x1 x2 x4 s0 = some r) (hl : lv_has ls 5 [(0, va_rf (some h0)), (1, .int x1), (2, .int x2), (4, .int x4)]) : W p l e rm_Mo_putMatrix s m args below meth c H locs 0 0 (MQ below (mQW D cA z0 none r) args s 0 0 (mA z0)) (F0 m 51 ls [.int s0]) := by
  have hx := X.ex
  have hb := X.by_
  unfold f_Mo_putMatrix_51 at hf
  refine lv_istore_n (i := 3) (lv' := [(3, .int s0), (0, va_rf (some h0)), (1, .int x1), (2, .int x2), (4, .int x4)]) hx hb d_Mo_putMatrix_51 rfl hl (by decide) rfl (fun ls hl => ?_)
  refine lv_iinc (i := 4) (k := 4) (v := (x4 + (1 : Int32))) (lv' := [(4, .int (x4 + (1 : Int32))), (3, .int s0), (0, va_rf (some h0)), (1, .int x1), (2, .int x2)]) hx hb d_Mo_putMatrix_52 hl rfl (congrArg (fun t => x4 + t) (by decide : Int32.ofInt (1) = (1 : Int32))) (by decide) rfl (fun ls hl => ?_)
  refine lv_goto (tgt := 10) hx hb d_Mo_putMatrix_55 (by decide) ?_
  exact hk _ _ _ _ _ _ _ _ I hf (lv_sub hl [2, 3, 4, 1, 0] rfl)

set_option maxHeartbeats 4000000 in
set_option maxRecDepth 100000 in
theorem w_Mo_putMatrix_50 {h0 : Nat} {r : mM} (X : mX p m meth c s args b_Mo_putMatrix 5 none "ColourLinkerModel") (G : mG D cA dA z0 s) {k : mM → Int32 → Int32 → Int32 → Int32 → Option (mM)} {kx58 : mM → Int32 → Int32 → Int32 → Option (mM)} (hk : ∀ (H : Heap) (locs : List Loc) (μ : mM) (ls : Array Slot) (x1 : Int32) (x2 : Int32) (x3 : Int32) (x4 : Int32), mI D cA z0 s μ H locs s.heap.size → k μ x1 x2 x3 x4 = some r → lv_has ls 5 [(0, va_rf (some h0)), (1, .int x1), (2, .int x2), (3, .int x3), (4, .int x4)] → W p l e rm_Mo_putMatrix s m args below meth c H locs 0 0 (MQ below (mQW D cA z0 none r) args s 0 0 (mA z0)) (F0 m 10 ls [])) (hkx58 : ∀ (H : Heap) (locs : List Loc) (μ : mM) (ls : Array Slot) (x1 : Int32) (x2 : Int32) (x3 : Int32), mI D cA z0 s μ H locs s.heap.size → kx58 μ x1 x2 x3 = some r → lv_has ls 5 [(0, va_rf (some h0)), (1, .int x1), (2, .int x2), (3, .int x3)] → W p l e rm_Mo_putMatrix s m args below meth c H locs 0 0 (MQ below (mQW D cA z0 none r) args s 0 0 (mA z0)) (F0 m 58 ls [])) {H : Heap} {locs : List Loc} {μ : mM} {ls : Array Slot} {x1 : Int32} {x2 : Int32} {x4 : Int32} (I : mI D cA z0 s μ H locs s.heap.size) (hf : f_Mo_putMatrix_50 h0 k kx58 μ x1 x2 x4 = some r) (hl : lv_has ls 5 [(0, va_rf (some h0)), (1, .int x1), (2, .int x2), (4, .int x4)]) : W p l e rm_Mo_putMatrix s m args below meth c H locs 0 0 (MQ below (mQW D cA z0 none r) args s 0 0 (mA z0)) (F0 m 50 ls []) := by
  have hx := X.ex
  have hb := X.by_
  unfold f_Mo_putMatrix_50 at hf
  refine lv_iconst (v := 0) hx hb d_Mo_putMatrix_50 (by decide) ?_
  exact w_Mo_putMatrix_51 X G hk hkx58 I hf hl

set_option maxHeartbeats 4000000 in
set_option maxRecDepth 100000 in
theorem w_Mo_putMatrix_42 {h0 : Nat} {r : mM} (X : mX p m meth c s args b_Mo_putMatrix 5 none "ColourLinkerModel") (G : mG D cA dA z0 s) {k : mM → Int32 → Int32 → Int32 → Int32 → Option (mM)} {kx58 : mM → Int32 → Int32 → Int32 → Option (mM)} (hk : ∀ (H : Heap) (locs : List Loc) (μ : mM) (ls : Array Slot) (x1 : Int32) (x2 : Int32) (x3 : Int32) (x4 : Int32), mI D cA z0 s μ H locs s.heap.size → k μ x1 x2 x3 x4 = some r → lv_has ls 5 [(0, va_rf (some h0)), (1, .int x1), (2, .int x2), (3, .int x3), (4, .int x4)] → W p l e rm_Mo_putMatrix s m args below meth c H locs 0 0 (MQ below (mQW D cA z0 none r) args s 0 0 (mA z0)) (F0 m 10 ls [])) (hkx58 : ∀ (H : Heap) (locs : List Loc) (μ : mM) (ls : Array Slot) (x1 : Int32) (x2 : Int32) (x3 : Int32), mI D cA z0 s μ H locs s.heap.size → kx58 μ x1 x2 x3 = some r → lv_has ls 5 [(0, va_rf (some h0)), (1, .int x1), (2, .int x2), (3, .int x3)] → W p l e rm_Mo_putMatrix s m args below meth c H locs 0 0 (MQ below (mQW D cA z0 none r) args s 0 0 (mA z0)) (F0 m 58 ls [])) {H : Heap} {locs : List Loc} {μ : mM} {ls : Array Slot} {x1 : Int32} {x2 : Int32} {x4 : Int32} {s0 : Int64} {s1 : Int64} (I : mI D cA z0 s μ H locs s.heap.size) (hf : f_Mo_putMatrix_42 h0 k kx58 μ x1 x2 x4 s0 s1 = some r) (hl : lv_has ls 5 [(0, va_rf (some h0)), (1, .int x1), (2, .int x2), (4, .int x4)]) : W p l e rm_Mo_putMatrix s m args below meth c H locs 0 0 (MQ below (mQW D cA z0 none r) args s 0 0 (mA z0)) (F0 m 42 ls [.long s1, .long s0]) := by
  have hx := X.ex
  have hb := X.by_
  unfold f_Mo_putMatrix_42 at hf
  refine r_lcne (tgt := 50) X d_Mo_putMatrix_42 d_Mo_putMatrix_43 (by decide) (fun hc => ?_) (fun hc => ?_)
  · have hf := miff hf hc
    exact w_Mo_putMatrix_50 X G hk hkx58 I hf hl
  · have hf := mift hf hc
    refine lv_iconst (v := 1) hx hb d_Mo_putMatrix_46 (by decide) ?_
    refine lv_goto (tgt := 51) hx hb d_Mo_putMatrix_47 (by decide) ?_
    exact w_Mo_putMatrix_51 X G hk hkx58 I hf hl

set_option maxHeartbeats 4000000 in
set_option maxRecDepth 100000 in
theorem w_Mo_putMatrix_10 {h0 : Nat} {r : mM} (X : mX p m meth c s args b_Mo_putMatrix 5 none "ColourLinkerModel") (G : mG D cA dA z0 s) {kx58 : mM → Int32 → Int32 → Int32 → Option (mM)} (hkx58 : ∀ (H : Heap) (locs : List Loc) (μ : mM) (ls : Array Slot) (x1 : Int32) (x2 : Int32) (x3 : Int32), mI D cA z0 s μ H locs s.heap.size → kx58 μ x1 x2 x3 = some r → lv_has ls 5 [(0, va_rf (some h0)), (1, .int x1), (2, .int x2), (3, .int x3)] → W p l e rm_Mo_putMatrix s m args below meth c H locs 0 0 (MQ below (mQW D cA z0 none r) args s 0 0 (mA z0)) (F0 m 58 ls [])) : ∀ (n : Nat) (H : Heap) (locs : List Loc) (μ : mM) (ls : Array Slot) (x1 : Int32) (x2 : Int32) (x3 : Int32) (x4 : Int32), mI D cA z0 s μ H locs s.heap.size → f_Mo_putMatrix_10 h0 kx58 n μ x1 x2 x3 x4 = some r → lv_has ls 5 [(0, va_rf (some h0)), (1, .int x1), (2, .int x2), (3, .int x3), (4, .int x4)] → W p l e rm_Mo_putMatrix s m args below meth c H locs 0 0 (MQ below (mQW D cA z0 none r) args s 0 0 (mA z0)) (F0 m 10 ls []) := by
  have hx := X.ex
  have hb := X.by_
  intro n
  induction n with
  | zero => intro H locs μ ls x1 x2 x3 x4 I hf hl; rw [f_Mo_putMatrix_10] at hf; cases hf
  | succ n ih =>
    intro H locs μ ls x1 x2 x3 x4 I hf hl
    rw [f_Mo_putMatrix_10] at hf
    refine lv_iload hx hb d_Mo_putMatrix_10 (lv_at hl 4 rfl) ?_
    refine lv_bipush (v := 9) hx hb d_Mo_putMatrix_12 (by decide) ?_
    refine lv_icmp_ge (tgt := 58) hx hb d_Mo_putMatrix_14 (by decide) (fun hc => ?_) (fun hc => ?_)
    · have hf := mift hf hc
      exact hkx58 _ _ _ _ _ _ _ I hf (lv_sub hl [0, 1, 2, 3] rfl)
    · have hf := miff hf hc
      refine lv_iload_n hx hb d_Mo_putMatrix_17 rfl (lv_at hl 3 rfl) ?_
      refine lv_if_eq (tgt := 50) hx hb d_Mo_putMatrix_18 (by decide) (fun hc => ?_) (fun hc => ?_)
      · have hf := mift hf hc
        exact w_Mo_putMatrix_50 X G ih hkx58 I hf (lv_sub hl [0, 1, 2, 4] rfl)
      · have hf := miff hf hc
        refine r_aload_n X d_Mo_putMatrix_21 rfl (lv_at hl 0 rfl) ?_
        obtain ⟨v2, hv, hf⟩ := mbind hf
        refine r_getf X G I (mfA_e hv) o_Mo_m k_854 (Or.inl rfl) d_Mo_putMatrix_22 ?_
        refine lv_iload hx hb d_Mo_putMatrix_25 (lv_at hl 4 rfl) ?_
        obtain ⟨v3, hv, hf⟩ := mbind hf
        refine r_lald X G I hv d_Mo_putMatrix_27 ?_
        refine lv_iload hx hb d_Mo_putMatrix_28 (lv_at hl 4 rfl) ?_
        refine lv_iconst (v := 4) hx hb d_Mo_putMatrix_30 (by decide) ?_
        refine lv_irem hx hb d_Mo_putMatrix_31 (by decide) ?_
        refine lv_if_ne (tgt := 41) hx hb d_Mo_putMatrix_32 (by decide) (fun hc => ?_) (fun hc => ?_)
        · have hf := miff hf hc
          refine lv_lconst (v := 0) hx hb d_Mo_putMatrix_41 (by decide) ?_
          exact w_Mo_putMatrix_42 X G ih hkx58 I hf (lv_sub hl [0, 1, 2, 4] rfl)
        · have hf := mift hf hc
          refine lv_ldc2 (v := 4096) hx hb X.ow (X.w k_1084) d_Mo_putMatrix_35 ?_
          refine lv_goto (tgt := 42) hx hb d_Mo_putMatrix_38 (by decide) ?_
          exact w_Mo_putMatrix_42 X G ih hkx58 I hf (lv_sub hl [0, 1, 2, 4] rfl)

set_option maxHeartbeats 4000000 in
set_option maxRecDepth 100000 in
theorem w_Mo_putMatrix {h0 : Nat} {r : mM} (X : mX p m meth c s args b_Mo_putMatrix 5 none "ColourLinkerModel") (G : mG D cA dA z0 s) {H : Heap} {locs : List Loc} {μ : mM} {ls : Array Slot} {x1 : Int32} {x2 : Int32} (I : mI D cA z0 s μ H locs s.heap.size) (hf : f_Mo_putMatrix h0 μ x1 x2 = some r) (hl : lv_has ls 5 [(0, va_rf (some h0)), (1, .int x1), (2, .int x2)]) : W p l e rm_Mo_putMatrix s m args below meth c H locs 0 0 (MQ below (mQW D cA z0 none r) args s 0 0 (mA z0)) (F0 m 0 ls []) := by
  have hx := X.ex
  have hb := X.by_
  unfold f_Mo_putMatrix at hf
  refine r_aload_n X d_Mo_putMatrix_0 rfl (lv_at hl 0 rfl) ?_
  refine lv_iload_n hx hb d_Mo_putMatrix_1 rfl (lv_at hl 2 rfl) ?_
  obtain ⟨q1, hv, hf⟩ := mbind hf
  obtain ⟨a, ha, hv⟩ := mbind hv
  obtain ⟨ha, fs, hm⟩ := mrc_e ha
  refine m_caWv (m_runV (As := [.int x2]) (r := some h0) (rest := []) X G I h_Mo_takeMatrix k_1037 (c_Mo_takeMatrix hv) mPr_blind (m_pre G I) hm rfl ha rfl rfl hl.1 (Nat.le_of_ble_eq_true rfl) rfl rfl ⟨Nat.le_of_ble_eq_true rfl, Nat.le_of_ble_eq_true rfl⟩ ⟨Nat.le_refl _, Nat.le_refl _⟩ d_Mo_putMatrix_2) I (fun H locs I => ?_)
  refine lv_iconst (v := 1) hx hb d_Mo_putMatrix_5 (by decide) ?_
  refine lv_istore_n (i := 3) (lv' := [(3, .int (1 : Int32)), (0, va_rf (some h0)), (1, .int x1), (2, .int x2)]) hx hb d_Mo_putMatrix_6 rfl hl (by decide) rfl (fun ls hl => ?_)
  refine lv_iconst (v := 0) hx hb d_Mo_putMatrix_7 (by decide) ?_
  refine lv_istore (i := 4) (lv' := [(4, .int (0 : Int32)), (3, .int (1 : Int32)), (0, va_rf (some h0)), (1, .int x1), (2, .int x2)]) hx hb d_Mo_putMatrix_8 hl (by decide) rfl (fun ls hl => ?_)
  exact w_Mo_putMatrix_10 X G (fun H locs μ ls x1 x2 x3 I hf hl => w_Mo_putMatrix_58 X G I hf hl) 4096 _ _ _ _ _ _ _ _ I hf (lv_sub hl [2, 3, 4, 1, 0] rfl)

set_option maxHeartbeats 4000000 in
set_option maxRecDepth 100000 in
theorem c_Mo_putMatrix {l : Launch} {D : va_G} {cA : Nat → ClassId} {dA z0 : Nat} {μ : mM} {h0 : Nat} {x1 : Int32} {x2 : Int32} {r : mM} (hf : f_Mo_putMatrix h0 μ x1 x2 = some r) : Met l y_Mo_putMatrix (mW y_Mo_putMatrix b_Mo_putMatrix 5 none) rm_Mo_putMatrix (va_Pc [.ref h0, .int x1, .int x2] (mPr D cA dA z0 μ)) (mQW D cA z0 none r) 0 0 (mA z0) := by
  refine Met.ofW (cc := b_Mo_putMatrix) (maxL := 5) (ret := none) (by decide) rfl ?_
  intro p e s m args below meth c s₁ B hml hv
  obtain ⟨rfl, G, hP⟩ := hv
  have X := mX.of B hml
  exact m_entry (lv := [(0, va_rf (some h0)), (1, .int x1), (2, .int x2)]) (Nat.le_of_ble_eq_true rfl) rfl (fun ls hl => w_Mo_putMatrix X G (mI.start hP) hf hl)

abbrev rm_Mo_forth : Room := { frames := 5, cells := 0, slots := 0, locals := 117 }
theorem h_Mo_forth : mCV y_Mo_forth b_Mo_forth 4 none 2 := ⟨k_1067, k_79, ⟨by decide, by decide, by decide +kernel⟩, k_1066, k_51⟩
set_option maxHeartbeats 4000000 in
set_option maxRecDepth 100000 in
theorem w_Mo_forth_61 {h0 : Nat} {r : mM} (X : mX p m meth c s args b_Mo_forth 4 none "ColourLinkerModel") (G : mG D cA dA z0 s) {H : Heap} {locs : List Loc} {μ : mM} {ls : Array Slot}  (I : mI D cA z0 s μ H locs s.heap.size) (hf : f_Mo_forth_61 h0 μ = some r) (hl : lv_has ls 4 [(0, va_rf (some h0))]) : W p l e rm_Mo_forth s m args below meth c H locs 0 0 (MQ below (mQW D cA z0 none r) args s 0 0 (mA z0)) (F0 m 61 ls []) := by
  have hx := X.ex
  have hb := X.by_
  unfold f_Mo_forth_61 at hf
  obtain rfl := Option.some.inj hf
  exact r_vretW X I d_Mo_forth_61

set_option maxHeartbeats 4000000 in
set_option maxRecDepth 100000 in
theorem w_Mo_forth {h0 : Nat} {r : mM} (X : mX p m meth c s args b_Mo_forth 4 none "ColourLinkerModel") (G : mG D cA dA z0 s) {H : Heap} {locs : List Loc} {μ : mM} {ls : Array Slot} {x1 : Int32} {x2 : Int32} (I : mI D cA z0 s μ H locs s.heap.size) (hf : f_Mo_forth h0 μ x1 x2 = some r) (hl : lv_has ls 4 [(0, va_rf (some h0)), (1, .int x1), (2, .int x2)]) : W p l e rm_Mo_forth s m args below meth c H locs 0 0 (MQ below (mQW D cA z0 none r) args s 0 0 (mA z0)) (F0 m 0 ls []) := by
  have hx := X.ex
  have hb := X.by_
  unfold f_Mo_forth at hf
  refine r_aload_n X d_Mo_forth_0 rfl (lv_at hl 0 rfl) ?_
  refine lv_iload_n hx hb d_Mo_forth_1 rfl (lv_at hl 1 rfl) ?_
  refine lv_bipush (v := 6) hx hb d_Mo_forth_2 (by decide) ?_
  refine lv_iload_n hx hb d_Mo_forth_4 rfl (lv_at hl 2 rfl) ?_
  obtain ⟨q1, hv, hf⟩ := mbind hf
  obtain ⟨a, ha, hv⟩ := mbind hv
  obtain ⟨ha, fs, hm⟩ := mrc_e ha
  refine m_caR (m_runV (As := [.int x1, .int (6 : Int32), .int x2]) (r := some h0) (rest := []) X G I h_Mo_grid k_1025 (c_Mo_grid hv) mPr_blind (m_pre G I) hm rfl ha rfl rfl hl.1 (Nat.le_of_ble_eq_true rfl) rfl rfl ⟨Nat.le_of_ble_eq_true rfl, Nat.le_of_ble_eq_true rfl⟩ ⟨Nat.le_refl _, Nat.le_refl _⟩ d_Mo_forth_5) ?_
  refine lv_istore_n (i := 3) (lv' := [(3, .int q1), (0, va_rf (some h0)), (1, .int x1), (2, .int x2)]) hx hb d_Mo_forth_8 rfl hl (by decide) rfl (fun ls hl => ?_)
  refine r_aload_n X d_Mo_forth_9 rfl (lv_at hl 1 rfl) ?_
  refine lv_iload_n hx hb d_Mo_forth_10 rfl (lv_at hl 2 rfl) ?_
  obtain ⟨q2, hv, hf⟩ := mbind hf
  obtain ⟨a, ha, hv⟩ := mbind hv
  obtain ⟨ha, fs, hm⟩ := mrc_e ha
  refine m_caR (m_runV (As := [.int x1]) (r := some h0) (rest := []) X G I h_Mo_single k_1021 (c_Mo_single hv) mPr_blind (m_pre G I) hm rfl ha rfl rfl hl.1 (Nat.le_of_ble_eq_true rfl) rfl rfl ⟨Nat.le_of_ble_eq_true rfl, Nat.le_of_ble_eq_true rfl⟩ ⟨Nat.le_refl _, Nat.le_refl _⟩ d_Mo_forth_11) ?_
  refine lv_if_eq (tgt := 34) hx hb d_Mo_forth_14 (by decide) (fun hc => ?_) (fun hc => ?_)
  · have hf := mift hf hc
    refine lv_iload_n hx hb d_Mo_forth_34 rfl (lv_at hl 0 rfl) ?_
    refine lv_if_le (tgt := 49) hx hb d_Mo_forth_35 (by decide) (fun hc => ?_) (fun hc => ?_)
    · have hf := mift hf hc
      refine r_aload_n X d_Mo_forth_49 rfl (lv_at hl 1 rfl) ?_
      refine lv_iconst (v := 1) hx hb d_Mo_forth_50 (by decide) ?_
      refine lv_iload_n hx hb d_Mo_forth_51 rfl (lv_at hl 2 rfl) ?_
      obtain ⟨q3, hv, hf⟩ := mbind hf
      obtain ⟨a, ha, hv⟩ := mbind hv
      obtain ⟨ha, fs, hm⟩ := mrc_e ha
      refine m_caWv (m_runV (As := [.int (1 : Int32), .int x1]) (r := some h0) (rest := []) X G I h_Mo_putCurves k_1068 (c_Mo_putCurves hv) mPr_blind (m_pre G I) hm rfl ha rfl rfl hl.1 (Nat.le_of_ble_eq_true rfl) rfl rfl ⟨Nat.le_of_ble_eq_true rfl, Nat.le_of_ble_eq_true rfl⟩ ⟨Nat.le_refl _, Nat.le_refl _⟩ d_Mo_forth_52) I (fun H locs I => ?_)
      refine r_aload_n X d_Mo_forth_55 rfl (lv_at hl 1 rfl) ?_
      refine lv_iconst (v := 2) hx hb d_Mo_forth_56 (by decide) ?_
      refine lv_iload_n hx hb d_Mo_forth_57 rfl (lv_at hl 2 rfl) ?_
      obtain ⟨q4, hv, hf⟩ := mbind hf
      obtain ⟨a, ha, hv⟩ := mbind hv
      obtain ⟨ha, fs, hm⟩ := mrc_e ha
      refine m_caWv (m_runV (As := [.int (2 : Int32), .int x1]) (r := some h0) (rest := []) X G I h_Mo_putMatrix k_1080 (c_Mo_putMatrix hv) mPr_blind (m_pre G I) hm rfl ha rfl rfl hl.1 (Nat.le_of_ble_eq_true rfl) rfl rfl ⟨Nat.le_of_ble_eq_true rfl, Nat.le_of_ble_eq_true rfl⟩ ⟨Nat.le_refl _, Nat.le_refl _⟩ d_Mo_forth_58) I (fun H locs I => ?_)
      exact w_Mo_forth_61 X G I hf (lv_sub hl [1] rfl)
    · have hf := miff hf hc
      refine r_aload_n X d_Mo_forth_38 rfl (lv_at hl 1 rfl) ?_
      refine lv_iconst (v := 3) hx hb d_Mo_forth_39 (by decide) ?_
      refine lv_iload_n hx hb d_Mo_forth_40 rfl (lv_at hl 2 rfl) ?_
      refine lv_iload_n hx hb d_Mo_forth_41 rfl (lv_at hl 0 rfl) ?_
      refine lv_iconst (v := 0) hx hb d_Mo_forth_42 (by decide) ?_
      obtain ⟨q5, hv, hf⟩ := mbind hf
      obtain ⟨a, ha, hv⟩ := mbind hv
      obtain ⟨ha, fs, hm⟩ := mrc_e ha
      refine m_caWv (m_runV (As := [.int (3 : Int32), .int x1, .int q1, .int (0 : Int32)]) (r := some h0) (rest := []) X G I h_Mo_put k_1076 (c_Mo_put hv) mPr_blind (m_pre G I) hm rfl ha rfl rfl hl.1 (Nat.le_of_ble_eq_true rfl) rfl rfl ⟨Nat.le_of_ble_eq_true rfl, Nat.le_of_ble_eq_true rfl⟩ ⟨Nat.le_refl _, Nat.le_refl _⟩ d_Mo_forth_43) I (fun H locs I => ?_)
      refine lv_goto (tgt := 61) hx hb d_Mo_forth_46 (by decide) ?_
      exact w_Mo_forth_61 X G I hf (lv_sub hl [1] rfl)
  · have hf := miff hf hc
    refine r_aload_n X d_Mo_forth_17 rfl (lv_at hl 1 rfl) ?_
    refine lv_iconst (v := 1) hx hb d_Mo_forth_18 (by decide) ?_
    refine lv_iload_n hx hb d_Mo_forth_19 rfl (lv_at hl 2 rfl) ?_
    obtain ⟨q6, hv, hf⟩ := mbind hf
    obtain ⟨a, ha, hv⟩ := mbind hv
    obtain ⟨ha, fs, hm⟩ := mrc_e ha
    refine m_caWv (m_runV (As := [.int (1 : Int32), .int x1]) (r := some h0) (rest := []) X G I h_Mo_putCurves k_1068 (c_Mo_putCurves hv) mPr_blind (m_pre G I) hm rfl ha rfl rfl hl.1 (Nat.le_of_ble_eq_true rfl) rfl rfl ⟨Nat.le_of_ble_eq_true rfl, Nat.le_of_ble_eq_true rfl⟩ ⟨Nat.le_refl _, Nat.le_refl _⟩ d_Mo_forth_20) I (fun H locs I => ?_)
    refine r_aload_n X d_Mo_forth_23 rfl (lv_at hl 1 rfl) ?_
    refine lv_iconst (v := 4) hx hb d_Mo_forth_24 (by decide) ?_
    refine lv_iload_n hx hb d_Mo_forth_25 rfl (lv_at hl 2 rfl) ?_
    refine lv_iconst (v := 0) hx hb d_Mo_forth_26 (by decide) ?_
    refine lv_iconst (v := 0) hx hb d_Mo_forth_27 (by decide) ?_
    obtain ⟨q7, hv, hf⟩ := mbind hf
    obtain ⟨a, ha, hv⟩ := mbind hv
    obtain ⟨ha, fs, hm⟩ := mrc_e ha
    refine m_caWv (m_runV (As := [.int (4 : Int32), .int x1, .int (0 : Int32), .int (0 : Int32)]) (r := some h0) (rest := []) X G I h_Mo_put k_1076 (c_Mo_put hv) mPr_blind (m_pre G I) hm rfl ha rfl rfl hl.1 (Nat.le_of_ble_eq_true rfl) rfl rfl ⟨Nat.le_of_ble_eq_true rfl, Nat.le_of_ble_eq_true rfl⟩ ⟨Nat.le_refl _, Nat.le_refl _⟩ d_Mo_forth_28) I (fun H locs I => ?_)
    refine lv_goto (tgt := 61) hx hb d_Mo_forth_31 (by decide) ?_
    exact w_Mo_forth_61 X G I hf (lv_sub hl [1] rfl)

set_option maxHeartbeats 4000000 in
set_option maxRecDepth 100000 in
theorem c_Mo_forth {l : Launch} {D : va_G} {cA : Nat → ClassId} {dA z0 : Nat} {μ : mM} {h0 : Nat} {x1 : Int32} {x2 : Int32} {r : mM} (hf : f_Mo_forth h0 μ x1 x2 = some r) : Met l y_Mo_forth (mW y_Mo_forth b_Mo_forth 4 none) rm_Mo_forth (va_Pc [.ref h0, .int x1, .int x2] (mPr D cA dA z0 μ)) (mQW D cA z0 none r) 0 0 (mA z0) := by
  refine Met.ofW (cc := b_Mo_forth) (maxL := 4) (ret := none) (by decide) rfl ?_
  intro p e s m args below meth c s₁ B hml hv
  obtain ⟨rfl, G, hP⟩ := hv
  have X := mX.of B hml
  exact m_entry (lv := [(0, va_rf (some h0)), (1, .int x1), (2, .int x2)]) (Nat.le_of_ble_eq_true rfl) rfl (fun ls hl => w_Mo_forth X G (mI.start hP) hf hl)

end WK
