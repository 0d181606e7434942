section WK
variable {p : Program} {l : Launch} {e : Env} {s : State} {m : MethodId} {args : Array Value} {below : List Frame} {meth : Method} {c : Code} {D : va_G} {cA : Nat → ClassId} {dA z0 : Nat}
abbrev rm_Mo_toLab : Room := { frames := 2, cells := 0, slots := 0, locals := 58 }
theorem h_Mo_toLab : mCV y_Mo_toLab b_Mo_toLab 7 none 0 := ⟨k_1114, k_79, ⟨by decide, by decide, by decide +kernel⟩, k_1113, k_62⟩
set_option maxHeartbeats 4000000 in
set_option maxRecDepth 100000 in
theorem w_Mo_toLab {h0 : Nat} {r : mM} (X : mX p m meth c s args b_Mo_toLab 7 none "ColourLinkerModel") (G : mG D cA dA z0 s) {H : Heap} {locs : List Loc} {μ : mM} {ls : Array Slot}  (I : mI D cA z0 s μ H locs s.heap.size) (hf : f_Mo_toLab h0 μ = some r) (hl : lv_has ls 7 [(0, va_rf (some h0))]) : W p l e rm_Mo_toLab s m args below meth c H locs 0 0 (MQ below (mQW D cA z0 none r) args s 0 0 (mA z0)) (F0 m 0 ls []) := by
  have hx := X.ex
  have hb := X.by_
  unfold f_Mo_toLab at hf
  refine r_aload_n X d_Mo_toLab_0 rfl (lv_at hl 0 rfl) ?_
  obtain ⟨v1, hv, hf⟩ := mbind hf
  refine r_getf X G I (mfA_e hv) o_Mo_old k_853 (Or.inl rfl) d_Mo_toLab_1 ?_
  refine lv_iconst (v := 0) hx hb d_Mo_toLab_4 (by decide) ?_
  obtain ⟨v2, hv, hf⟩ := mbind hf
  refine r_lald X G I hv d_Mo_toLab_5 ?_
  refine lv_ldc2 (v := 31595) hx hb X.ow (X.w k_1115) d_Mo_toLab_6 ?_
  obtain ⟨q3, hv, hf⟩ := mbind hf
  refine m_caR (m_runS (As := [.long v2, .long (31595 : Int64)]) (rest := []) X h_Mo_root k_1116 (c_Mo_root hv) mPr_blind (m_pre G I) rfl rfl hl.1 (Nat.le_of_ble_eq_true rfl) rfl rfl ⟨Nat.le_of_ble_eq_true rfl, Nat.le_of_ble_eq_true rfl⟩ ⟨Nat.le_refl _, Nat.le_refl _⟩ d_Mo_toLab_9) ?_
  refine lv_lstore_n (i := 1) (lv' := [(1, .long q3), (0, va_rf (some h0))]) hx hb d_Mo_toLab_12 rfl hl (by decide) (by simp [mrf_cat]) (fun ls hl => ?_)
  refine r_aload_n X d_Mo_toLab_13 rfl (lv_at hl 1 rfl) ?_
  obtain ⟨v4, hv, hf⟩ := mbind hf
  refine r_getf X G I (mfA_e hv) o_Mo_old k_853 (Or.inl rfl) d_Mo_toLab_14 ?_
  refine lv_iconst (v := 1) hx hb d_Mo_toLab_17 (by decide) ?_
  obtain ⟨v5, hv, hf⟩ := mbind hf
  refine r_lald X G I hv d_Mo_toLab_18 ?_
  refine lv_ldc2 (v := 32768) hx hb X.ow (X.w k_1008) d_Mo_toLab_19 ?_
  obtain ⟨q6, hv, hf⟩ := mbind hf
  refine m_caR (m_runS (As := [.long v5, .long (32768 : Int64)]) (rest := []) X h_Mo_root k_1116 (c_Mo_root hv) mPr_blind (m_pre G I) rfl rfl hl.1 (Nat.le_of_ble_eq_true rfl) rfl rfl ⟨Nat.le_of_ble_eq_true rfl, Nat.le_of_ble_eq_true rfl⟩ ⟨Nat.le_refl _, Nat.le_refl _⟩ d_Mo_toLab_22) ?_
  refine lv_lstore_n (i := 3) (lv' := [(3, .long q6), (1, .long q3), (0, va_rf (some h0))]) hx hb d_Mo_toLab_25 rfl hl (by decide) rfl (fun ls hl => ?_)
  refine r_aload_n X d_Mo_toLab_26 rfl (lv_at hl 2 rfl) ?_
  obtain ⟨v7, hv, hf⟩ := mbind hf
  refine r_getf X G I (mfA_e hv) o_Mo_old k_853 (Or.inl rfl) d_Mo_toLab_27 ?_
  refine lv_iconst (v := 2) hx hb d_Mo_toLab_30 (by decide) ?_
  obtain ⟨v8, hv, hf⟩ := mbind hf
  refine r_lald X G I hv d_Mo_toLab_31 ?_
  refine lv_ldc2 (v := 27030) hx hb X.ow (X.w k_1125) d_Mo_toLab_32 ?_
  obtain ⟨q9, hv, hf⟩ := mbind hf
  refine m_caR (m_runS (As := [.long v8, .long (27030 : Int64)]) (rest := []) X h_Mo_root k_1116 (c_Mo_root hv) mPr_blind (m_pre G I) rfl rfl hl.1 (Nat.le_of_ble_eq_true rfl) rfl rfl ⟨Nat.le_of_ble_eq_true rfl, Nat.le_of_ble_eq_true rfl⟩ ⟨Nat.le_refl _, Nat.le_refl _⟩ d_Mo_toLab_35) ?_
  refine lv_lstore (i := 5) (lv' := [(5, .long q9), (3, .long q6), (1, .long q3), (0, va_rf (some h0))]) hx hb d_Mo_toLab_38 hl (by decide) rfl (fun ls hl => ?_)
  refine r_aload_n X d_Mo_toLab_40 rfl (lv_at hl 3 rfl) ?_
  obtain ⟨v10, hv, hf⟩ := mbind hf
  refine r_getf X G I (mfA_e hv) o_Mo_v k_852 (Or.inl rfl) d_Mo_toLab_41 ?_
  refine lv_iconst (v := 0) hx hb d_Mo_toLab_44 (by decide) ?_
  refine lv_ldc2 (v := 116) hx hb X.ow (X.w k_1126) d_Mo_toLab_45 ?_
  refine lv_lload_n hx hb d_Mo_toLab_48 rfl (lv_at hl 1 rfl) ?_
  refine lv_lmul hx hb d_Mo_toLab_49 ?_
  refine lv_ldc2 (v := 262144) hx hb X.ow (X.w k_1127) d_Mo_toLab_50 ?_
  refine lv_lsub hx hb d_Mo_toLab_53 ?_
  refine lv_ldc2 (v := 65535) hx hb X.ow (X.w k_992) d_Mo_toLab_54 ?_
  refine lv_lmul hx hb d_Mo_toLab_57 ?_
  refine lv_ldc2 (v := 1638400) hx hb X.ow (X.w k_1128) d_Mo_toLab_58 ?_
  obtain ⟨q11, hv, hf⟩ := mbind hf
  refine m_caR (m_runS (As := [.long ((((116 : Int64) * q6) - (262144 : Int64)) * (65535 : Int64)), .long (1638400 : Int64)]) (rest := [.int (0 : Int32), va_rf v10]) X h_Mo_clipNear k_998 (c_Mo_clipNear hv) mPr_blind (m_pre G I) rfl rfl hl.1 (Nat.le_of_ble_eq_true rfl) rfl rfl ⟨Nat.le_of_ble_eq_true rfl, Nat.le_of_ble_eq_true rfl⟩ ⟨Nat.le_refl _, Nat.le_refl _⟩ d_Mo_toLab_61) ?_
  obtain ⟨m12, hv, hf⟩ := mbind hf
  refine r_last X G I hv d_Mo_toLab_64 (fun H locs I => ?_)
  refine r_aload_n X d_Mo_toLab_65 rfl (lv_at hl 3 rfl) ?_
  obtain ⟨v13, hv, hf⟩ := mbind hf
  refine r_getf X G I (mfA_e hv) o_Mo_v k_852 (Or.inl rfl) d_Mo_toLab_66 ?_
  refine lv_iconst (v := 1) hx hb d_Mo_toLab_69 (by decide) ?_
  refine lv_ldc2 (v := 32896) hx hb X.ow (X.w k_1110) d_Mo_toLab_70 ?_
  refine lv_ldc2 (v := 128500) hx hb X.ow (X.w k_1129) d_Mo_toLab_73 ?_
  refine lv_lload_n hx hb d_Mo_toLab_76 rfl (lv_at hl 2 rfl) ?_
  refine lv_lload_n hx hb d_Mo_toLab_77 rfl (lv_at hl 1 rfl) ?_
  refine lv_lsub hx hb d_Mo_toLab_78 ?_
  refine lv_lmul hx hb d_Mo_toLab_79 ?_
  refine lv_ldc2 (v := 16384) hx hb X.ow (X.w k_1123) d_Mo_toLab_80 ?_
  obtain ⟨q14, hv, hf⟩ := mbind hf
  refine m_caR (m_runS (As := [.long ((128500 : Int64) * (q3 - q6)), .long (16384 : Int64)]) (rest := [.long (32896 : Int64), .int (1 : Int32), va_rf v13]) X h_Mo_near k_993 (c_Mo_near hv) mPr_blind (m_pre G I) rfl rfl hl.1 (Nat.le_of_ble_eq_true rfl) rfl rfl ⟨Nat.le_of_ble_eq_true rfl, Nat.le_of_ble_eq_true rfl⟩ ⟨Nat.le_refl _, Nat.le_refl _⟩ d_Mo_toLab_83) ?_
  refine lv_ladd hx hb d_Mo_toLab_86 ?_
  obtain ⟨q15, hv, hf⟩ := mbind hf
  refine m_caR (m_runS (As := [.long ((32896 : Int64) + q14)]) (rest := [.int (1 : Int32), va_rf v13]) X h_Mo_clip k_1001 (c_Mo_clip hv) mPr_blind (m_pre G I) rfl rfl hl.1 (Nat.le_of_ble_eq_true rfl) rfl rfl ⟨Nat.le_of_ble_eq_true rfl, Nat.le_of_ble_eq_true rfl⟩ ⟨Nat.le_refl _, Nat.le_refl _⟩ d_Mo_toLab_87) ?_
  obtain ⟨m16, hv, hf⟩ := mbind hf
  refine r_last X G I hv d_Mo_toLab_90 (fun H locs I => ?_)
  refine r_aload_n X d_Mo_toLab_91 rfl (lv_at hl 3 rfl) ?_
  obtain ⟨v17, hv, hf⟩ := mbind hf
  refine r_getf X G I (mfA_e hv) o_Mo_v k_852 (Or.inl rfl) d_Mo_toLab_92 ?_
  refine lv_iconst (v := 2) hx hb d_Mo_toLab_95 (by decide) ?_
  refine lv_ldc2 (v := 32896) hx hb X.ow (X.w k_1110) d_Mo_toLab_96 ?_
  refine lv_ldc2 (v := 51400) hx hb X.ow (X.w k_1130) d_Mo_toLab_99 ?_
  refine lv_lload_n hx hb d_Mo_toLab_102 rfl (lv_at hl 1 rfl) ?_
  refine lv_lload hx hb d_Mo_toLab_103 (lv_at hl 0 rfl) ?_
  refine lv_lsub hx hb d_Mo_toLab_105 ?_
  refine lv_lmul hx hb d_Mo_toLab_106 ?_
  refine lv_ldc2 (v := 16384) hx hb X.ow (X.w k_1123) d_Mo_toLab_107 ?_
  obtain ⟨q18, hv, hf⟩ := mbind hf
  refine m_caR (m_runS (As := [.long ((51400 : Int64) * (q6 - q9)), .long (16384 : Int64)]) (rest := [.long (32896 : Int64), .int (2 : Int32), va_rf v17]) X h_Mo_near k_993 (c_Mo_near hv) mPr_blind (m_pre G I) rfl rfl hl.1 (Nat.le_of_ble_eq_true rfl) rfl rfl ⟨Nat.le_of_ble_eq_true rfl, Nat.le_of_ble_eq_true rfl⟩ ⟨Nat.le_refl _, Nat.le_refl _⟩ d_Mo_toLab_110) ?_
  refine lv_ladd hx hb d_Mo_toLab_113 ?_
  obtain ⟨q19, hv, hf⟩ := mbind hf
  refine m_caR (m_runS (As := [.long ((32896 : Int64) + q18)]) (rest := [.int (2 : Int32), va_rf v17]) X h_Mo_clip k_1001 (c_Mo_clip hv) mPr_blind (m_pre G I) rfl rfl hl.1 (Nat.le_of_ble_eq_true rfl) rfl rfl ⟨Nat.le_of_ble_eq_true rfl, Nat.le_of_ble_eq_true rfl⟩ ⟨Nat.le_refl _, Nat.le_refl _⟩ d_Mo_toLab_114) ?_
  obtain ⟨m20, hv, hf⟩ := mbind hf
  refine r_last X G I hv d_Mo_toLab_117 (fun H locs I => ?_)
  obtain rfl := Option.some.inj hf
  exact r_vretW X I d_Mo_toLab_118

set_option maxHeartbeats 4000000 in
set_option maxRecDepth 100000 in
theorem c_Mo_toLab {l : Launch} {D : va_G} {cA : Nat → ClassId} {dA z0 : Nat} {μ : mM} {h0 : Nat} {r : mM} (hf : f_Mo_toLab h0 μ = some r) : Met l y_Mo_toLab (mW y_Mo_toLab b_Mo_toLab 7 none) rm_Mo_toLab (va_Pc [.ref h0] (mPr D cA dA z0 μ)) (mQW D cA z0 none r) 0 0 (mA z0) := by
  refine Met.ofW (cc := b_Mo_toLab) (maxL := 7) (ret := none) (by decide) rfl ?_
  intro p e s m args below meth c s₁ B hml hv
  obtain ⟨rfl, G, hP⟩ := hv
  have X := mX.of B hml
  exact m_entry (lv := [(0, va_rf (some h0))]) (Nat.le_of_ble_eq_true rfl) rfl (fun ls hl => w_Mo_toLab X G (mI.start hP) hf hl)

abbrev rm_Mo_cube : Room := { frames := 1, cells := 0, slots := 0, locals := 27 }
theorem h_Mo_cube : mCS y_Mo_cube b_Mo_cube 2 (some .long) 1 := ⟨k_1140, k_79, ⟨by decide, by decide, by decide +kernel⟩, k_1139⟩
set_option maxHeartbeats 4000000 in
set_option maxRecDepth 100000 in
theorem w_Mo_cube_37 {μ : mM} {r : Int64} (X : mX p m meth c s args b_Mo_cube 2 (some .long) "ColourLinkerModel") (G : mG D cA dA z0 s) (I : mI D cA z0 s μ s.heap [] s.heap.size) {ls : Array Slot} {s0 : Int64} (hf : f_Mo_cube_37 μ s0 = some r) (hl : lv_has ls 2 []) : W p l e rm_Mo_cube s m args below meth c s.heap [] 0 0 (MQ below (mQR (some (.long r))) args s 0 0 (fun _ => False)) (F0 m 37 ls [.long s0]) := by
  have hx := X.ex
  have hb := X.by_
  unfold f_Mo_cube_37 at hf
  obtain rfl := Option.some.inj hf
  exact r_lretR X d_Mo_cube_37

set_option maxHeartbeats 4000000 in
set_option maxRecDepth 100000 in
theorem w_Mo_cube {μ : mM} {r : Int64} (X : mX p m meth c s args b_Mo_cube 2 (some .long) "ColourLinkerModel") (G : mG D cA dA z0 s) (I : mI D cA z0 s μ s.heap [] s.heap.size) {ls : Array Slot} {x0 : Int64} (hf : f_Mo_cube μ x0 = some r) (hl : lv_has ls 2 [(0, .long x0)]) : W p l e rm_Mo_cube s m args below meth c s.heap [] 0 0 (MQ below (mQR (some (.long r))) args s 0 0 (fun _ => False)) (F0 m 0 ls []) := by
  have hx := X.ex
  have hb := X.by_
  unfold f_Mo_cube at hf
  refine lv_lload_n hx hb d_Mo_cube_0 rfl (lv_at hl 0 rfl) ?_
  refine lv_ldc2 (v := 3389) hx hb X.ow (X.w k_1141) d_Mo_cube_1 ?_
  refine r_lcle (tgt := 22) X d_Mo_cube_4 d_Mo_cube_5 (by decide) (fun hc => ?_) (fun hc => ?_)
  · have hf := mift hf hc
    refine lv_lload_n hx hb d_Mo_cube_22 rfl (lv_at hl 0 rfl) ?_
    refine lv_ldc2 (v := 2260) hx hb X.ow (X.w k_1122) d_Mo_cube_23 ?_
    refine lv_lsub hx hb d_Mo_cube_26 ?_
    refine lv_ldc2 (v := 216) hx hb X.ow (X.w k_1121) d_Mo_cube_27 ?_
    refine lv_lmul hx hb d_Mo_cube_30 ?_
    refine lv_ldc2 (v := 841) hx hb X.ow (X.w k_1120) d_Mo_cube_31 ?_
    obtain ⟨q1, hv, hf⟩ := mbind hf
    refine m_caR (m_runS (As := [.long ((x0 - (2260 : Int64)) * (216 : Int64)), .long (841 : Int64)]) (rest := []) X h_Mo_near k_993 (c_Mo_near hv) mPr_blind (m_pre G I) rfl rfl hl.1 (Nat.le_of_ble_eq_true rfl) rfl rfl ⟨Nat.le_of_ble_eq_true rfl, Nat.le_of_ble_eq_true rfl⟩ ⟨Nat.le_refl _, Nat.le_refl _⟩ d_Mo_cube_34) ?_
    exact w_Mo_cube_37 X G I hf (lv_sub hl [] rfl)
  · have hf := miff hf hc
    refine lv_lload_n hx hb d_Mo_cube_8 rfl (lv_at hl 0 rfl) ?_
    refine lv_lload_n hx hb d_Mo_cube_9 rfl (lv_at hl 0 rfl) ?_
    refine lv_lmul hx hb d_Mo_cube_10 ?_
    refine lv_lload_n hx hb d_Mo_cube_11 rfl (lv_at hl 0 rfl) ?_
    refine lv_lmul hx hb d_Mo_cube_12 ?_
    refine lv_ldc2 (v := 134217728) hx hb X.ow (X.w k_1124) d_Mo_cube_13 ?_
    obtain ⟨q2, hv, hf⟩ := mbind hf
    refine m_caR (m_runS (As := [.long ((x0 * x0) * x0), .long (134217728 : Int64)]) (rest := []) X h_Mo_near k_993 (c_Mo_near hv) mPr_blind (m_pre G I) rfl rfl hl.1 (Nat.le_of_ble_eq_true rfl) rfl rfl ⟨Nat.le_of_ble_eq_true rfl, Nat.le_of_ble_eq_true rfl⟩ ⟨Nat.le_refl _, Nat.le_refl _⟩ d_Mo_cube_16) ?_
    refine lv_goto (tgt := 37) hx hb d_Mo_cube_19 (by decide) ?_
    exact w_Mo_cube_37 X G I hf (lv_sub hl [] rfl)

set_option maxHeartbeats 4000000 in
set_option maxRecDepth 100000 in
theorem c_Mo_cube {l : Launch} {D : va_G} {cA : Nat → ClassId} {dA z0 : Nat} {μ : mM} {x0 : Int64} {r : Int64} (hf : f_Mo_cube μ x0 = some r) : Met l y_Mo_cube (mW y_Mo_cube b_Mo_cube 2 (some .long)) rm_Mo_cube (va_Pc [.long x0] (mPr D cA dA z0 μ)) (mQR (some (.long r))) 0 0 (fun _ => False) := by
  refine Met.ofW (cc := b_Mo_cube) (maxL := 2) (ret := (some .long)) (by decide) rfl ?_
  intro p e s m args below meth c s₁ B hml hv
  obtain ⟨rfl, G, hP⟩ := hv
  have X := mX.of B hml
  exact m_entry (lv := [(0, .long x0)]) (Nat.le_of_ble_eq_true rfl) rfl (fun ls hl => w_Mo_cube X G (mI.start hP) hf hl)

abbrev rm_Mo_toXyz : Room := { frames := 2, cells := 0, slots := 0, locals := 52 }
theorem h_Mo_toXyz : mCV y_Mo_toXyz b_Mo_toXyz 11 none 0 := ⟨k_1134, k_79, ⟨by decide, by decide, by decide +kernel⟩, k_1133, k_63⟩
set_option maxHeartbeats 4000000 in
set_option maxRecDepth 100000 in
theorem w_Mo_toXyz {h0 : Nat} {r : mM} (X : mX p m meth c s args b_Mo_toXyz 11 none "ColourLinkerModel") (G : mG D cA dA z0 s) {H : Heap} {locs : List Loc} {μ : mM} {ls : Array Slot}  (I : mI D cA z0 s μ H locs s.heap.size) (hf : f_Mo_toXyz h0 μ = some r) (hl : lv_has ls 11 [(0, va_rf (some h0))]) : W p l e rm_Mo_toXyz s m args below meth c H locs 0 0 (MQ below (mQW D cA z0 none r) args s 0 0 (mA z0)) (F0 m 0 ls []) := by
  have hx := X.ex
  have hb := X.by_
  unfold f_Mo_toXyz at hf
  refine lv_ldc2 (v := 100) hx hb X.ow (X.w k_1135) d_Mo_toXyz_0 ?_
  refine r_aload_n X d_Mo_toXyz_3 rfl (lv_at hl 0 rfl) ?_
  obtain ⟨v1, hv, hf⟩ := mbind hf
  refine r_getf X G I (mfA_e hv) o_Mo_old k_853 (Or.inl rfl) d_Mo_toXyz_4 ?_
  refine lv_iconst (v := 0) hx hb d_Mo_toXyz_7 (by decide) ?_
  obtain ⟨v2, hv, hf⟩ := mbind hf
  refine r_lald X G I hv d_Mo_toXyz_8 ?_
  refine lv_lmul hx hb d_Mo_toXyz_9 ?_
  refine lv_ldc2 (v := 1048560) hx hb X.ow (X.w k_1136) d_Mo_toXyz_10 ?_
  refine lv_ladd hx hb d_Mo_toXyz_13 ?_
  refine lv_ldc2 (v := 16384) hx hb X.ow (X.w k_1123) d_Mo_toXyz_14 ?_
  refine lv_lmul hx hb d_Mo_toXyz_17 ?_
  refine lv_ldc2 (v := 7602060) hx hb X.ow (X.w k_1137) d_Mo_toXyz_18 ?_
  obtain ⟨q3, hv, hf⟩ := mbind hf
  refine m_caR (m_runS (As := [.long ((((100 : Int64) * v2) + (1048560 : Int64)) * (16384 : Int64)), .long (7602060 : Int64)]) (rest := []) X h_Mo_near k_993 (c_Mo_near hv) mPr_blind (m_pre G I) rfl rfl hl.1 (Nat.le_of_ble_eq_true rfl) rfl rfl ⟨Nat.le_of_ble_eq_true rfl, Nat.le_of_ble_eq_true rfl⟩ ⟨Nat.le_refl _, Nat.le_refl _⟩ d_Mo_toXyz_21) ?_
  refine lv_lstore_n (i := 1) (lv' := [(1, .long q3), (0, va_rf (some h0))]) hx hb d_Mo_toXyz_24 rfl hl (by decide) (by simp [mrf_cat]) (fun ls hl => ?_)
  refine lv_lload_n hx hb d_Mo_toXyz_25 rfl (lv_at hl 0 rfl) ?_
  refine r_aload_n X d_Mo_toXyz_26 rfl (lv_at hl 1 rfl) ?_
  obtain ⟨v4, hv, hf⟩ := mbind hf
  refine r_getf X G I (mfA_e hv) o_Mo_old k_853 (Or.inl rfl) d_Mo_toXyz_27 ?_
  refine lv_iconst (v := 1) hx hb d_Mo_toXyz_30 (by decide) ?_
  obtain ⟨v5, hv, hf⟩ := mbind hf
  refine r_lald X G I hv d_Mo_toXyz_31 ?_
  refine lv_ldc2 (v := 32896) hx hb X.ow (X.w k_1110) d_Mo_toXyz_32 ?_
  refine lv_lsub hx hb d_Mo_toXyz_35 ?_
  refine lv_ldc2 (v := 16384) hx hb X.ow (X.w k_1123) d_Mo_toXyz_36 ?_
  refine lv_lmul hx hb d_Mo_toXyz_39 ?_
  refine lv_ldc2 (v := 128500) hx hb X.ow (X.w k_1129) d_Mo_toXyz_40 ?_
  obtain ⟨q6, hv, hf⟩ := mbind hf
  refine m_caR (m_runS (As := [.long ((v5 - (32896 : Int64)) * (16384 : Int64)), .long (128500 : Int64)]) (rest := [.long q3]) X h_Mo_near k_993 (c_Mo_near hv) mPr_blind (m_pre G I) rfl rfl hl.1 (Nat.le_of_ble_eq_true rfl) rfl rfl ⟨Nat.le_of_ble_eq_true rfl, Nat.le_of_ble_eq_true rfl⟩ ⟨Nat.le_refl _, Nat.le_refl _⟩ d_Mo_toXyz_43) ?_
  refine lv_ladd hx hb d_Mo_toXyz_46 ?_
  refine lv_lstore_n (i := 3) (lv' := [(3, .long (q3 + q6)), (1, .long q3), (0, va_rf (some h0))]) hx hb d_Mo_toXyz_47 rfl hl (by decide) rfl (fun ls hl => ?_)
  refine lv_lload_n hx hb d_Mo_toXyz_48 rfl (lv_at hl 1 rfl) ?_
  refine r_aload_n X d_Mo_toXyz_49 rfl (lv_at hl 2 rfl) ?_
  obtain ⟨v7, hv, hf⟩ := mbind hf
  refine r_getf X G I (mfA_e hv) o_Mo_old k_853 (Or.inl rfl) d_Mo_toXyz_50 ?_
  refine lv_iconst (v := 2) hx hb d_Mo_toXyz_53 (by decide) ?_
  obtain ⟨v8, hv, hf⟩ := mbind hf
  refine r_lald X G I hv d_Mo_toXyz_54 ?_
  refine lv_ldc2 (v := 32896) hx hb X.ow (X.w k_1110) d_Mo_toXyz_55 ?_
  refine lv_lsub hx hb d_Mo_toXyz_58 ?_
  refine lv_ldc2 (v := 16384) hx hb X.ow (X.w k_1123) d_Mo_toXyz_59 ?_
  refine lv_lmul hx hb d_Mo_toXyz_62 ?_
  refine lv_ldc2 (v := 51400) hx hb X.ow (X.w k_1130) d_Mo_toXyz_63 ?_
  obtain ⟨q9, hv, hf⟩ := mbind hf
  refine m_caR (m_runS (As := [.long ((v8 - (32896 : Int64)) * (16384 : Int64)), .long (51400 : Int64)]) (rest := [.long q3]) X h_Mo_near k_993 (c_Mo_near hv) mPr_blind (m_pre G I) rfl rfl hl.1 (Nat.le_of_ble_eq_true rfl) rfl rfl ⟨Nat.le_of_ble_eq_true rfl, Nat.le_of_ble_eq_true rfl⟩ ⟨Nat.le_refl _, Nat.le_refl _⟩ d_Mo_toXyz_66) ?_
  refine lv_lsub hx hb d_Mo_toXyz_69 ?_
  refine lv_lstore (i := 5) (lv' := [(5, .long (q3 - q9)), (3, .long (q3 + q6)), (1, .long q3), (0, va_rf (some h0))]) hx hb d_Mo_toXyz_70 hl (by decide) rfl (fun ls hl => ?_)
  refine lv_lload_n hx hb d_Mo_toXyz_72 rfl (lv_at hl 1 rfl) ?_
  obtain ⟨q10, hv, hf⟩ := mbind hf
  refine m_caR (m_runS (As := [.long (q3 + q6)]) (rest := []) X h_Mo_cube k_1138 (c_Mo_cube hv) mPr_blind (m_pre G I) rfl rfl hl.1 (Nat.le_of_ble_eq_true rfl) rfl rfl ⟨Nat.le_of_ble_eq_true rfl, Nat.le_of_ble_eq_true rfl⟩ ⟨Nat.le_refl _, Nat.le_refl _⟩ d_Mo_toXyz_73) ?_
  refine lv_lstore (i := 7) (lv' := [(7, .long q10), (5, .long (q3 - q9)), (3, .long (q3 + q6)), (1, .long q3), (0, va_rf (some h0))]) hx hb d_Mo_toXyz_76 hl (by decide) rfl (fun ls hl => ?_)
  refine lv_lload hx hb d_Mo_toXyz_78 (lv_at hl 1 rfl) ?_
  obtain ⟨q11, hv, hf⟩ := mbind hf
  refine m_caR (m_runS (As := [.long (q3 - q9)]) (rest := []) X h_Mo_cube k_1138 (c_Mo_cube hv) mPr_blind (m_pre G I) rfl rfl hl.1 (Nat.le_of_ble_eq_true rfl) rfl rfl ⟨Nat.le_of_ble_eq_true rfl, Nat.le_of_ble_eq_true rfl⟩ ⟨Nat.le_refl _, Nat.le_refl _⟩ d_Mo_toXyz_80) ?_
  refine lv_lstore (i := 9) (lv' := [(9, .long q11), (7, .long q10), (5, .long (q3 - q9)), (3, .long (q3 + q6)), (1, .long q3), (0, va_rf (some h0))]) hx hb d_Mo_toXyz_83 hl (by decide) rfl (fun ls hl => ?_)
  refine r_aload_n X d_Mo_toXyz_85 rfl (lv_at hl 5 rfl) ?_
  obtain ⟨v12, hv, hf⟩ := mbind hf
  refine r_getf X G I (mfA_e hv) o_Mo_v k_852 (Or.inl rfl) d_Mo_toXyz_86 ?_
  refine lv_iconst (v := 0) hx hb d_Mo_toXyz_89 (by decide) ?_
  refine lv_ldc2 (v := 31595) hx hb X.ow (X.w k_1115) d_Mo_toXyz_90 ?_
  refine lv_lload hx hb d_Mo_toXyz_93 (lv_at hl 1 rfl) ?_
  refine lv_lmul hx hb d_Mo_toXyz_95 ?_
  refine lv_ldc2 (v := 32768) hx hb X.ow (X.w k_1008) d_Mo_toXyz_96 ?_
  obtain ⟨q13, hv, hf⟩ := mbind hf
  refine m_caR (m_runS (As := [.long ((31595 : Int64) * q10), .long (32768 : Int64)]) (rest := [.int (0 : Int32), va_rf v12]) X h_Mo_clipNear k_998 (c_Mo_clipNear hv) mPr_blind (m_pre G I) rfl rfl hl.1 (Nat.le_of_ble_eq_true rfl) rfl rfl ⟨Nat.le_of_ble_eq_true rfl, Nat.le_of_ble_eq_true rfl⟩ ⟨Nat.le_refl _, Nat.le_refl _⟩ d_Mo_toXyz_99) ?_
  obtain ⟨m14, hv, hf⟩ := mbind hf
  refine r_last X G I hv d_Mo_toXyz_102 (fun H locs I => ?_)
  refine r_aload_n X d_Mo_toXyz_103 rfl (lv_at hl 5 rfl) ?_
  obtain ⟨v15, hv, hf⟩ := mbind hf
  refine r_getf X G I (mfA_e hv) o_Mo_v k_852 (Or.inl rfl) d_Mo_toXyz_104 ?_
  refine lv_iconst (v := 1) hx hb d_Mo_toXyz_107 (by decide) ?_
  refine lv_lload_n hx hb d_Mo_toXyz_108 rfl (lv_at hl 4 rfl) ?_
  obtain ⟨q16, hv, hf⟩ := mbind hf
  refine m_caR (m_runS (As := [.long q3]) (rest := [.int (1 : Int32), va_rf v15]) X h_Mo_cube k_1138 (c_Mo_cube hv) mPr_blind (m_pre G I) rfl rfl hl.1 (Nat.le_of_ble_eq_true rfl) rfl rfl ⟨Nat.le_of_ble_eq_true rfl, Nat.le_of_ble_eq_true rfl⟩ ⟨Nat.le_refl _, Nat.le_refl _⟩ d_Mo_toXyz_109) ?_
  obtain ⟨q17, hv, hf⟩ := mbind hf
  refine m_caR (m_runS (As := [.long q16]) (rest := [.int (1 : Int32), va_rf v15]) X h_Mo_clip k_1001 (c_Mo_clip hv) mPr_blind (m_pre G I) rfl rfl hl.1 (Nat.le_of_ble_eq_true rfl) rfl rfl ⟨Nat.le_of_ble_eq_true rfl, Nat.le_of_ble_eq_true rfl⟩ ⟨Nat.le_refl _, Nat.le_refl _⟩ d_Mo_toXyz_112) ?_
  obtain ⟨m18, hv, hf⟩ := mbind hf
  refine r_last X G I hv d_Mo_toXyz_115 (fun H locs I => ?_)
  refine r_aload_n X d_Mo_toXyz_116 rfl (lv_at hl 5 rfl) ?_
  obtain ⟨v19, hv, hf⟩ := mbind hf
  refine r_getf X G I (mfA_e hv) o_Mo_v k_852 (Or.inl rfl) d_Mo_toXyz_117 ?_
  refine lv_iconst (v := 2) hx hb d_Mo_toXyz_120 (by decide) ?_
  refine lv_ldc2 (v := 27030) hx hb X.ow (X.w k_1125) d_Mo_toXyz_121 ?_
  refine lv_lload hx hb d_Mo_toXyz_124 (lv_at hl 0 rfl) ?_
  refine lv_lmul hx hb d_Mo_toXyz_126 ?_
  refine lv_ldc2 (v := 32768) hx hb X.ow (X.w k_1008) d_Mo_toXyz_127 ?_
  obtain ⟨q20, hv, hf⟩ := mbind hf
  refine m_caR (m_runS (As := [.long ((27030 : Int64) * q11), .long (32768 : Int64)]) (rest := [.int (2 : Int32), va_rf v19]) X h_Mo_clipNear k_998 (c_Mo_clipNear hv) mPr_blind (m_pre G I) rfl rfl hl.1 (Nat.le_of_ble_eq_true rfl) rfl rfl ⟨Nat.le_of_ble_eq_true rfl, Nat.le_of_ble_eq_true rfl⟩ ⟨Nat.le_refl _, Nat.le_refl _⟩ d_Mo_toXyz_130) ?_
  obtain ⟨m21, hv, hf⟩ := mbind hf
  refine r_last X G I hv d_Mo_toXyz_133 (fun H locs I => ?_)
  obtain rfl := Option.some.inj hf
  exact r_vretW X I d_Mo_toXyz_134

set_option maxHeartbeats 4000000 in
set_option maxRecDepth 100000 in
theorem c_Mo_toXyz {l : Launch} {D : va_G} {cA : Nat → ClassId} {dA z0 : Nat} {μ : mM} {h0 : Nat} {r : mM} (hf : f_Mo_toXyz h0 μ = some r) : Met l y_Mo_toXyz (mW y_Mo_toXyz b_Mo_toXyz 11 none) rm_Mo_toXyz (va_Pc [.ref h0] (mPr D cA dA z0 μ)) (mQW D cA z0 none r) 0 0 (mA z0) := by
  refine Met.ofW (cc := b_Mo_toXyz) (maxL := 11) (ret := none) (by decide) rfl ?_
  intro p e s m args below meth c s₁ B hml hv
  obtain ⟨rfl, G, hP⟩ := hv
  have X := mX.of B hml
  exact m_entry (lv := [(0, va_rf (some h0))]) (Nat.le_of_ble_eq_true rfl) rfl (fun ls hl => w_Mo_toXyz X G (mI.start hP) hf hl)

abbrev rm_Mo_gather : Room := { frames := 2, cells := 0, slots := 0, locals := 52 }
theorem h_Mo_gather : mCV y_Mo_gather b_Mo_gather 2 none 1 := ⟨k_1145, k_79, ⟨by decide, by decide, by decide +kernel⟩, k_1144, k_64⟩
set_option maxHeartbeats 4000000 in
set_option maxRecDepth 100000 in
theorem w_Mo_gather_38 {h0 : Nat} {r : mM} (X : mX p m meth c s args b_Mo_gather 2 none "ColourLinkerModel") (G : mG D cA dA z0 s) {H : Heap} {locs : List Loc} {μ : mM} {ls : Array Slot} {s0 : Option Nat} {s1 : Int32} {s2 : Int64} (I : mI D cA z0 s μ H locs s.heap.size) (hf : f_Mo_gather_38 h0 μ s0 s1 s2 = some r) (hl : lv_has ls 2 [(0, va_rf (some h0))]) : W p l e rm_Mo_gather s m args below meth c H locs 0 0 (MQ below (mQW D cA z0 none r) args s 0 0 (mA z0)) (F0 m 38 ls [.long s2, .int s1, va_rf s0]) := by
  have hx := X.ex
  have hb := X.by_
  unfold f_Mo_gather_38 at hf
  obtain ⟨m8, hv, hf⟩ := mbind hf
  refine r_last X G I hv d_Mo_gather_38 (fun H locs I => ?_)
  refine r_aload_n X d_Mo_gather_39 rfl (lv_at hl 0 rfl) ?_
  obtain ⟨v9, hv, hf⟩ := mbind hf
  refine r_getf X G I (mfA_e hv) o_Mo_v k_852 (Or.inl rfl) d_Mo_gather_40 ?_
  refine lv_iconst (v := 1) hx hb d_Mo_gather_43 (by decide) ?_
  refine lv_lconst (v := 0) hx hb d_Mo_gather_44 (by decide) ?_
  obtain ⟨m10, hv, hf⟩ := mbind hf
  refine r_last X G I hv d_Mo_gather_45 (fun H locs I => ?_)
  refine r_aload_n X d_Mo_gather_46 rfl (lv_at hl 0 rfl) ?_
  obtain ⟨v11, hv, hf⟩ := mbind hf
  refine r_getf X G I (mfA_e hv) o_Mo_v k_852 (Or.inl rfl) d_Mo_gather_47 ?_
  refine lv_iconst (v := 2) hx hb d_Mo_gather_50 (by decide) ?_
  refine lv_lconst (v := 0) hx hb d_Mo_gather_51 (by decide) ?_
  obtain ⟨m12, hv, hf⟩ := mbind hf
  refine r_last X G I hv d_Mo_gather_52 (fun H locs I => ?_)
  obtain rfl := Option.some.inj hf
  exact r_vretW X I d_Mo_gather_53

set_option maxHeartbeats 4000000 in
set_option maxRecDepth 100000 in
theorem w_Mo_gather {h0 : Nat} {r : mM} (X : mX p m meth c s args b_Mo_gather 2 none "ColourLinkerModel") (G : mG D cA dA z0 s) {H : Heap} {locs : List Loc} {μ : mM} {ls : Array Slot} {x1 : Int32} (I : mI D cA z0 s μ H locs s.heap.size) (hf : f_Mo_gather h0 μ x1 = some r) (hl : lv_has ls 2 [(0, va_rf (some h0)), (1, .int x1)]) : W p l e rm_Mo_gather s m args below meth c H locs 0 0 (MQ below (mQW D cA z0 none r) args s 0 0 (mA z0)) (F0 m 0 ls []) := by
  have hx := X.ex
  have hb := X.by_
  unfold f_Mo_gather at hf
  refine r_aload_n X d_Mo_gather_0 rfl (lv_at hl 0 rfl) ?_
  obtain ⟨v1, hv, hf⟩ := mbind hf
  refine r_getf X G I (mfA_e hv) o_Mo_v k_852 (Or.inl rfl) d_Mo_gather_1 ?_
  refine lv_iconst (v := 0) hx hb d_Mo_gather_4 (by decide) ?_
  refine r_aload_n X d_Mo_gather_5 rfl (lv_at hl 0 rfl) ?_
  refine lv_iload_n hx hb d_Mo_gather_6 rfl (lv_at hl 1 rfl) ?_
  obtain ⟨q2, hv, hf⟩ := mbind hf
  obtain ⟨a, ha, hv⟩ := mbind hv
  obtain ⟨ha, fs, hm⟩ := mrc_e ha
  refine m_caR (m_runV (As := [.int x1]) (r := some h0) (rest := [.int (0 : Int32), va_rf v1]) X G I h_Mo_lab k_1033 (c_Mo_lab hv) mPr_blind (m_pre G I) hm rfl ha rfl rfl hl.1 (Nat.le_of_ble_eq_true rfl) rfl rfl ⟨Nat.le_of_ble_eq_true rfl, Nat.le_of_ble_eq_true rfl⟩ ⟨Nat.le_refl _, Nat.le_refl _⟩ d_Mo_gather_7) ?_
  refine lv_if_eq (tgt := 22) hx hb d_Mo_gather_10 (by decide) (fun hc => ?_) (fun hc => ?_)
  · have hf := mift hf hc
    refine lv_ldc2 (v := 65535) hx hb X.ow (X.w k_992) d_Mo_gather_22 ?_
    refine r_aload_n X d_Mo_gather_25 rfl (lv_at hl 0 rfl) ?_
    obtain ⟨v3, hv, hf⟩ := mbind hf
    refine r_getf X G I (mfA_e hv) o_Mo_old k_853 (Or.inl rfl) d_Mo_gather_26 ?_
    refine lv_iconst (v := 1) hx hb d_Mo_gather_29 (by decide) ?_
    obtain ⟨v4, hv, hf⟩ := mbind hf
    refine r_lald X G I hv d_Mo_gather_30 ?_
    refine lv_lmul hx hb d_Mo_gather_31 ?_
    refine lv_ldc2 (v := 32768) hx hb X.ow (X.w k_1008) d_Mo_gather_32 ?_
    obtain ⟨q5, hv, hf⟩ := mbind hf
    refine m_caR (m_runS (As := [.long ((65535 : Int64) * v4), .long (32768 : Int64)]) (rest := [.int (0 : Int32), va_rf v1]) X h_Mo_clipNear k_998 (c_Mo_clipNear hv) mPr_blind (m_pre G I) rfl rfl hl.1 (Nat.le_of_ble_eq_true rfl) rfl rfl ⟨Nat.le_of_ble_eq_true rfl, Nat.le_of_ble_eq_true rfl⟩ ⟨Nat.le_refl _, Nat.le_refl _⟩ d_Mo_gather_35) ?_
    exact w_Mo_gather_38 X G I hf (lv_sub hl [0] rfl)
  · have hf := miff hf hc
    refine r_aload_n X d_Mo_gather_13 rfl (lv_at hl 0 rfl) ?_
    obtain ⟨v6, hv, hf⟩ := mbind hf
    refine r_getf X G I (mfA_e hv) o_Mo_old k_853 (Or.inl rfl) d_Mo_gather_14 ?_
    refine lv_iconst (v := 0) hx hb d_Mo_gather_17 (by decide) ?_
    obtain ⟨v7, hv, hf⟩ := mbind hf
    refine r_lald X G I hv d_Mo_gather_18 ?_
    refine lv_goto (tgt := 38) hx hb d_Mo_gather_19 (by decide) ?_
    exact w_Mo_gather_38 X G I hf (lv_sub hl [0] rfl)

set_option maxHeartbeats 4000000 in
set_option maxRecDepth 100000 in
theorem c_Mo_gather {l : Launch} {D : va_G} {cA : Nat → ClassId} {dA z0 : Nat} {μ : mM} {h0 : Nat} {x1 : Int32} {r : mM} (hf : f_Mo_gather h0 μ x1 = some r) : Met l y_Mo_gather (mW y_Mo_gather b_Mo_gather 2 none) rm_Mo_gather (va_Pc [.ref h0, .int x1] (mPr D cA dA z0 μ)) (mQW D cA z0 none r) 0 0 (mA z0) := by
  refine Met.ofW (cc := b_Mo_gather) (maxL := 2) (ret := none) (by decide) rfl ?_
  intro p e s m args below meth c s₁ B hml hv
  obtain ⟨rfl, G, hP⟩ := hv
  have X := mX.of B hml
  exact m_entry (lv := [(0, va_rf (some h0)), (1, .int x1)]) (Nat.le_of_ble_eq_true rfl) rfl (fun ls hl => w_Mo_gather X G (mI.start hP) hf hl)

abbrev rm_Mo_matrixBack : Room := { frames := 4, cells := 0, slots := 0, locals := 93 }
theorem h_Mo_matrixBack : mCV y_Mo_matrixBack b_Mo_matrixBack 7 none 1 := ⟨k_1149, k_79, ⟨by decide, by decide, by decide +kernel⟩, k_1148, k_65⟩
set_option maxHeartbeats 4000000 in
set_option maxRecDepth 100000 in
theorem w_Mo_matrixBack_104 {h0 : Nat} {r : mM} (X : mX p m meth c s args b_Mo_matrixBack 7 none "ColourLinkerModel") (G : mG D cA dA z0 s) {H : Heap} {locs : List Loc} {μ : mM} {ls : Array Slot}  (I : mI D cA z0 s μ H locs s.heap.size) (hf : f_Mo_matrixBack_104 h0 μ = some r) (hl : lv_has ls 7 [(0, va_rf (some h0))]) : W p l e rm_Mo_matrixBack s m args below meth c H locs 0 0 (MQ below (mQW D cA z0 none r) args s 0 0 (mA z0)) (F0 m 104 ls []) := by
  have hx := X.ex
  have hb := X.by_
  unfold f_Mo_matrixBack_104 at hf
  obtain rfl := Option.some.inj hf
  exact r_vretW X I d_Mo_matrixBack_104

set_option maxHeartbeats 4000000 in
set_option maxRecDepth 100000 in
theorem w_Mo_matrixBack_97 {h0 : Nat} {r : mM} (X : mX p m meth c s args b_Mo_matrixBack 7 none "ColourLinkerModel") (G : mG D cA dA z0 s) {k : mM → Int32 → Int64 → Int32 → Option (mM)} {kx104 : mM → Option (mM)} (hk : ∀ (H : Heap) (locs : List Loc) (μ : mM) (ls : Array Slot) (x1 : Int32) (x2 : Int64) (x4 : Int32), mI D cA z0 s μ H locs s.heap.size → k μ x1 x2 x4 = some r → lv_has ls 7 [(0, va_rf (some h0)), (1, .int x1), (2, .long x2), (4, .int x4)] → W p l e rm_Mo_matrixBack s m args below meth c H locs 0 0 (MQ below (mQW D cA z0 none r) args s 0 0 (mA z0)) (F0 m 13 ls [])) (hkx104 : ∀ (H : Heap) (locs : List Loc) (μ : mM) (ls : Array Slot), mI D cA z0 s μ H locs s.heap.size → kx104 μ = some r → lv_has ls 7 [(0, va_rf (some h0))] → W p l e rm_Mo_matrixBack s m args below meth c H locs 0 0 (MQ below (mQW D cA z0 none r) args s 0 0 (mA z0)) (F0 m 104 ls [])) {H : Heap} {locs : List Loc} {μ : mM} {ls : Array Slot} {x1 : Int32} {x2 : Int64} {x4 : Int32} {s0 : Option Nat} {s1 : Int32} {s2 : Int64} (I : mI D cA z0 s μ H locs s.heap.size) (hf : f_Mo_matrixBack_97 h0 k kx104 μ x1 x2 x4 s0 s1 s2 = some r) (hl : lv_has ls 7 [(0, va_rf (some h0)), (1, .int x1), (2, .long x2), (4, .int x4)]) : W p l e rm_Mo_matrixBack s m args below meth c H locs 0 0 (MQ below (mQW D cA z0 none r) args s 0 0 (mA z0)) (F0 m 97 ls [.long s2, .int s1, va_rf s0]) := by
  have hx := X.ex
  have hb := X.by_
  unfold f_Mo_matrixBack_97 at hf
  obtain ⟨m12, hv, hf⟩ := mbind hf
  refine r_last X G I hv d_Mo_matrixBack_97 (fun H locs I => ?_)
  refine lv_iinc (i := 4) (k := 3) (v := (x4 + (1 : Int32))) (lv' := [(4, .int (x4 + (1 : Int32))), (0, va_rf (some h0)), (1, .int x1), (2, .long x2)]) hx hb d_Mo_matrixBack_98 hl rfl (congrArg (fun t => x4 + t) (by decide : Int32.ofInt (1) = (1 : Int32))) (by decide) rfl (fun ls hl => ?_)
  refine lv_goto (tgt := 13) hx hb d_Mo_matrixBack_101 (by decide) ?_
  exact hk _ _ _ _ _ _ _ I hf (lv_sub hl [1, 2, 3, 0] rfl)

set_option maxHeartbeats 4000000 in
set_option maxRecDepth 100000 in
theorem w_Mo_matrixBack_58 {h0 : Nat} {r : mM} (X : mX p m meth c s args b_Mo_matrixBack 7 none "ColourLinkerModel") (G : mG D cA dA z0 s) {k : mM → Int32 → Int64 → Int32 → Option (mM)} {kx104 : mM → Option (mM)} (hk : ∀ (H : Heap) (locs : List Loc) (μ : mM) (ls : Array Slot) (x1 : Int32) (x2 : Int64) (x4 : Int32), mI D cA z0 s μ H locs s.heap.size → k μ x1 x2 x4 = some r → lv_has ls 7 [(0, va_rf (some h0)), (1, .int x1), (2, .long x2), (4, .int x4)] → W p l e rm_Mo_matrixBack s m args below meth c H locs 0 0 (MQ below (mQW D cA z0 none r) args s 0 0 (mA z0)) (F0 m 13 ls [])) (hkx104 : ∀ (H : Heap) (locs : List Loc) (μ : mM) (ls : Array Slot), mI D cA z0 s μ H locs s.heap.size → kx104 μ = some r → lv_has ls 7 [(0, va_rf (some h0))] → W p l e rm_Mo_matrixBack s m args below meth c H locs 0 0 (MQ below (mQW D cA z0 none r) args s 0 0 (mA z0)) (F0 m 104 ls [])) {H : Heap} {locs : List Loc} {μ : mM} {ls : Array Slot} {x1 : Int32} {x2 : Int64} {x4 : Int32} (I : mI D cA z0 s μ H locs s.heap.size) (hf : f_Mo_matrixBack_58 h0 k kx104 μ x1 x2 x4 = some r) (hl : lv_has ls 7 [(0, va_rf (some h0)), (1, .int x1), (2, .long x2), (4, .int x4)]) : W p l e rm_Mo_matrixBack s m args below meth c H locs 0 0 (MQ below (mQW D cA z0 none r) args s 0 0 (mA z0)) (F0 m 58 ls []) := by
  have hx := X.ex
  have hb := X.by_
  unfold f_Mo_matrixBack_58 at hf
  refine lv_ldc2 (v := 4096) hx hb X.ow (X.w k_1084) d_Mo_matrixBack_58 ?_
  refine r_aload_n X d_Mo_matrixBack_61 rfl (lv_at hl 0 rfl) ?_
  obtain ⟨q8, hv, hf⟩ := mbind hf
  obtain ⟨a, ha, hv⟩ := mbind hv
  obtain ⟨ha, fs, hm⟩ := mrc_e ha
  refine m_caR (m_runV (As := []) (r := some h0) (rest := [.long (4096 : Int64)]) X G I h_Mo_determinant k_1042 (c_Mo_determinant hv) mPr_blind (m_pre G I) hm rfl ha rfl rfl hl.1 (Nat.le_of_ble_eq_true rfl) rfl rfl ⟨Nat.le_of_ble_eq_true rfl, Nat.le_of_ble_eq_true rfl⟩ ⟨Nat.le_refl _, Nat.le_refl _⟩ d_Mo_matrixBack_62) ?_
  refine lv_lmul hx hb d_Mo_matrixBack_65 ?_
  refine lv_lstore (i := 5) (lv' := [(5, .long ((4096 : Int64) * q8)), (0, va_rf (some h0)), (1, .int x1), (2, .long x2), (4, .int x4)]) hx hb d_Mo_matrixBack_66 hl (by decide) rfl (fun ls hl => ?_)
  refine r_aload_n X d_Mo_matrixBack_68 rfl (lv_at hl 1 rfl) ?_
  obtain ⟨v9, hv, hf⟩ := mbind hf
  refine r_getf X G I (mfA_e hv) o_Mo_v k_852 (Or.inl rfl) d_Mo_matrixBack_69 ?_
  refine lv_iload hx hb d_Mo_matrixBack_72 (lv_at hl 4 rfl) ?_
  refine lv_lload_n hx hb d_Mo_matrixBack_74 rfl (lv_at hl 3 rfl) ?_
  refine lv_lconst (v := 0) hx hb d_Mo_matrixBack_75 (by decide) ?_
  refine r_lcge (tgt := 91) X d_Mo_matrixBack_76 d_Mo_matrixBack_77 (by decide) (fun hc => ?_) (fun hc => ?_)
  · have hf := mift hf hc
    refine lv_lload hx hb d_Mo_matrixBack_91 (lv_at hl 0 rfl) ?_
    refine lv_lload_n hx hb d_Mo_matrixBack_93 rfl (lv_at hl 3 rfl) ?_
    obtain ⟨q10, hv, hf⟩ := mbind hf
    refine m_caR (m_runS (As := [.long ((4096 : Int64) * q8), .long x2]) (rest := [.int x4, va_rf v9]) X h_Mo_clipNear k_998 (c_Mo_clipNear hv) mPr_blind (m_pre G I) rfl rfl hl.1 (Nat.le_of_ble_eq_true rfl) rfl rfl ⟨Nat.le_of_ble_eq_true rfl, Nat.le_of_ble_eq_true rfl⟩ ⟨Nat.le_refl _, Nat.le_refl _⟩ d_Mo_matrixBack_94) ?_
    exact w_Mo_matrixBack_97 X G hk hkx104 I hf (lv_sub hl [1, 2, 3, 4] rfl)
  · have hf := miff hf hc
    refine lv_lload hx hb d_Mo_matrixBack_80 (lv_at hl 0 rfl) ?_
    refine lv_lneg hx hb d_Mo_matrixBack_82 ?_
    refine lv_lload_n hx hb d_Mo_matrixBack_83 rfl (lv_at hl 3 rfl) ?_
    refine lv_lneg hx hb d_Mo_matrixBack_84 ?_
    obtain ⟨q11, hv, hf⟩ := mbind hf
    refine m_caR (m_runS (As := [.long (-((4096 : Int64) * q8)), .long (-x2)]) (rest := [.int x4, va_rf v9]) X h_Mo_clipNear k_998 (c_Mo_clipNear hv) mPr_blind (m_pre G I) rfl rfl hl.1 (Nat.le_of_ble_eq_true rfl) rfl rfl ⟨Nat.le_of_ble_eq_true rfl, Nat.le_of_ble_eq_true rfl⟩ ⟨Nat.le_refl _, Nat.le_refl _⟩ d_Mo_matrixBack_85) ?_
    refine lv_goto (tgt := 97) hx hb d_Mo_matrixBack_88 (by decide) ?_
    exact w_Mo_matrixBack_97 X G hk hkx104 I hf (lv_sub hl [1, 2, 3, 4] rfl)

set_option maxHeartbeats 4000000 in
set_option maxRecDepth 100000 in
theorem w_Mo_matrixBack_27 {h0 : Nat} {r : mM} (X : mX p m meth c s args b_Mo_matrixBack 7 none "ColourLinkerModel") (G : mG D cA dA z0 s) {kx58 : mM → Int32 → Int64 → Int32 → Option (mM)} (hkx58 : ∀ (H : Heap) (locs : List Loc) (μ : mM) (ls : Array Slot) (x1 : Int32) (x2 : Int64) (x4 : Int32), mI D cA z0 s μ H locs s.heap.size → kx58 μ x1 x2 x4 = some r → lv_has ls 7 [(0, va_rf (some h0)), (1, .int x1), (2, .long x2), (4, .int x4)] → W p l e rm_Mo_matrixBack s m args below meth c H locs 0 0 (MQ below (mQW D cA z0 none r) args s 0 0 (mA z0)) (F0 m 58 ls [])) : ∀ (n : Nat) (H : Heap) (locs : List Loc) (μ : mM) (ls : Array Slot) (x1 : Int32) (x2 : Int64) (x4 : Int32) (x5 : Int32), mI D cA z0 s μ H locs s.heap.size → f_Mo_matrixBack_27 h0 kx58 n μ x1 x2 x4 x5 = some r → lv_has ls 7 [(0, va_rf (some h0)), (1, .int x1), (2, .long x2), (4, .int x4), (5, .int x5)] → W p l e rm_Mo_matrixBack s m args below meth c H locs 0 0 (MQ below (mQW D cA z0 none r) args s 0 0 (mA z0)) (F0 m 27 ls []) := by
  have hx := X.ex
  have hb := X.by_
  intro n
  induction n with
  | zero => intro H locs μ ls x1 x2 x4 x5 I hf hl; rw [f_Mo_matrixBack_27] at hf; cases hf
  | succ n ih =>
    intro H locs μ ls x1 x2 x4 x5 I hf hl
    rw [f_Mo_matrixBack_27] at hf
    refine lv_iload hx hb d_Mo_matrixBack_27 (lv_at hl 4 rfl) ?_
    refine lv_iconst (v := 3) hx hb d_Mo_matrixBack_29 (by decide) ?_
    refine lv_icmp_ge (tgt := 58) hx hb d_Mo_matrixBack_30 (by decide) (fun hc => ?_) (fun hc => ?_)
    · have hf := mift hf hc
      exact hkx58 _ _ _ _ _ _ _ I hf (lv_sub hl [0, 1, 2, 3] rfl)
    · have hf := miff hf hc
      refine r_aload_n X d_Mo_matrixBack_33 rfl (lv_at hl 0 rfl) ?_
      obtain ⟨v4, hv, hf⟩ := mbind hf
      refine r_getf X G I (mfA_e hv) o_Mo_m k_854 (Or.inl rfl) d_Mo_matrixBack_34 ?_
      refine lv_iconst (v := 3) hx hb d_Mo_matrixBack_37 (by decide) ?_
      refine lv_iload hx hb d_Mo_matrixBack_38 (lv_at hl 4 rfl) ?_
      refine lv_imul hx hb d_Mo_matrixBack_40 ?_
      refine lv_iload hx hb d_Mo_matrixBack_41 (lv_at hl 3 rfl) ?_
      refine lv_iadd hx hb d_Mo_matrixBack_43 ?_
      refine r_aload_n X d_Mo_matrixBack_44 rfl (lv_at hl 0 rfl) ?_
      obtain ⟨v5, hv, hf⟩ := mbind hf
      refine r_getf X G I (mfA_e hv) o_Mo_old k_853 (Or.inl rfl) d_Mo_matrixBack_45 ?_
      refine lv_iload hx hb d_Mo_matrixBack_48 (lv_at hl 4 rfl) ?_
      obtain ⟨v6, hv, hf⟩ := mbind hf
      refine r_lald X G I hv d_Mo_matrixBack_50 ?_
      obtain ⟨m7, hv, hf⟩ := mbind hf
      refine r_last X G I hv d_Mo_matrixBack_51 (fun H locs I => ?_)
      refine lv_iinc (i := 5) (k := 4) (v := (x5 + (1 : Int32))) (lv' := [(5, .int (x5 + (1 : Int32))), (0, va_rf (some h0)), (1, .int x1), (2, .long x2), (4, .int x4)]) hx hb d_Mo_matrixBack_52 hl rfl (congrArg (fun t => x5 + t) (by decide : Int32.ofInt (1) = (1 : Int32))) (by decide) rfl (fun ls hl => ?_)
      refine lv_goto (tgt := 27) hx hb d_Mo_matrixBack_55 (by decide) ?_
      exact ih _ _ _ _ _ _ _ _ I hf (lv_sub hl [1, 2, 3, 4, 0] rfl)

set_option maxHeartbeats 4000000 in
set_option maxRecDepth 100000 in
theorem w_Mo_matrixBack_13 {h0 : Nat} {r : mM} (X : mX p m meth c s args b_Mo_matrixBack 7 none "ColourLinkerModel") (G : mG D cA dA z0 s) {kx104 : mM → Option (mM)} (hkx104 : ∀ (H : Heap) (locs : List Loc) (μ : mM) (ls : Array Slot), mI D cA z0 s μ H locs s.heap.size → kx104 μ = some r → lv_has ls 7 [(0, va_rf (some h0))] → W p l e rm_Mo_matrixBack s m args below meth c H locs 0 0 (MQ below (mQW D cA z0 none r) args s 0 0 (mA z0)) (F0 m 104 ls [])) : ∀ (n : Nat) (H : Heap) (locs : List Loc) (μ : mM) (ls : Array Slot) (x1 : Int32) (x2 : Int64) (x4 : Int32), mI D cA z0 s μ H locs s.heap.size → f_Mo_matrixBack_13 h0 kx104 n μ x1 x2 x4 = some r → lv_has ls 7 [(0, va_rf (some h0)), (1, .int x1), (2, .long x2), (4, .int x4)] → W p l e rm_Mo_matrixBack s m args below meth c H locs 0 0 (MQ below (mQW D cA z0 none r) args s 0 0 (mA z0)) (F0 m 13 ls []) := by
  have hx := X.ex
  have hb := X.by_
  intro n
  induction n with
  | zero => intro H locs μ ls x1 x2 x4 I hf hl; rw [f_Mo_matrixBack_13] at hf; cases hf
  | succ n ih =>
    intro H locs μ ls x1 x2 x4 I hf hl
    rw [f_Mo_matrixBack_13] at hf
    refine lv_iload hx hb d_Mo_matrixBack_13 (lv_at hl 3 rfl) ?_
    refine lv_iconst (v := 3) hx hb d_Mo_matrixBack_15 (by decide) ?_
    refine lv_icmp_ge (tgt := 104) hx hb d_Mo_matrixBack_16 (by decide) (fun hc => ?_) (fun hc => ?_)
    · have hf := mift hf hc
      exact hkx104 _ _ _ _ I hf (lv_sub hl [0] rfl)
    · have hf := miff hf hc
      refine r_aload_n X d_Mo_matrixBack_19 rfl (lv_at hl 0 rfl) ?_
      refine lv_iload_n hx hb d_Mo_matrixBack_20 rfl (lv_at hl 1 rfl) ?_
      obtain ⟨q3, hv, hf⟩ := mbind hf
      obtain ⟨a, ha, hv⟩ := mbind hv
      obtain ⟨ha, fs, hm⟩ := mrc_e ha
      refine m_caWv (m_runV (As := [.int x1]) (r := some h0) (rest := []) X G I h_Mo_takeMatrix k_1037 (c_Mo_takeMatrix hv) mPr_blind (m_pre G I) hm rfl ha rfl rfl hl.1 (Nat.le_of_ble_eq_true rfl) rfl rfl ⟨Nat.le_of_ble_eq_true rfl, Nat.le_of_ble_eq_true rfl⟩ ⟨Nat.le_refl _, Nat.le_refl _⟩ d_Mo_matrixBack_21) I (fun H locs I => ?_)
      refine lv_iconst (v := 0) hx hb d_Mo_matrixBack_24 (by decide) ?_
      refine lv_istore (i := 5) (lv' := [(5, .int (0 : Int32)), (0, va_rf (some h0)), (1, .int x1), (2, .long x2), (4, .int x4)]) hx hb d_Mo_matrixBack_25 hl (by decide) rfl (fun ls hl => ?_)
      exact w_Mo_matrixBack_27 X G (fun H locs μ ls x1 x2 x4 I hf hl => w_Mo_matrixBack_58 X G ih hkx104 I hf hl) 4096 _ _ _ _ _ _ _ _ I hf (lv_sub hl [1, 2, 3, 4, 0] rfl)

set_option maxHeartbeats 4000000 in
set_option maxRecDepth 100000 in
theorem w_Mo_matrixBack {h0 : Nat} {r : mM} (X : mX p m meth c s args b_Mo_matrixBack 7 none "ColourLinkerModel") (G : mG D cA dA z0 s) {H : Heap} {locs : List Loc} {μ : mM} {ls : Array Slot} {x1 : Int32} (I : mI D cA z0 s μ H locs s.heap.size) (hf : f_Mo_matrixBack h0 μ x1 = some r) (hl : lv_has ls 7 [(0, va_rf (some h0)), (1, .int x1)]) : W p l e rm_Mo_matrixBack s m args below meth c H locs 0 0 (MQ below (mQW D cA z0 none r) args s 0 0 (mA z0)) (F0 m 0 ls []) := by
  have hx := X.ex
  have hb := X.by_
  unfold f_Mo_matrixBack at hf
  refine r_aload_n X d_Mo_matrixBack_0 rfl (lv_at hl 0 rfl) ?_
  refine lv_iload_n hx hb d_Mo_matrixBack_1 rfl (lv_at hl 1 rfl) ?_
  obtain ⟨q1, hv, hf⟩ := mbind hf
  obtain ⟨a, ha, hv⟩ := mbind hv
  obtain ⟨ha, fs, hm⟩ := mrc_e ha
  refine m_caWv (m_runV (As := [.int x1]) (r := some h0) (rest := []) X G I h_Mo_takeMatrix k_1037 (c_Mo_takeMatrix hv) mPr_blind (m_pre G I) hm rfl ha rfl rfl hl.1 (Nat.le_of_ble_eq_true rfl) rfl rfl ⟨Nat.le_of_ble_eq_true rfl, Nat.le_of_ble_eq_true rfl⟩ ⟨Nat.le_refl _, Nat.le_refl _⟩ d_Mo_matrixBack_2) I (fun H locs I => ?_)
  refine r_aload_n X d_Mo_matrixBack_5 rfl (lv_at hl 0 rfl) ?_
  obtain ⟨q2, hv, hf⟩ := mbind hf
  obtain ⟨a, ha, hv⟩ := mbind hv
  obtain ⟨ha, fs, hm⟩ := mrc_e ha
  refine m_caR (m_runV (As := []) (r := some h0) (rest := []) X G I h_Mo_determinant k_1042 (c_Mo_determinant hv) mPr_blind (m_pre G I) hm rfl ha rfl rfl hl.1 (Nat.le_of_ble_eq_true rfl) rfl rfl ⟨Nat.le_of_ble_eq_true rfl, Nat.le_of_ble_eq_true rfl⟩ ⟨Nat.le_refl _, Nat.le_refl _⟩ d_Mo_matrixBack_6) ?_
  refine lv_lstore_n (i := 2) (lv' := [(2, .long q2), (0, va_rf (some h0)), (1, .int x1)]) hx hb d_Mo_matrixBack_9 rfl hl (by decide) rfl (fun ls hl => ?_)
  refine lv_iconst (v := 0) hx hb d_Mo_matrixBack_10 (by decide) ?_
  refine lv_istore (i := 4) (lv' := [(4, .int (0 : Int32)), (2, .long q2), (0, va_rf (some h0)), (1, .int x1)]) hx hb d_Mo_matrixBack_11 hl (by decide) rfl (fun ls hl => ?_)
  exact w_Mo_matrixBack_13 X G (fun H locs μ ls I hf hl => w_Mo_matrixBack_104 X G I hf hl) 4096 _ _ _ _ _ _ _ I hf (lv_sub hl [2, 3, 1, 0] rfl)

set_option maxHeartbeats 4000000 in
set_option maxRecDepth 100000 in
theorem c_Mo_matrixBack {l : Launch} {D : va_G} {cA : Nat → ClassId} {dA z0 : Nat} {μ : mM} {h0 : Nat} {x1 : Int32} {r : mM} (hf : f_Mo_matrixBack h0 μ x1 = some r) : Met l y_Mo_matrixBack (mW y_Mo_matrixBack b_Mo_matrixBack 7 none) rm_Mo_matrixBack (va_Pc [.ref h0, .int x1] (mPr D cA dA z0 μ)) (mQW D cA z0 none r) 0 0 (mA z0) := by
  refine Met.ofW (cc := b_Mo_matrixBack) (maxL := 7) (ret := none) (by decide) rfl ?_
  intro p e s m args below meth c s₁ B hml hv
  obtain ⟨rfl, G, hP⟩ := hv
  have X := mX.of B hml
  exact m_entry (lv := [(0, va_rf (some h0)), (1, .int x1)]) (Nat.le_of_ble_eq_true rfl) rfl (fun ls hl => w_Mo_matrixBack X G (mI.start hP) hf hl)

end WK
