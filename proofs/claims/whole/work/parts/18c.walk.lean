section WK
variable {p : Program} {l : Launch} {e : Env} {s : State} {m : MethodId} {args : Array Value} {below : List Frame} {meth : Method} {c : Code} {D : va_G} {cA : Nat → ClassId} {dA z0 : Nat}
abbrev rm_LabXyz_turnToLab : Room := { frames := 3, cells := 0, slots := 0, locals := 77 }
theorem h_LabXyz_turnToLab : mCS y_LabXyz_turnToLab b_LabXyz_turnToLab 7 none 1 := ⟨k_564, k_78, ⟨by decide, by decide, by decide +kernel⟩, k_563⟩
set_option maxHeartbeats 4000000 in
set_option maxRecDepth 100000 in
theorem w_LabXyz_turnToLab {r : mM} (X : mX p m meth c s args b_LabXyz_turnToLab 7 none "ColourLinker$LabXyz") (G : mG D cA dA z0 s) {H : Heap} {locs : List Loc} {μ : mM} {ls : Array Slot} {x0 : Option Nat} (I : mI D cA z0 s μ H locs s.heap.size) (hf : f_LabXyz_turnToLab μ x0 = some r) (hl : lv_has ls 7 [(0, va_rf x0)]) : W p l e rm_LabXyz_turnToLab s m args below meth c H locs 0 0 (MQ below (mQW D cA z0 none r) args s 0 0 (mA z0)) (F0 m 0 ls []) := by
  have hx := X.ex
  have hb := X.by_
  unfold f_LabXyz_turnToLab at hf
  refine r_aload_n X d_LabXyz_turnToLab_0 rfl (lv_at hl 0 rfl) ?_
  refine lv_iconst (v := 0) hx hb d_LabXyz_turnToLab_1 (by decide) ?_
  obtain ⟨v1, hv, hf⟩ := mbind hf
  refine r_iald X G I hv d_LabXyz_turnToLab_2 ?_
  refine lv_i2l hx hb d_LabXyz_turnToLab_3 rfl ?_
  refine r_getsN X G I k_565 rfl d_LabXyz_turnToLab_4 ?_
  refine lv_iconst (v := 0) hx hb d_LabXyz_turnToLab_7 (by decide) ?_
  obtain ⟨v2, hv, hf⟩ := mbind hf
  refine r_ti X G I hv d_LabXyz_turnToLab_8 ?_
  refine lv_i2l hx hb d_LabXyz_turnToLab_9 rfl ?_
  obtain ⟨q3, hv, hf⟩ := mbind hf
  refine m_caR (m_runS (As := [.long ((v1).toInt64), .long ((v2).toInt64)]) (rest := []) X h_LabXyz_rootOf k_566 (c_LabXyz_rootOf hv) mPr_blind (m_pre G I) rfl rfl hl.1 (Nat.le_of_ble_eq_true rfl) rfl rfl ⟨Nat.le_of_ble_eq_true rfl, Nat.le_of_ble_eq_true rfl⟩ ⟨Nat.le_refl _, Nat.le_refl _⟩ d_LabXyz_turnToLab_10) ?_
  refine lv_lstore_n (i := 1) (lv' := [(1, .long q3), (0, va_rf x0)]) hx hb d_LabXyz_turnToLab_13 rfl hl (by decide) (by simp [mrf_cat]) (fun ls hl => ?_)
  refine r_aload_n X d_LabXyz_turnToLab_14 rfl (lv_at hl 1 rfl) ?_
  refine lv_iconst (v := 1) hx hb d_LabXyz_turnToLab_15 (by decide) ?_
  obtain ⟨v4, hv, hf⟩ := mbind hf
  refine r_iald X G I hv d_LabXyz_turnToLab_16 ?_
  refine lv_i2l hx hb d_LabXyz_turnToLab_17 rfl ?_
  refine r_getsN X G I k_565 rfl d_LabXyz_turnToLab_18 ?_
  refine lv_iconst (v := 1) hx hb d_LabXyz_turnToLab_21 (by decide) ?_
  obtain ⟨v5, hv, hf⟩ := mbind hf
  refine r_ti X G I hv d_LabXyz_turnToLab_22 ?_
  refine lv_i2l hx hb d_LabXyz_turnToLab_23 rfl ?_
  obtain ⟨q6, hv, hf⟩ := mbind hf
  refine m_caR (m_runS (As := [.long ((v4).toInt64), .long ((v5).toInt64)]) (rest := []) X h_LabXyz_rootOf k_566 (c_LabXyz_rootOf hv) mPr_blind (m_pre G I) rfl rfl hl.1 (Nat.le_of_ble_eq_true rfl) rfl rfl ⟨Nat.le_of_ble_eq_true rfl, Nat.le_of_ble_eq_true rfl⟩ ⟨Nat.le_refl _, Nat.le_refl _⟩ d_LabXyz_turnToLab_24) ?_
  refine lv_lstore_n (i := 3) (lv' := [(3, .long q6), (1, .long q3), (0, va_rf x0)]) hx hb d_LabXyz_turnToLab_27 rfl hl (by decide) rfl (fun ls hl => ?_)
  refine r_aload_n X d_LabXyz_turnToLab_28 rfl (lv_at hl 2 rfl) ?_
  refine lv_iconst (v := 2) hx hb d_LabXyz_turnToLab_29 (by decide) ?_
  obtain ⟨v7, hv, hf⟩ := mbind hf
  refine r_iald X G I hv d_LabXyz_turnToLab_30 ?_
  refine lv_i2l hx hb d_LabXyz_turnToLab_31 rfl ?_
  refine r_getsN X G I k_565 rfl d_LabXyz_turnToLab_32 ?_
  refine lv_iconst (v := 2) hx hb d_LabXyz_turnToLab_35 (by decide) ?_
  obtain ⟨v8, hv, hf⟩ := mbind hf
  refine r_ti X G I hv d_LabXyz_turnToLab_36 ?_
  refine lv_i2l hx hb d_LabXyz_turnToLab_37 rfl ?_
  obtain ⟨q9, hv, hf⟩ := mbind hf
  refine m_caR (m_runS (As := [.long ((v7).toInt64), .long ((v8).toInt64)]) (rest := []) X h_LabXyz_rootOf k_566 (c_LabXyz_rootOf hv) mPr_blind (m_pre G I) rfl rfl hl.1 (Nat.le_of_ble_eq_true rfl) rfl rfl ⟨Nat.le_of_ble_eq_true rfl, Nat.le_of_ble_eq_true rfl⟩ ⟨Nat.le_refl _, Nat.le_refl _⟩ d_LabXyz_turnToLab_38) ?_
  refine lv_lstore (i := 5) (lv' := [(5, .long q9), (3, .long q6), (1, .long q3), (0, va_rf x0)]) hx hb d_LabXyz_turnToLab_41 hl (by decide) rfl (fun ls hl => ?_)
  refine r_aload_n X d_LabXyz_turnToLab_43 rfl (lv_at hl 3 rfl) ?_
  refine lv_iconst (v := 0) hx hb d_LabXyz_turnToLab_44 (by decide) ?_
  refine lv_ldc2 (v := 116) hx hb X.ow (X.w k_579) d_LabXyz_turnToLab_45 ?_
  refine lv_lload_n hx hb d_LabXyz_turnToLab_48 rfl (lv_at hl 1 rfl) ?_
  refine lv_lmul hx hb d_LabXyz_turnToLab_49 ?_
  refine lv_ldc2 (v := 262144) hx hb X.ow (X.w k_580) d_LabXyz_turnToLab_50 ?_
  refine lv_lsub hx hb d_LabXyz_turnToLab_53 ?_
  refine lv_ldc2 (v := 65535) hx hb X.ow (X.w k_581) d_LabXyz_turnToLab_54 ?_
  refine lv_lmul hx hb d_LabXyz_turnToLab_57 ?_
  refine lv_ldc2 (v := 1638400) hx hb X.ow (X.w k_582) d_LabXyz_turnToLab_58 ?_
  obtain ⟨q10, hv, hf⟩ := mbind hf
  refine m_caR (m_runSN (As := [.long ((((116 : Int64) * q6) - (262144 : Int64)) * (65535 : Int64)), .long (1638400 : Int64)]) (rest := [.int (0 : Int32), va_rf x0]) X G h_CL_nearest k_570 (c_CL_nearest hv) mPr_blind (m_pre G I) rfl rfl hl.1 (Nat.le_of_ble_eq_true rfl) rfl rfl ⟨Nat.le_of_ble_eq_true rfl, Nat.le_of_ble_eq_true rfl⟩ ⟨Nat.le_refl _, Nat.le_refl _⟩ d_LabXyz_turnToLab_61) ?_
  obtain ⟨q11, hv, hf⟩ := mbind hf
  refine m_caR (m_runSN (As := [.long q10]) (rest := [.int (0 : Int32), va_rf x0]) X G h_CL_clip k_583 (c_CL_clip hv) mPr_blind (m_pre G I) rfl rfl hl.1 (Nat.le_of_ble_eq_true rfl) rfl rfl ⟨Nat.le_of_ble_eq_true rfl, Nat.le_of_ble_eq_true rfl⟩ ⟨Nat.le_refl _, Nat.le_refl _⟩ d_LabXyz_turnToLab_64) ?_
  obtain ⟨m12, hv, hf⟩ := mbind hf
  refine r_iast X G I hv d_LabXyz_turnToLab_67 (fun H locs I => ?_)
  refine r_aload_n X d_LabXyz_turnToLab_68 rfl (lv_at hl 3 rfl) ?_
  refine lv_iconst (v := 1) hx hb d_LabXyz_turnToLab_69 (by decide) ?_
  refine lv_ldc2 (v := 32896) hx hb X.ow (X.w k_584) d_LabXyz_turnToLab_70 ?_
  refine lv_ldc2 (v := 128500) hx hb X.ow (X.w k_585) d_LabXyz_turnToLab_73 ?_
  refine lv_lload_n hx hb d_LabXyz_turnToLab_76 rfl (lv_at hl 2 rfl) ?_
  refine lv_lload_n hx hb d_LabXyz_turnToLab_77 rfl (lv_at hl 1 rfl) ?_
  refine lv_lsub hx hb d_LabXyz_turnToLab_78 ?_
  refine lv_lmul hx hb d_LabXyz_turnToLab_79 ?_
  refine lv_ldc2 (v := 16384) hx hb X.ow (X.w k_586) d_LabXyz_turnToLab_80 ?_
  obtain ⟨q13, hv, hf⟩ := mbind hf
  refine m_caR (m_runSN (As := [.long ((128500 : Int64) * (q3 - q6)), .long (16384 : Int64)]) (rest := [.long (32896 : Int64), .int (1 : Int32), va_rf x0]) X G h_CL_nearest k_570 (c_CL_nearest hv) mPr_blind (m_pre G I) rfl rfl hl.1 (Nat.le_of_ble_eq_true rfl) rfl rfl ⟨Nat.le_of_ble_eq_true rfl, Nat.le_of_ble_eq_true rfl⟩ ⟨Nat.le_refl _, Nat.le_refl _⟩ d_LabXyz_turnToLab_83) ?_
  refine lv_ladd hx hb d_LabXyz_turnToLab_86 ?_
  obtain ⟨q14, hv, hf⟩ := mbind hf
  refine m_caR (m_runSN (As := [.long ((32896 : Int64) + q13)]) (rest := [.int (1 : Int32), va_rf x0]) X G h_CL_clip k_583 (c_CL_clip hv) mPr_blind (m_pre G I) rfl rfl hl.1 (Nat.le_of_ble_eq_true rfl) rfl rfl ⟨Nat.le_of_ble_eq_true rfl, Nat.le_of_ble_eq_true rfl⟩ ⟨Nat.le_refl _, Nat.le_refl _⟩ d_LabXyz_turnToLab_87) ?_
  obtain ⟨m15, hv, hf⟩ := mbind hf
  refine r_iast X G I hv d_LabXyz_turnToLab_90 (fun H locs I => ?_)
  refine r_aload_n X d_LabXyz_turnToLab_91 rfl (lv_at hl 3 rfl) ?_
  refine lv_iconst (v := 2) hx hb d_LabXyz_turnToLab_92 (by decide) ?_
  refine lv_ldc2 (v := 32896) hx hb X.ow (X.w k_584) d_LabXyz_turnToLab_93 ?_
  refine lv_ldc2 (v := 51400) hx hb X.ow (X.w k_587) d_LabXyz_turnToLab_96 ?_
  refine lv_lload_n hx hb d_LabXyz_turnToLab_99 rfl (lv_at hl 1 rfl) ?_
  refine lv_lload hx hb d_LabXyz_turnToLab_100 (lv_at hl 0 rfl) ?_
  refine lv_lsub hx hb d_LabXyz_turnToLab_102 ?_
  refine lv_lmul hx hb d_LabXyz_turnToLab_103 ?_
  refine lv_ldc2 (v := 16384) hx hb X.ow (X.w k_586) d_LabXyz_turnToLab_104 ?_
  obtain ⟨q16, hv, hf⟩ := mbind hf
  refine m_caR (m_runSN (As := [.long ((51400 : Int64) * (q6 - q9)), .long (16384 : Int64)]) (rest := [.long (32896 : Int64), .int (2 : Int32), va_rf x0]) X G h_CL_nearest k_570 (c_CL_nearest hv) mPr_blind (m_pre G I) rfl rfl hl.1 (Nat.le_of_ble_eq_true rfl) rfl rfl ⟨Nat.le_of_ble_eq_true rfl, Nat.le_of_ble_eq_true rfl⟩ ⟨Nat.le_refl _, Nat.le_refl _⟩ d_LabXyz_turnToLab_107) ?_
  refine lv_ladd hx hb d_LabXyz_turnToLab_110 ?_
  obtain ⟨q17, hv, hf⟩ := mbind hf
  refine m_caR (m_runSN (As := [.long ((32896 : Int64) + q16)]) (rest := [.int (2 : Int32), va_rf x0]) X G h_CL_clip k_583 (c_CL_clip hv) mPr_blind (m_pre G I) rfl rfl hl.1 (Nat.le_of_ble_eq_true rfl) rfl rfl ⟨Nat.le_of_ble_eq_true rfl, Nat.le_of_ble_eq_true rfl⟩ ⟨Nat.le_refl _, Nat.le_refl _⟩ d_LabXyz_turnToLab_111) ?_
  obtain ⟨m18, hv, hf⟩ := mbind hf
  refine r_iast X G I hv d_LabXyz_turnToLab_114 (fun H locs I => ?_)
  obtain rfl := Option.some.inj hf
  exact r_vretW X I d_LabXyz_turnToLab_115

set_option maxHeartbeats 4000000 in
set_option maxRecDepth 100000 in
theorem c_LabXyz_turnToLab {l : Launch} {D : va_G} {cA : Nat → ClassId} {dA z0 : Nat} {μ : mM} {x0 : Option Nat} {r : mM} (hf : f_LabXyz_turnToLab μ x0 = some r) : Met l y_LabXyz_turnToLab (mW y_LabXyz_turnToLab b_LabXyz_turnToLab 7 none) rm_LabXyz_turnToLab (va_Pc [va_rf x0] (mPr D cA dA z0 μ)) (mQW D cA z0 none r) 0 0 (mA z0) := by
  refine Met.ofW (cc := b_LabXyz_turnToLab) (maxL := 7) (ret := none) (by decide) rfl ?_
  intro p e s m args below meth c s₁ B hml hv
  obtain ⟨rfl, G, hP⟩ := hv
  have X := mX.of B hml
  exact m_entry (lv := [(0, va_rf x0)]) (by simp [lg_sl, mrf_cat, mc_int, mc_long, mc_ref]) (by simp [lv_args, mrf_cat, mc_int, mc_long, mc_ref, mrf_some]) (fun ls hl => w_LabXyz_turnToLab X G (mI.start hP) hf hl)

abbrev rm_LabXyz_cubeOf : Room := { frames := 2, cells := 0, slots := 0, locals := 52 }
theorem h_LabXyz_cubeOf : mCS y_LabXyz_cubeOf b_LabXyz_cubeOf 2 (some .long) 1 := ⟨k_597, k_78, ⟨by decide, by decide, by decide +kernel⟩, k_596⟩
set_option maxHeartbeats 4000000 in
set_option maxRecDepth 100000 in
theorem w_LabXyz_cubeOf_37 {μ : mM} {r : Int64} (X : mX p m meth c s args b_LabXyz_cubeOf 2 (some .long) "ColourLinker$LabXyz") (G : mG D cA dA z0 s) (I : mI D cA z0 s μ s.heap [] s.heap.size) {ls : Array Slot} {s0 : Int64} (hf : f_LabXyz_cubeOf_37 μ s0 = some r) (hl : lv_has ls 2 []) : W p l e rm_LabXyz_cubeOf s m args below meth c s.heap [] 0 0 (MQ below (mQR (some (.long r))) args s 0 0 (fun _ => False)) (F0 m 37 ls [.long s0]) := by
  have hx := X.ex
  have hb := X.by_
  unfold f_LabXyz_cubeOf_37 at hf
  obtain rfl := Option.some.inj hf
  exact r_lretR X d_LabXyz_cubeOf_37

set_option maxHeartbeats 4000000 in
set_option maxRecDepth 100000 in
theorem w_LabXyz_cubeOf {μ : mM} {r : Int64} (X : mX p m meth c s args b_LabXyz_cubeOf 2 (some .long) "ColourLinker$LabXyz") (G : mG D cA dA z0 s) (I : mI D cA z0 s μ s.heap [] s.heap.size) {ls : Array Slot} {x0 : Int64} (hf : f_LabXyz_cubeOf μ x0 = some r) (hl : lv_has ls 2 [(0, .long x0)]) : W p l e rm_LabXyz_cubeOf s m args below meth c s.heap [] 0 0 (MQ below (mQR (some (.long r))) args s 0 0 (fun _ => False)) (F0 m 0 ls []) := by
  have hx := X.ex
  have hb := X.by_
  unfold f_LabXyz_cubeOf at hf
  refine lv_lload_n hx hb d_LabXyz_cubeOf_0 rfl (lv_at hl 0 rfl) ?_
  refine lv_ldc2 (v := 3389) hx hb X.ow (X.w k_598) d_LabXyz_cubeOf_1 ?_
  refine r_lcle (tgt := 22) X d_LabXyz_cubeOf_4 d_LabXyz_cubeOf_5 (by decide) (fun hc => ?_) (fun hc => ?_)
  · have hf := mift hf hc
    refine lv_lload_n hx hb d_LabXyz_cubeOf_22 rfl (lv_at hl 0 rfl) ?_
    refine lv_ldc2 (v := 2260) hx hb X.ow (X.w k_578) d_LabXyz_cubeOf_23 ?_
    refine lv_lsub hx hb d_LabXyz_cubeOf_26 ?_
    refine lv_ldc2 (v := 216) hx hb X.ow (X.w k_577) d_LabXyz_cubeOf_27 ?_
    refine lv_lmul hx hb d_LabXyz_cubeOf_30 ?_
    refine lv_ldc2 (v := 841) hx hb X.ow (X.w k_576) d_LabXyz_cubeOf_31 ?_
    obtain ⟨q1, hv, hf⟩ := mbind hf
    refine m_caR (m_runSN (As := [.long ((x0 - (2260 : Int64)) * (216 : Int64)), .long (841 : Int64)]) (rest := []) X G h_CL_nearest k_570 (c_CL_nearest hv) mPr_blind (m_pre G I) rfl rfl hl.1 (Nat.le_of_ble_eq_true rfl) rfl rfl ⟨Nat.le_of_ble_eq_true rfl, Nat.le_of_ble_eq_true rfl⟩ ⟨Nat.le_refl _, Nat.le_refl _⟩ d_LabXyz_cubeOf_34) ?_
    exact w_LabXyz_cubeOf_37 X G I hf (lv_sub hl [] rfl)
  · have hf := miff hf hc
    refine lv_lload_n hx hb d_LabXyz_cubeOf_8 rfl (lv_at hl 0 rfl) ?_
    refine lv_lload_n hx hb d_LabXyz_cubeOf_9 rfl (lv_at hl 0 rfl) ?_
    refine lv_lmul hx hb d_LabXyz_cubeOf_10 ?_
    refine lv_lload_n hx hb d_LabXyz_cubeOf_11 rfl (lv_at hl 0 rfl) ?_
    refine lv_lmul hx hb d_LabXyz_cubeOf_12 ?_
    refine lv_ldc2 (v := 134217728) hx hb X.ow (X.w k_572) d_LabXyz_cubeOf_13 ?_
    obtain ⟨q2, hv, hf⟩ := mbind hf
    refine m_caR (m_runSN (As := [.long ((x0 * x0) * x0), .long (134217728 : Int64)]) (rest := []) X G h_CL_nearest k_570 (c_CL_nearest hv) mPr_blind (m_pre G I) rfl rfl hl.1 (Nat.le_of_ble_eq_true rfl) rfl rfl ⟨Nat.le_of_ble_eq_true rfl, Nat.le_of_ble_eq_true rfl⟩ ⟨Nat.le_refl _, Nat.le_refl _⟩ d_LabXyz_cubeOf_16) ?_
    refine lv_goto (tgt := 37) hx hb d_LabXyz_cubeOf_19 (by decide) ?_
    exact w_LabXyz_cubeOf_37 X G I hf (lv_sub hl [] rfl)

set_option maxHeartbeats 4000000 in
set_option maxRecDepth 100000 in
theorem c_LabXyz_cubeOf {l : Launch} {D : va_G} {cA : Nat → ClassId} {dA z0 : Nat} {μ : mM} {x0 : Int64} {r : Int64} (hf : f_LabXyz_cubeOf μ x0 = some r) : Met l y_LabXyz_cubeOf (mW y_LabXyz_cubeOf b_LabXyz_cubeOf 2 (some .long)) rm_LabXyz_cubeOf (va_Pc [.long x0] (mPr D cA dA z0 μ)) (mQR (some (.long r))) 0 0 (fun _ => False) := by
  refine Met.ofW (cc := b_LabXyz_cubeOf) (maxL := 2) (ret := (some .long)) (by decide) rfl ?_
  intro p e s m args below meth c s₁ B hml hv
  obtain ⟨rfl, G, hP⟩ := hv
  have X := mX.of B hml
  exact m_entry (lv := [(0, .long x0)]) (Nat.le_of_ble_eq_true rfl) rfl (fun ls hl => w_LabXyz_cubeOf X G (mI.start hP) hf hl)

abbrev rm_LabXyz_turnToXyz : Room := { frames := 3, cells := 0, slots := 0, locals := 73 }
theorem h_LabXyz_turnToXyz : mCS y_LabXyz_turnToXyz b_LabXyz_turnToXyz 7 none 1 := ⟨k_590, k_78, ⟨by decide, by decide, by decide +kernel⟩, k_589⟩
set_option maxHeartbeats 4000000 in
set_option maxRecDepth 100000 in
theorem w_LabXyz_turnToXyz {r : mM} (X : mX p m meth c s args b_LabXyz_turnToXyz 7 none "ColourLinker$LabXyz") (G : mG D cA dA z0 s) {H : Heap} {locs : List Loc} {μ : mM} {ls : Array Slot} {x0 : Option Nat} (I : mI D cA z0 s μ H locs s.heap.size) (hf : f_LabXyz_turnToXyz μ x0 = some r) (hl : lv_has ls 7 [(0, va_rf x0)]) : W p l e rm_LabXyz_turnToXyz s m args below meth c H locs 0 0 (MQ below (mQW D cA z0 none r) args s 0 0 (mA z0)) (F0 m 0 ls []) := by
  have hx := X.ex
  have hb := X.by_
  unfold f_LabXyz_turnToXyz at hf
  refine lv_ldc2 (v := 100) hx hb X.ow (X.w k_591) d_LabXyz_turnToXyz_0 ?_
  refine r_aload_n X d_LabXyz_turnToXyz_3 rfl (lv_at hl 0 rfl) ?_
  refine lv_iconst (v := 0) hx hb d_LabXyz_turnToXyz_4 (by decide) ?_
  obtain ⟨v1, hv, hf⟩ := mbind hf
  refine r_iald X G I hv d_LabXyz_turnToXyz_5 ?_
  refine lv_i2l hx hb d_LabXyz_turnToXyz_6 rfl ?_
  refine lv_lmul hx hb d_LabXyz_turnToXyz_7 ?_
  refine lv_ldc2 (v := 1048560) hx hb X.ow (X.w k_592) d_LabXyz_turnToXyz_8 ?_
  refine lv_ladd hx hb d_LabXyz_turnToXyz_11 ?_
  refine lv_ldc2 (v := 16384) hx hb X.ow (X.w k_586) d_LabXyz_turnToXyz_12 ?_
  refine lv_lmul hx hb d_LabXyz_turnToXyz_15 ?_
  refine lv_ldc2 (v := 7602060) hx hb X.ow (X.w k_593) d_LabXyz_turnToXyz_16 ?_
  obtain ⟨q2, hv, hf⟩ := mbind hf
  refine m_caR (m_runSN (As := [.long ((((100 : Int64) * (v1).toInt64) + (1048560 : Int64)) * (16384 : Int64)), .long (7602060 : Int64)]) (rest := []) X G h_CL_nearest k_570 (c_CL_nearest hv) mPr_blind (m_pre G I) rfl rfl hl.1 (Nat.le_of_ble_eq_true rfl) rfl rfl ⟨Nat.le_of_ble_eq_true rfl, Nat.le_of_ble_eq_true rfl⟩ ⟨Nat.le_refl _, Nat.le_refl _⟩ d_LabXyz_turnToXyz_19) ?_
  refine lv_lstore_n (i := 1) (lv' := [(1, .long q2), (0, va_rf x0)]) hx hb d_LabXyz_turnToXyz_22 rfl hl (by decide) (by simp [mrf_cat]) (fun ls hl => ?_)
  refine lv_lload_n hx hb d_LabXyz_turnToXyz_23 rfl (lv_at hl 0 rfl) ?_
  refine r_aload_n X d_LabXyz_turnToXyz_24 rfl (lv_at hl 1 rfl) ?_
  refine lv_iconst (v := 1) hx hb d_LabXyz_turnToXyz_25 (by decide) ?_
  obtain ⟨v3, hv, hf⟩ := mbind hf
  refine r_iald X G I hv d_LabXyz_turnToXyz_26 ?_
  refine lv_ldc (v := 32896) hx hb X.ow (X.w k_594) d_LabXyz_turnToXyz_27 ?_
  refine lv_isub hx hb d_LabXyz_turnToXyz_29 ?_
  refine lv_i2l hx hb d_LabXyz_turnToXyz_30 rfl ?_
  refine lv_ldc2 (v := 16384) hx hb X.ow (X.w k_586) d_LabXyz_turnToXyz_31 ?_
  refine lv_lmul hx hb d_LabXyz_turnToXyz_34 ?_
  refine lv_ldc2 (v := 128500) hx hb X.ow (X.w k_585) d_LabXyz_turnToXyz_35 ?_
  obtain ⟨q4, hv, hf⟩ := mbind hf
  refine m_caR (m_runSN (As := [.long (((v3 - (32896 : Int32))).toInt64 * (16384 : Int64)), .long (128500 : Int64)]) (rest := [.long q2]) X G h_CL_nearest k_570 (c_CL_nearest hv) mPr_blind (m_pre G I) rfl rfl hl.1 (Nat.le_of_ble_eq_true rfl) rfl rfl ⟨Nat.le_of_ble_eq_true rfl, Nat.le_of_ble_eq_true rfl⟩ ⟨Nat.le_refl _, Nat.le_refl _⟩ d_LabXyz_turnToXyz_38) ?_
  refine lv_ladd hx hb d_LabXyz_turnToXyz_41 ?_
  refine lv_lstore_n (i := 3) (lv' := [(3, .long (q2 + q4)), (1, .long q2), (0, va_rf x0)]) hx hb d_LabXyz_turnToXyz_42 rfl hl (by decide) rfl (fun ls hl => ?_)
  refine lv_lload_n hx hb d_LabXyz_turnToXyz_43 rfl (lv_at hl 1 rfl) ?_
  refine r_aload_n X d_LabXyz_turnToXyz_44 rfl (lv_at hl 2 rfl) ?_
  refine lv_iconst (v := 2) hx hb d_LabXyz_turnToXyz_45 (by decide) ?_
  obtain ⟨v5, hv, hf⟩ := mbind hf
  refine r_iald X G I hv d_LabXyz_turnToXyz_46 ?_
  refine lv_ldc (v := 32896) hx hb X.ow (X.w k_594) d_LabXyz_turnToXyz_47 ?_
  refine lv_isub hx hb d_LabXyz_turnToXyz_49 ?_
  refine lv_i2l hx hb d_LabXyz_turnToXyz_50 rfl ?_
  refine lv_ldc2 (v := 16384) hx hb X.ow (X.w k_586) d_LabXyz_turnToXyz_51 ?_
  refine lv_lmul hx hb d_LabXyz_turnToXyz_54 ?_
  refine lv_ldc2 (v := 51400) hx hb X.ow (X.w k_587) d_LabXyz_turnToXyz_55 ?_
  obtain ⟨q6, hv, hf⟩ := mbind hf
  refine m_caR (m_runSN (As := [.long (((v5 - (32896 : Int32))).toInt64 * (16384 : Int64)), .long (51400 : Int64)]) (rest := [.long q2]) X G h_CL_nearest k_570 (c_CL_nearest hv) mPr_blind (m_pre G I) rfl rfl hl.1 (Nat.le_of_ble_eq_true rfl) rfl rfl ⟨Nat.le_of_ble_eq_true rfl, Nat.le_of_ble_eq_true rfl⟩ ⟨Nat.le_refl _, Nat.le_refl _⟩ d_LabXyz_turnToXyz_58) ?_
  refine lv_lsub hx hb d_LabXyz_turnToXyz_61 ?_
  refine lv_lstore (i := 5) (lv' := [(5, .long (q2 - q6)), (3, .long (q2 + q4)), (1, .long q2), (0, va_rf x0)]) hx hb d_LabXyz_turnToXyz_62 hl (by decide) rfl (fun ls hl => ?_)
  refine r_aload_n X d_LabXyz_turnToXyz_64 rfl (lv_at hl 3 rfl) ?_
  refine lv_iconst (v := 0) hx hb d_LabXyz_turnToXyz_65 (by decide) ?_
  refine r_getsN X G I k_565 rfl d_LabXyz_turnToXyz_66 ?_
  refine lv_iconst (v := 0) hx hb d_LabXyz_turnToXyz_69 (by decide) ?_
  obtain ⟨v7, hv, hf⟩ := mbind hf
  refine r_ti X G I hv d_LabXyz_turnToXyz_70 ?_
  refine lv_i2l hx hb d_LabXyz_turnToXyz_71 rfl ?_
  refine lv_lload_n hx hb d_LabXyz_turnToXyz_72 rfl (lv_at hl 1 rfl) ?_
  obtain ⟨q8, hv, hf⟩ := mbind hf
  refine m_caR (m_runS (As := [.long (q2 + q4)]) (rest := [.long ((v7).toInt64), .int (0 : Int32), va_rf x0]) X h_LabXyz_cubeOf k_595 (c_LabXyz_cubeOf hv) mPr_blind (m_pre G I) rfl rfl hl.1 (Nat.le_of_ble_eq_true rfl) rfl rfl ⟨Nat.le_of_ble_eq_true rfl, Nat.le_of_ble_eq_true rfl⟩ ⟨Nat.le_refl _, Nat.le_refl _⟩ d_LabXyz_turnToXyz_73) ?_
  refine lv_lmul hx hb d_LabXyz_turnToXyz_76 ?_
  refine lv_ldc2 (v := 32768) hx hb X.ow (X.w k_569) d_LabXyz_turnToXyz_77 ?_
  obtain ⟨q9, hv, hf⟩ := mbind hf
  refine m_caR (m_runSN (As := [.long ((v7).toInt64 * q8), .long (32768 : Int64)]) (rest := [.int (0 : Int32), va_rf x0]) X G h_CL_nearest k_570 (c_CL_nearest hv) mPr_blind (m_pre G I) rfl rfl hl.1 (Nat.le_of_ble_eq_true rfl) rfl rfl ⟨Nat.le_of_ble_eq_true rfl, Nat.le_of_ble_eq_true rfl⟩ ⟨Nat.le_refl _, Nat.le_refl _⟩ d_LabXyz_turnToXyz_80) ?_
  obtain ⟨q10, hv, hf⟩ := mbind hf
  refine m_caR (m_runSN (As := [.long q9]) (rest := [.int (0 : Int32), va_rf x0]) X G h_CL_clip k_583 (c_CL_clip hv) mPr_blind (m_pre G I) rfl rfl hl.1 (Nat.le_of_ble_eq_true rfl) rfl rfl ⟨Nat.le_of_ble_eq_true rfl, Nat.le_of_ble_eq_true rfl⟩ ⟨Nat.le_refl _, Nat.le_refl _⟩ d_LabXyz_turnToXyz_83) ?_
  obtain ⟨m11, hv, hf⟩ := mbind hf
  refine r_iast X G I hv d_LabXyz_turnToXyz_86 (fun H locs I => ?_)
  refine r_aload_n X d_LabXyz_turnToXyz_87 rfl (lv_at hl 3 rfl) ?_
  refine lv_iconst (v := 1) hx hb d_LabXyz_turnToXyz_88 (by decide) ?_
  refine lv_lload_n hx hb d_LabXyz_turnToXyz_89 rfl (lv_at hl 2 rfl) ?_
  obtain ⟨q12, hv, hf⟩ := mbind hf
  refine m_caR (m_runS (As := [.long q2]) (rest := [.int (1 : Int32), va_rf x0]) X h_LabXyz_cubeOf k_595 (c_LabXyz_cubeOf hv) mPr_blind (m_pre G I) rfl rfl hl.1 (Nat.le_of_ble_eq_true rfl) rfl rfl ⟨Nat.le_of_ble_eq_true rfl, Nat.le_of_ble_eq_true rfl⟩ ⟨Nat.le_refl _, Nat.le_refl _⟩ d_LabXyz_turnToXyz_90) ?_
  obtain ⟨q13, hv, hf⟩ := mbind hf
  refine m_caR (m_runSN (As := [.long q12]) (rest := [.int (1 : Int32), va_rf x0]) X G h_CL_clip k_583 (c_CL_clip hv) mPr_blind (m_pre G I) rfl rfl hl.1 (Nat.le_of_ble_eq_true rfl) rfl rfl ⟨Nat.le_of_ble_eq_true rfl, Nat.le_of_ble_eq_true rfl⟩ ⟨Nat.le_refl _, Nat.le_refl _⟩ d_LabXyz_turnToXyz_93) ?_
  obtain ⟨m14, hv, hf⟩ := mbind hf
  refine r_iast X G I hv d_LabXyz_turnToXyz_96 (fun H locs I => ?_)
  refine r_aload_n X d_LabXyz_turnToXyz_97 rfl (lv_at hl 3 rfl) ?_
  refine lv_iconst (v := 2) hx hb d_LabXyz_turnToXyz_98 (by decide) ?_
  refine r_getsN X G I k_565 rfl d_LabXyz_turnToXyz_99 ?_
  refine lv_iconst (v := 2) hx hb d_LabXyz_turnToXyz_102 (by decide) ?_
  obtain ⟨v15, hv, hf⟩ := mbind hf
  refine r_ti X G I hv d_LabXyz_turnToXyz_103 ?_
  refine lv_i2l hx hb d_LabXyz_turnToXyz_104 rfl ?_
  refine lv_lload hx hb d_LabXyz_turnToXyz_105 (lv_at hl 0 rfl) ?_
  obtain ⟨q16, hv, hf⟩ := mbind hf
  refine m_caR (m_runS (As := [.long (q2 - q6)]) (rest := [.long ((v15).toInt64), .int (2 : Int32), va_rf x0]) X h_LabXyz_cubeOf k_595 (c_LabXyz_cubeOf hv) mPr_blind (m_pre G I) rfl rfl hl.1 (Nat.le_of_ble_eq_true rfl) rfl rfl ⟨Nat.le_of_ble_eq_true rfl, Nat.le_of_ble_eq_true rfl⟩ ⟨Nat.le_refl _, Nat.le_refl _⟩ d_LabXyz_turnToXyz_107) ?_
  refine lv_lmul hx hb d_LabXyz_turnToXyz_110 ?_
  refine lv_ldc2 (v := 32768) hx hb X.ow (X.w k_569) d_LabXyz_turnToXyz_111 ?_
  obtain ⟨q17, hv, hf⟩ := mbind hf
  refine m_caR (m_runSN (As := [.long ((v15).toInt64 * q16), .long (32768 : Int64)]) (rest := [.int (2 : Int32), va_rf x0]) X G h_CL_nearest k_570 (c_CL_nearest hv) mPr_blind (m_pre G I) rfl rfl hl.1 (Nat.le_of_ble_eq_true rfl) rfl rfl ⟨Nat.le_of_ble_eq_true rfl, Nat.le_of_ble_eq_true rfl⟩ ⟨Nat.le_refl _, Nat.le_refl _⟩ d_LabXyz_turnToXyz_114) ?_
  obtain ⟨q18, hv, hf⟩ := mbind hf
  refine m_caR (m_runSN (As := [.long q17]) (rest := [.int (2 : Int32), va_rf x0]) X G h_CL_clip k_583 (c_CL_clip hv) mPr_blind (m_pre G I) rfl rfl hl.1 (Nat.le_of_ble_eq_true rfl) rfl rfl ⟨Nat.le_of_ble_eq_true rfl, Nat.le_of_ble_eq_true rfl⟩ ⟨Nat.le_refl _, Nat.le_refl _⟩ d_LabXyz_turnToXyz_117) ?_
  obtain ⟨m19, hv, hf⟩ := mbind hf
  refine r_iast X G I hv d_LabXyz_turnToXyz_120 (fun H locs I => ?_)
  obtain rfl := Option.some.inj hf
  exact r_vretW X I d_LabXyz_turnToXyz_121

set_option maxHeartbeats 4000000 in
set_option maxRecDepth 100000 in
theorem c_LabXyz_turnToXyz {l : Launch} {D : va_G} {cA : Nat → ClassId} {dA z0 : Nat} {μ : mM} {x0 : Option Nat} {r : mM} (hf : f_LabXyz_turnToXyz μ x0 = some r) : Met l y_LabXyz_turnToXyz (mW y_LabXyz_turnToXyz b_LabXyz_turnToXyz 7 none) rm_LabXyz_turnToXyz (va_Pc [va_rf x0] (mPr D cA dA z0 μ)) (mQW D cA z0 none r) 0 0 (mA z0) := by
  refine Met.ofW (cc := b_LabXyz_turnToXyz) (maxL := 7) (ret := none) (by decide) rfl ?_
  intro p e s m args below meth c s₁ B hml hv
  obtain ⟨rfl, G, hP⟩ := hv
  have X := mX.of B hml
  exact m_entry (lv := [(0, va_rf x0)]) (by simp [lg_sl, mrf_cat, mc_int, mc_long, mc_ref]) (by simp [lv_args, mrf_cat, mc_int, mc_long, mc_ref, mrf_some]) (fun ls hl => w_LabXyz_turnToXyz X G (mI.start hP) hf hl)

abbrev rm_LabXyz_run : Room := { frames := 4, cells := 0, slots := 0, locals := 103 }
-- no selects word for LabXyz_run
set_option maxHeartbeats 4000000 in
set_option maxRecDepth 100000 in
theorem w_LabXyz_run_19 {h0 : Nat} {r : mM} (X : mX p m meth c s args b_LabXyz_run 2 none "ColourLinker$LabXyz") (G : mG D cA dA z0 s) {H : Heap} {locs : List Loc} {μ : mM} {ls : Array Slot}  (I : mI D cA z0 s μ H locs s.heap.size) (hf : f_LabXyz_run_19 h0 μ = some r) (hl : lv_has ls 2 [(0, va_rf (some h0))]) : W p l e rm_LabXyz_run s m args below meth c H locs 0 0 (MQ below (mQW D cA z0 none r) args s 0 0 (mA z0)) (F0 m 19 ls []) := by
  have hx := X.ex
  have hb := X.by_
  unfold f_LabXyz_run_19 at hf
  obtain rfl := Option.some.inj hf
  exact r_vretW X I d_LabXyz_run_19

set_option maxHeartbeats 4000000 in
set_option maxRecDepth 100000 in
theorem w_LabXyz_run {h0 : Nat} {r : mM} (X : mX p m meth c s args b_LabXyz_run 2 none "ColourLinker$LabXyz") (G : mG D cA dA z0 s) {H : Heap} {locs : List Loc} {μ : mM} {ls : Array Slot} {x1 : Option Nat} (I : mI D cA z0 s μ H locs s.heap.size) (hf : f_LabXyz_run h0 μ x1 = some r) (hl : lv_has ls 2 [(0, va_rf (some h0)), (1, va_rf x1)]) : W p l e rm_LabXyz_run s m args below meth c H locs 0 0 (MQ below (mQW D cA z0 none r) args s 0 0 (mA z0)) (F0 m 0 ls []) := by
  have hx := X.ex
  have hb := X.by_
  unfold f_LabXyz_run at hf
  refine r_aload_n X d_LabXyz_run_0 rfl (lv_at hl 0 rfl) ?_
  obtain ⟨v1, hv, hf⟩ := mbind hf
  refine r_getf X G I (mfI_e hv) o_Piece_kind_4 k_130 (Or.inr k_131) d_LabXyz_run_1 ?_
  refine lv_iconst (v := 5) hx hb d_LabXyz_run_4 (by decide) ?_
  refine lv_icmp_ne (tgt := 15) hx hb d_LabXyz_run_5 (by decide) (fun hc => ?_) (fun hc => ?_)
  · have hf := miff hf hc
    refine r_aload_n X d_LabXyz_run_15 rfl (lv_at hl 1 rfl) ?_
    obtain ⟨q2, hv, hf⟩ := mbind hf
    refine m_caWv (m_runS (As := [va_rf x1]) (rest := []) X h_LabXyz_turnToXyz k_588 (c_LabXyz_turnToXyz hv) mPr_blind (m_pre G I) rfl rfl hl.1 (Nat.le_of_ble_eq_true rfl) rfl rfl ⟨Nat.le_of_ble_eq_true rfl, Nat.le_of_ble_eq_true rfl⟩ ⟨Nat.le_refl _, Nat.le_refl _⟩ d_LabXyz_run_16) I (fun H locs I => ?_)
    exact w_LabXyz_run_19 X G I hf (lv_sub hl [0] rfl)
  · have hf := mift hf hc
    refine r_aload_n X d_LabXyz_run_8 rfl (lv_at hl 1 rfl) ?_
    obtain ⟨q3, hv, hf⟩ := mbind hf
    refine m_caWv (m_runS (As := [va_rf x1]) (rest := []) X h_LabXyz_turnToLab k_562 (c_LabXyz_turnToLab hv) mPr_blind (m_pre G I) rfl rfl hl.1 (Nat.le_of_ble_eq_true rfl) rfl rfl ⟨Nat.le_of_ble_eq_true rfl, Nat.le_of_ble_eq_true rfl⟩ ⟨Nat.le_refl _, Nat.le_refl _⟩ d_LabXyz_run_9) I (fun H locs I => ?_)
    refine lv_goto (tgt := 19) hx hb d_LabXyz_run_12 (by decide) ?_
    exact w_LabXyz_run_19 X G I hf (lv_sub hl [0] rfl)

set_option maxHeartbeats 4000000 in
set_option maxRecDepth 100000 in
theorem c_LabXyz_run {l : Launch} {D : va_G} {cA : Nat → ClassId} {dA z0 : Nat} {μ : mM} {h0 : Nat} {x1 : Option Nat} {r : mM} (hf : f_LabXyz_run h0 μ x1 = some r) : Met l y_LabXyz_run (mW y_LabXyz_run b_LabXyz_run 2 none) rm_LabXyz_run (va_Pc [.ref h0, va_rf x1] (mPr D cA dA z0 μ)) (mQW D cA z0 none r) 0 0 (mA z0) := by
  refine Met.ofW (cc := b_LabXyz_run) (maxL := 2) (ret := none) (by decide) rfl ?_
  intro p e s m args below meth c s₁ B hml hv
  obtain ⟨rfl, G, hP⟩ := hv
  have X := mX.of B hml
  exact m_entry (lv := [(0, va_rf (some h0)), (1, va_rf x1)]) (by simp [lg_sl, mrf_cat, mc_int, mc_long, mc_ref]) (by simp [lv_args, mrf_cat, mc_int, mc_long, mc_ref, mrf_some]) (fun ls hl => w_LabXyz_run X G (mI.start hP) hf hl)

abbrev rm_Matrix_run : Room := { frames := 2, cells := 0, slots := 0, locals := 52 }
-- no selects word for Matrix_run
set_option maxHeartbeats 4000000 in
set_option maxRecDepth 100000 in
theorem w_Matrix_run_91 {h0 : Nat} {r : mM} (X : mX p m meth c s args b_Matrix_run 11 none "ColourLinker$Matrix") (G : mG D cA dA z0 s) {H : Heap} {locs : List Loc} {μ : mM} {ls : Array Slot}  (I : mI D cA z0 s μ H locs s.heap.size) (hf : f_Matrix_run_91 h0 μ = some r) (hl : lv_has ls 11 [(0, va_rf (some h0))]) : W p l e rm_Matrix_run s m args below meth c H locs 0 0 (MQ below (mQW D cA z0 none r) args s 0 0 (mA z0)) (F0 m 91 ls []) := by
  have hx := X.ex
  have hb := X.by_
  unfold f_Matrix_run_91 at hf
  obtain rfl := Option.some.inj hf
  exact r_vretW X I d_Matrix_run_91

set_option maxHeartbeats 4000000 in
set_option maxRecDepth 100000 in
theorem w_Matrix_run_20 {h0 : Nat} {r : mM} (X : mX p m meth c s args b_Matrix_run 11 none "ColourLinker$Matrix") (G : mG D cA dA z0 s) {kx91 : mM → Option (mM)} (hkx91 : ∀ (H : Heap) (locs : List Loc) (μ : mM) (ls : Array Slot), mI D cA z0 s μ H locs s.heap.size → kx91 μ = some r → lv_has ls 11 [(0, va_rf (some h0))] → W p l e rm_Matrix_run s m args below meth c H locs 0 0 (MQ below (mQW D cA z0 none r) args s 0 0 (mA z0)) (F0 m 91 ls [])) : ∀ (n : Nat) (H : Heap) (locs : List Loc) (μ : mM) (ls : Array Slot) (x1 : Option Nat) (x2 : Int64) (x4 : Int64) (x6 : Int64) (x8 : Int32), mI D cA z0 s μ H locs s.heap.size → f_Matrix_run_20 h0 kx91 n μ x1 x2 x4 x6 x8 = some r → lv_has ls 11 [(0, va_rf (some h0)), (1, va_rf x1), (2, .long x2), (4, .long x4), (6, .long x6), (8, .int x8)] → W p l e rm_Matrix_run s m args below meth c H locs 0 0 (MQ below (mQW D cA z0 none r) args s 0 0 (mA z0)) (F0 m 20 ls []) := by
  have hx := X.ex
  have hb := X.by_
  intro n
  induction n with
  | zero => intro H locs μ ls x1 x2 x4 x6 x8 I hf hl; rw [f_Matrix_run_20] at hf; cases hf
  | succ n ih =>
    intro H locs μ ls x1 x2 x4 x6 x8 I hf hl
    rw [f_Matrix_run_20] at hf
    refine lv_iload hx hb d_Matrix_run_20 (lv_at hl 5 rfl) ?_
    refine lv_iconst (v := 3) hx hb d_Matrix_run_22 (by decide) ?_
    refine lv_icmp_ge (tgt := 91) hx hb d_Matrix_run_23 (by decide) (fun hc => ?_) (fun hc => ?_)
    · have hf := mift hf hc
      exact hkx91 _ _ _ _ I hf (lv_sub hl [0] rfl)
    · have hf := miff hf hc
      refine r_aload_n X d_Matrix_run_26 rfl (lv_at hl 0 rfl) ?_
      obtain ⟨v4, hv, hf⟩ := mbind hf
      refine r_getf X G I (mfA_e hv) o_Matrix_factors k_380 (Or.inl rfl) d_Matrix_run_27 ?_
      refine lv_iconst (v := 3) hx hb d_Matrix_run_30 (by decide) ?_
      refine lv_iload hx hb d_Matrix_run_31 (lv_at hl 5 rfl) ?_
      refine lv_imul hx hb d_Matrix_run_33 ?_
      obtain ⟨v5, hv, hf⟩ := mbind hf
      refine r_lald X G I hv d_Matrix_run_34 ?_
      refine lv_lload_n hx hb d_Matrix_run_35 rfl (lv_at hl 2 rfl) ?_
      refine lv_lmul hx hb d_Matrix_run_36 ?_
      refine r_aload_n X d_Matrix_run_37 rfl (lv_at hl 0 rfl) ?_
      obtain ⟨v6, hv, hf⟩ := mbind hf
      refine r_getf X G I (mfA_e hv) o_Matrix_factors k_380 (Or.inl rfl) d_Matrix_run_38 ?_
      refine lv_iconst (v := 3) hx hb d_Matrix_run_41 (by decide) ?_
      refine lv_iload hx hb d_Matrix_run_42 (lv_at hl 5 rfl) ?_
      refine lv_imul hx hb d_Matrix_run_44 ?_
      refine lv_iconst (v := 1) hx hb d_Matrix_run_45 (by decide) ?_
      refine lv_iadd hx hb d_Matrix_run_46 ?_
      obtain ⟨v7, hv, hf⟩ := mbind hf
      refine r_lald X G I hv d_Matrix_run_47 ?_
      refine lv_lload hx hb d_Matrix_run_48 (lv_at hl 3 rfl) ?_
      refine lv_lmul hx hb d_Matrix_run_50 ?_
      refine lv_ladd hx hb d_Matrix_run_51 ?_
      refine r_aload_n X d_Matrix_run_52 rfl (lv_at hl 0 rfl) ?_
      obtain ⟨v8, hv, hf⟩ := mbind hf
      refine r_getf X G I (mfA_e hv) o_Matrix_factors k_380 (Or.inl rfl) d_Matrix_run_53 ?_
      refine lv_iconst (v := 3) hx hb d_Matrix_run_56 (by decide) ?_
      refine lv_iload hx hb d_Matrix_run_57 (lv_at hl 5 rfl) ?_
      refine lv_imul hx hb d_Matrix_run_59 ?_
      refine lv_iconst (v := 2) hx hb d_Matrix_run_60 (by decide) ?_
      refine lv_iadd hx hb d_Matrix_run_61 ?_
      obtain ⟨v9, hv, hf⟩ := mbind hf
      refine r_lald X G I hv d_Matrix_run_62 ?_
      refine lv_lload hx hb d_Matrix_run_63 (lv_at hl 4 rfl) ?_
      refine lv_lmul hx hb d_Matrix_run_65 ?_
      refine lv_ladd hx hb d_Matrix_run_66 ?_
      refine lv_lstore (i := 9) (lv' := [(9, .long (((v5 * x2) + (v7 * x4)) + (v9 * x6))), (0, va_rf (some h0)), (1, va_rf x1), (2, .long x2), (4, .long x4), (6, .long x6), (8, .int x8)]) hx hb d_Matrix_run_67 hl (by decide) rfl (fun ls hl => ?_)
      refine r_aload_n X d_Matrix_run_69 rfl (lv_at hl 2 rfl) ?_
      refine lv_iload hx hb d_Matrix_run_70 (lv_at hl 6 rfl) ?_
      refine lv_lload hx hb d_Matrix_run_72 (lv_at hl 0 rfl) ?_
      refine r_aload_n X d_Matrix_run_74 rfl (lv_at hl 1 rfl) ?_
      obtain ⟨v10, hv, hf⟩ := mbind hf
      refine r_getf X G I (mfJ_e hv) o_Matrix_divisor k_381 (Or.inl rfl) d_Matrix_run_75 ?_
      obtain ⟨q11, hv, hf⟩ := mbind hf
      refine m_caR (m_runSN (As := [.long (((v5 * x2) + (v7 * x4)) + (v9 * x6)), .long v10]) (rest := [.int x8, va_rf x1]) X G h_CL_nearest k_602 (c_CL_nearest hv) mPr_blind (m_pre G I) rfl rfl hl.1 (Nat.le_of_ble_eq_true rfl) rfl rfl ⟨Nat.le_of_ble_eq_true rfl, Nat.le_of_ble_eq_true rfl⟩ ⟨Nat.le_refl _, Nat.le_refl _⟩ d_Matrix_run_78) ?_
      obtain ⟨q12, hv, hf⟩ := mbind hf
      refine m_caR (m_runSN (As := [.long q11]) (rest := [.int x8, va_rf x1]) X G h_CL_clip k_603 (c_CL_clip hv) mPr_blind (m_pre G I) rfl rfl hl.1 (Nat.le_of_ble_eq_true rfl) rfl rfl ⟨Nat.le_of_ble_eq_true rfl, Nat.le_of_ble_eq_true rfl⟩ ⟨Nat.le_refl _, Nat.le_refl _⟩ d_Matrix_run_81) ?_
      obtain ⟨m13, hv, hf⟩ := mbind hf
      refine r_iast X G I hv d_Matrix_run_84 (fun H locs I => ?_)
      refine lv_iinc (i := 8) (k := 6) (v := (x8 + (1 : Int32))) (lv' := [(8, .int (x8 + (1 : Int32))), (9, .long (((v5 * x2) + (v7 * x4)) + (v9 * x6))), (0, va_rf (some h0)), (1, va_rf x1), (2, .long x2), (4, .long x4), (6, .long x6)]) hx hb d_Matrix_run_85 hl rfl (congrArg (fun t => x8 + t) (by decide : Int32.ofInt (1) = (1 : Int32))) (by decide) rfl (fun ls hl => ?_)
      refine lv_goto (tgt := 20) hx hb d_Matrix_run_88 (by decide) ?_
      exact ih _ _ _ _ _ _ _ _ _ I hf (lv_sub hl [2, 3, 4, 5, 6, 0] rfl)

set_option maxHeartbeats 4000000 in
set_option maxRecDepth 100000 in
theorem w_Matrix_run {h0 : Nat} {r : mM} (X : mX p m meth c s args b_Matrix_run 11 none "ColourLinker$Matrix") (G : mG D cA dA z0 s) {H : Heap} {locs : List Loc} {μ : mM} {ls : Array Slot} {x1 : Option Nat} (I : mI D cA z0 s μ H locs s.heap.size) (hf : f_Matrix_run h0 μ x1 = some r) (hl : lv_has ls 11 [(0, va_rf (some h0)), (1, va_rf x1)]) : W p l e rm_Matrix_run s m args below meth c H locs 0 0 (MQ below (mQW D cA z0 none r) args s 0 0 (mA z0)) (F0 m 0 ls []) := by
  have hx := X.ex
  have hb := X.by_
  unfold f_Matrix_run at hf
  refine r_aload_n X d_Matrix_run_0 rfl (lv_at hl 1 rfl) ?_
  refine lv_iconst (v := 0) hx hb d_Matrix_run_1 (by decide) ?_
  obtain ⟨v1, hv, hf⟩ := mbind hf
  refine r_iald X G I hv d_Matrix_run_2 ?_
  refine lv_i2l hx hb d_Matrix_run_3 rfl ?_
  refine lv_lstore_n (i := 2) (lv' := [(2, .long ((v1).toInt64)), (0, va_rf (some h0)), (1, va_rf x1)]) hx hb d_Matrix_run_4 rfl hl (by decide) (by simp [mrf_cat]) (fun ls hl => ?_)
  refine r_aload_n X d_Matrix_run_5 rfl (lv_at hl 2 rfl) ?_
  refine lv_iconst (v := 1) hx hb d_Matrix_run_6 (by decide) ?_
  obtain ⟨v2, hv, hf⟩ := mbind hf
  refine r_iald X G I hv d_Matrix_run_7 ?_
  refine lv_i2l hx hb d_Matrix_run_8 rfl ?_
  refine lv_lstore (i := 4) (lv' := [(4, .long ((v2).toInt64)), (2, .long ((v1).toInt64)), (0, va_rf (some h0)), (1, va_rf x1)]) hx hb d_Matrix_run_9 hl (by decide) rfl (fun ls hl => ?_)
  refine r_aload_n X d_Matrix_run_11 rfl (lv_at hl 3 rfl) ?_
  refine lv_iconst (v := 2) hx hb d_Matrix_run_12 (by decide) ?_
  obtain ⟨v3, hv, hf⟩ := mbind hf
  refine r_iald X G I hv d_Matrix_run_13 ?_
  refine lv_i2l hx hb d_Matrix_run_14 rfl ?_
  refine lv_lstore (i := 6) (lv' := [(6, .long ((v3).toInt64)), (4, .long ((v2).toInt64)), (2, .long ((v1).toInt64)), (0, va_rf (some h0)), (1, va_rf x1)]) hx hb d_Matrix_run_15 hl (by decide) rfl (fun ls hl => ?_)
  refine lv_iconst (v := 0) hx hb d_Matrix_run_17 (by decide) ?_
  refine lv_istore (i := 8) (lv' := [(8, .int (0 : Int32)), (6, .long ((v3).toInt64)), (4, .long ((v2).toInt64)), (2, .long ((v1).toInt64)), (0, va_rf (some h0)), (1, va_rf x1)]) hx hb d_Matrix_run_18 hl (by decide) rfl (fun ls hl => ?_)
  exact w_Matrix_run_20 X G (fun H locs μ ls I hf hl => w_Matrix_run_91 X G I hf hl) 4096 _ _ _ _ _ _ _ _ _ I hf (lv_sub hl [4, 5, 3, 2, 1, 0] rfl)

set_option maxHeartbeats 4000000 in
set_option maxRecDepth 100000 in
theorem c_Matrix_run {l : Launch} {D : va_G} {cA : Nat → ClassId} {dA z0 : Nat} {μ : mM} {h0 : Nat} {x1 : Option Nat} {r : mM} (hf : f_Matrix_run h0 μ x1 = some r) : Met l y_Matrix_run (mW y_Matrix_run b_Matrix_run 11 none) rm_Matrix_run (va_Pc [.ref h0, va_rf x1] (mPr D cA dA z0 μ)) (mQW D cA z0 none r) 0 0 (mA z0) := by
  refine Met.ofW (cc := b_Matrix_run) (maxL := 11) (ret := none) (by decide) rfl ?_
  intro p e s m args below meth c s₁ B hml hv
  obtain ⟨rfl, G, hP⟩ := hv
  have X := mX.of B hml
  exact m_entry (lv := [(0, va_rf (some h0)), (1, va_rf x1)]) (by simp [lg_sl, mrf_cat, mc_int, mc_long, mc_ref]) (by simp [lv_args, mrf_cat, mc_int, mc_long, mc_ref, mrf_some]) (fun ls hl => w_Matrix_run X G (mI.start hP) hf hl)

set_option maxHeartbeats 4000000 in
set_option maxRecDepth 100000 in
theorem m_run_Piece_run {R : Room} {H : Heap} {locs : List Loc} {cells slots pc nL z ix : Nat} {cc : ByteArray} {ls : Array Slot} {rest st : List Value} {own : String} {ret : Option FieldType} {μ μ' : mM} (X : mX p m meth c s args cc nL ret own) (G : mG D cA dA z0 s) (I : mI D cA z0 s μ H locs z) {a : Nat} {x1 r : Option Nat} (hv : f_Piece_run a μ x1 = some μ') (ha : r = some a) (hl : Cond.methodLink own ix y_Piece_run ∈ mT) (hst : st = [va_rf x1].reverse ++ va_rf r :: rest) (hls : ls.size = nL) (hW : rest.length ≤ 4) (hf : cells + 0 ≤ R.cells ∧ slots + 0 ≤ R.slots) (hF : 6 ≤ R.frames) (hL : 143 ≤ R.locals) (hd : decode cc pc = .ok (.invokevirtual ix, 3)) : va_Run p l e R s m args below meth c H locs cells slots 0 0 (F0 m pc ls st) rest (mQW D cA z0 none μ' (Value.ref a :: [va_rf x1]).toArray) (mA z0) := by
  unfold f_Piece_run at hv
  split at hv
  · rename_i fs hm
    exact m_runA (k := 1) (x := y_Piece_run) (owner := "ColourLinker$Piece") (As := [va_rf x1]) X G I k_454 k_89 k_453 k_452 hl k_451 k_450 ⟨by decide, by decide, by decide +kernel⟩ (c_Adjust_run hv) mPr_blind (m_pre G I) hm rfl ha hst rfl hls hW rfl rfl ⟨by show 3 + 1 ≤ R.frames; omega, by show 8 + (3 + 11) + 75 ≤ R.locals; omega⟩ hf hd
  · rename_i fs hm
    exact m_runA (k := 1) (x := y_Piece_run) (owner := "ColourLinker$Piece") (As := [va_rf x1]) X G I k_489 k_86 k_488 k_487 hl k_451 k_450 ⟨by decide, by decide, by decide +kernel⟩ (c_Curves_run hv) mPr_blind (m_pre G I) hm rfl ha hst rfl hls hW rfl rfl ⟨by show 5 + 1 ≤ R.frames; omega, by show 8 + (3 + 11) + 121 ≤ R.locals; omega⟩ hf hd
  · rename_i fs hm
    exact m_runA (k := 1) (x := y_Piece_run) (owner := "ColourLinker$Piece") (As := [va_rf x1]) X G I k_520 k_87 k_519 k_518 hl k_451 k_450 ⟨by decide, by decide, by decide +kernel⟩ (c_Gray_run hv) mPr_blind (m_pre G I) hm rfl ha hst rfl hls hW rfl rfl ⟨by show 3 + 1 ≤ R.frames; omega, by show 8 + (2 + 11) + 76 ≤ R.locals; omega⟩ hf hd
  · rename_i fs hm
    exact m_runA (k := 1) (x := y_Piece_run) (owner := "ColourLinker$Piece") (As := [va_rf x1]) X G I k_537 k_85 k_536 k_535 hl k_451 k_450 ⟨by decide, by decide, by decide +kernel⟩ (c_Grid_run hv) mPr_blind (m_pre G I) hm rfl ha hst rfl hls hW rfl rfl ⟨by show 2 + 1 ≤ R.frames; omega, by show 8 + (20 + 11) + 52 ≤ R.locals; omega⟩ hf hd
  · rename_i fs hm
    exact m_runA (k := 1) (x := y_Piece_run) (owner := "ColourLinker$Piece") (As := [va_rf x1]) X G I k_561 k_78 k_560 k_559 hl k_451 k_450 ⟨by decide, by decide, by decide +kernel⟩ (c_LabXyz_run hv) mPr_blind (m_pre G I) hm rfl ha hst rfl hls hW rfl rfl ⟨by show 4 + 1 ≤ R.frames; omega, by show 8 + (2 + 11) + 103 ≤ R.locals; omega⟩ hf hd
  · rename_i fs hm
    exact m_runA (k := 1) (x := y_Piece_run) (owner := "ColourLinker$Piece") (As := [va_rf x1]) X G I k_601 k_88 k_600 k_599 hl k_451 k_450 ⟨by decide, by decide, by decide +kernel⟩ (c_Matrix_run hv) mPr_blind (m_pre G I) hm rfl ha hst rfl hls hW rfl rfl ⟨by show 2 + 1 ≤ R.frames; omega, by show 8 + (11 + 11) + 52 ≤ R.locals; omega⟩ hf hd
  · cases hv

abbrev rm_Profile_space : Room := { frames := 0, cells := 0, slots := 0, locals := 0 }
theorem h_Profile_space : mCV y_Profile_space b_Profile_space 1 (some .int) 0 := ⟨k_607, k_80, ⟨by decide, by decide, by decide +kernel⟩, k_605, k_606⟩
set_option maxHeartbeats 4000000 in
set_option maxRecDepth 100000 in
theorem w_Profile_space {μ : mM} {h0 : Nat} {r : Int32} (X : mX p m meth c s args b_Profile_space 1 (some .int) "ColourLinker$Profile") (G : mG D cA dA z0 s) (I : mI D cA z0 s μ s.heap [] s.heap.size) {ls : Array Slot}  (hf : f_Profile_space μ h0 = some r) (hl : lv_has ls 1 [(0, va_rf (some h0))]) : W p l e rm_Profile_space s m args below meth c s.heap [] 0 0 (MQ below (mQR (some (.int r))) args s 0 0 (fun _ => False)) (F0 m 0 ls []) := by
  have hx := X.ex
  have hb := X.by_
  unfold f_Profile_space at hf
  refine r_aload_n X d_Profile_space_0 rfl (lv_at hl 0 rfl) ?_
  obtain ⟨v1, hv, hf⟩ := mbind hf
  refine r_getf X G I (mfA_e hv) o_Profile_plain k_396 (Or.inl rfl) d_Profile_space_1 ?_
  refine lv_iconst (v := 4) hx hb d_Profile_space_4 (by decide) ?_
  obtain ⟨v2, hv, hf⟩ := mbind hf
  refine r_iald X G I hv d_Profile_space_5 ?_
  obtain rfl := Option.some.inj hf
  exact r_iretR X d_Profile_space_6

set_option maxHeartbeats 4000000 in
set_option maxRecDepth 100000 in
theorem c_Profile_space {l : Launch} {D : va_G} {cA : Nat → ClassId} {dA z0 : Nat} {μ : mM} {h0 : Nat} {r : Int32} (hf : f_Profile_space μ h0 = some r) : Met l y_Profile_space (mW y_Profile_space b_Profile_space 1 (some .int)) rm_Profile_space (va_Pc [.ref h0] (mPr D cA dA z0 μ)) (mQR (some (.int r))) 0 0 (fun _ => False) := by
  refine Met.ofW (cc := b_Profile_space) (maxL := 1) (ret := (some .int)) (by decide) rfl ?_
  intro p e s m args below meth c s₁ B hml hv
  obtain ⟨rfl, G, hP⟩ := hv
  have X := mX.of B hml
  exact m_entry (lv := [(0, va_rf (some h0))]) (Nat.le_of_ble_eq_true rfl) rfl (fun ls hl => w_Profile_space X G (mI.start hP) hf hl)

abbrev rm_Profile_measureBlack (k n : Nat) : Room := { frames := 6, cells := k, slots := n, locals := 143 }
theorem h_Profile_measureBlack : mCV y_Profile_measureBlack b_Profile_measureBlack 5 none 0 := ⟨k_437, k_80, ⟨by decide, by decide, by decide +kernel⟩, k_435, k_436⟩
set_option maxHeartbeats 4000000 in
set_option maxRecDepth 100000 in
theorem w_Profile_measureBlack_75 {h0 : Nat} {ws : Nat} {r : mM × Nat × Nat} (X : mX p m meth c s args b_Profile_measureBlack 5 none "ColourLinker$Profile") (G : mG D cA dA z0 s) {H : Heap} {locs : List Loc} {μ : mM} {z w : Nat} {ls : Array Slot}  (hq : mq ws w z r.2.1 r.2.2) (I : mI D cA z0 s μ H locs z) (hf : f_Profile_measureBlack_75 h0 μ z w = some r) (hl : lv_has ls 5 [(0, va_rf (some h0))]) : W p l e (rm_Profile_measureBlack (r.2.1 - s.heap.size) (r.2.2 - ws)) s m args below meth c H locs (z - s.heap.size) (w - ws) (MQ below (mQN D cA z0 none r.1 r.2.1) args s (r.2.1 - s.heap.size) (r.2.2 - ws) (mA z0)) (F0 m 75 ls []) := by
  have hx := X.ex
  have hb := X.by_
  unfold f_Profile_measureBlack_75 at hf
  obtain rfl := Option.some.inj hf
  exact r_vretN X I d_Profile_measureBlack_75

set_option maxHeartbeats 4000000 in
set_option maxRecDepth 100000 in
theorem w_Profile_measureBlack_60 {h0 : Nat} {ws : Nat} {r : mM × Nat × Nat} (X : mX p m meth c s args b_Profile_measureBlack 5 none "ColourLinker$Profile") (G : mG D cA dA z0 s) {k : mM → Nat → Nat → (Option Nat) → Int32 → Option (mM × Nat × Nat)} {kx75 : mM → Nat → Nat → Option (mM × Nat × Nat)} (hk : ∀ (H : Heap) (locs : List Loc) (μ : mM) (z w : Nat) (ls : Array Slot) (x1 : Option Nat) (x2 : Int32), mq ws w z r.2.1 r.2.2 → mI D cA z0 s μ H locs z → k μ z w x1 x2 = some r → lv_has ls 5 [(0, va_rf (some h0)), (1, va_rf x1), (2, .int x2)] → W p l e (rm_Profile_measureBlack (r.2.1 - s.heap.size) (r.2.2 - ws)) s m args below meth c H locs (z - s.heap.size) (w - ws) (MQ below (mQN D cA z0 none r.1 r.2.1) args s (r.2.1 - s.heap.size) (r.2.2 - ws) (mA z0)) (F0 m 6 ls [])) (hkx75 : ∀ (H : Heap) (locs : List Loc) (μ : mM) (z w : Nat) (ls : Array Slot), mq ws w z r.2.1 r.2.2 → mI D cA z0 s μ H locs z → kx75 μ z w = some r → lv_has ls 5 [(0, va_rf (some h0))] → W p l e (rm_Profile_measureBlack (r.2.1 - s.heap.size) (r.2.2 - ws)) s m args below meth c H locs (z - s.heap.size) (w - ws) (MQ below (mQN D cA z0 none r.1 r.2.1) args s (r.2.1 - s.heap.size) (r.2.2 - ws) (mA z0)) (F0 m 75 ls [])) {H : Heap} {locs : List Loc} {μ : mM} {z w : Nat} {ls : Array Slot} {x1 : Option Nat} {x2 : Int32} (hq : mq ws w z r.2.1 r.2.2) (I : mI D cA z0 s μ H locs z) (hf : f_Profile_measureBlack_60 h0 k kx75 μ z w x1 x2 = some r) (hl : lv_has ls 5 [(0, va_rf (some h0)), (1, va_rf x1), (2, .int x2)]) : W p l e (rm_Profile_measureBlack (r.2.1 - s.heap.size) (r.2.2 - ws)) s m args below meth c H locs (z - s.heap.size) (w - ws) (MQ below (mQN D cA z0 none r.1 r.2.1) args s (r.2.1 - s.heap.size) (r.2.2 - ws) (mA z0)) (F0 m 60 ls []) := by
  have hx := X.ex
  have hb := X.by_
  unfold f_Profile_measureBlack_60 at hf
  refine r_aload_n X d_Profile_measureBlack_60 rfl (lv_at hl 0 rfl) ?_
  obtain ⟨v7, hv, hf⟩ := mbind hf
  refine r_getf X G I (mfA_e hv) o_Profile_blackLevels k_410 (Or.inl rfl) d_Profile_measureBlack_61 ?_
  refine lv_iload_n hx hb d_Profile_measureBlack_64 rfl (lv_at hl 2 rfl) ?_
  refine r_aload_n X d_Profile_measureBlack_65 rfl (lv_at hl 1 rfl) ?_
  refine lv_iconst (v := 1) hx hb d_Profile_measureBlack_66 (by decide) ?_
  obtain ⟨v8, hv, hf⟩ := mbind hf
  refine r_iald X G I hv d_Profile_measureBlack_67 ?_
  obtain ⟨m9, hv, hf⟩ := mbind hf
  refine r_iast X G I hv d_Profile_measureBlack_68 (fun H locs I => ?_)
  refine lv_iinc (i := 2) (k := 2) (v := (x2 + (1 : Int32))) (lv' := [(2, .int (x2 + (1 : Int32))), (0, va_rf (some h0)), (1, va_rf x1)]) hx hb d_Profile_measureBlack_69 hl rfl (congrArg (fun t => x2 + t) (by decide : Int32.ofInt (1) = (1 : Int32))) (by decide) (by simp [mrf_cat]) (fun ls hl => ?_)
  refine lv_goto (tgt := 6) hx hb d_Profile_measureBlack_72 (by decide) ?_
  exact hk _ _ _ _ _ _ _ _ hq I hf (lv_sub hl [1, 2, 0] rfl)

set_option maxHeartbeats 4000000 in
set_option maxRecDepth 100000 in
theorem w_Profile_measureBlack_48 {h0 : Nat} {ws : Nat} {r : mM × Nat × Nat} (X : mX p m meth c s args b_Profile_measureBlack 5 none "ColourLinker$Profile") (G : mG D cA dA z0 s) {k : mM → Nat → Nat → (Option Nat) → Int32 → Option (mM × Nat × Nat)} {kx75 : mM → Nat → Nat → Option (mM × Nat × Nat)} (hk : ∀ (H : Heap) (locs : List Loc) (μ : mM) (z w : Nat) (ls : Array Slot) (x1 : Option Nat) (x2 : Int32), mq ws w z r.2.1 r.2.2 → mI D cA z0 s μ H locs z → k μ z w x1 x2 = some r → lv_has ls 5 [(0, va_rf (some h0)), (1, va_rf x1), (2, .int x2)] → W p l e (rm_Profile_measureBlack (r.2.1 - s.heap.size) (r.2.2 - ws)) s m args below meth c H locs (z - s.heap.size) (w - ws) (MQ below (mQN D cA z0 none r.1 r.2.1) args s (r.2.1 - s.heap.size) (r.2.2 - ws) (mA z0)) (F0 m 6 ls [])) (hkx75 : ∀ (H : Heap) (locs : List Loc) (μ : mM) (z w : Nat) (ls : Array Slot), mq ws w z r.2.1 r.2.2 → mI D cA z0 s μ H locs z → kx75 μ z w = some r → lv_has ls 5 [(0, va_rf (some h0))] → W p l e (rm_Profile_measureBlack (r.2.1 - s.heap.size) (r.2.2 - ws)) s m args below meth c H locs (z - s.heap.size) (w - ws) (MQ below (mQN D cA z0 none r.1 r.2.1) args s (r.2.1 - s.heap.size) (r.2.2 - ws) (mA z0)) (F0 m 75 ls [])) {H : Heap} {locs : List Loc} {μ : mM} {z w : Nat} {ls : Array Slot} {x1 : Option Nat} {x2 : Int32} (hq : mq ws w z r.2.1 r.2.2) (I : mI D cA z0 s μ H locs z) (hf : f_Profile_measureBlack_48 h0 k kx75 μ z w x1 x2 = some r) (hl : lv_has ls 5 [(0, va_rf (some h0)), (1, va_rf x1), (2, .int x2)]) : W p l e (rm_Profile_measureBlack (r.2.1 - s.heap.size) (r.2.2 - ws)) s m args below meth c H locs (z - s.heap.size) (w - ws) (MQ below (mQN D cA z0 none r.1 r.2.1) args s (r.2.1 - s.heap.size) (r.2.2 - ws) (mA z0)) (F0 m 48 ls []) := by
  have hx := X.ex
  have hb := X.by_
  unfold f_Profile_measureBlack_48 at hf
  refine r_aload_n X d_Profile_measureBlack_48 rfl (lv_at hl 0 rfl) ?_
  obtain ⟨q5, hv, hf⟩ := mbind hf
  obtain ⟨a, ha, hv⟩ := mbind hv
  obtain ⟨ha, fs, hm⟩ := mrc_e ha
  refine m_caR (m_runV (As := []) (r := some h0) (rest := []) X G I h_Profile_space k_604 (c_Profile_space hv) mPr_blind (m_pre G I) hm rfl ha rfl rfl hl.1 (Nat.le_of_ble_eq_true rfl) rfl rfl ⟨Nat.le_of_ble_eq_true rfl, Nat.le_of_ble_eq_true rfl⟩ hq.rm d_Profile_measureBlack_49) ?_
  refine lv_iconst (v := 1) hx hb d_Profile_measureBlack_52 (by decide) ?_
  refine lv_icmp_ne (tgt := 60) hx hb d_Profile_measureBlack_53 (by decide) (fun hc => ?_) (fun hc => ?_)
  · have hf := miff hf hc
    exact w_Profile_measureBlack_60 X G hk hkx75 hq I hf hl
  · have hf := mift hf hc
    refine r_aload_n X d_Profile_measureBlack_56 rfl (lv_at hl 1 rfl) ?_
    obtain ⟨q6, hv, hf⟩ := mbind hf
    refine m_caWv (m_runS (As := [va_rf x1]) (rest := []) X h_LabXyz_turnToXyz k_608 (c_LabXyz_turnToXyz hv) mPr_blind (m_pre G I) rfl rfl hl.1 (Nat.le_of_ble_eq_true rfl) rfl rfl ⟨Nat.le_of_ble_eq_true rfl, Nat.le_of_ble_eq_true rfl⟩ hq.rm d_Profile_measureBlack_57) I (fun H locs I => ?_)
    exact w_Profile_measureBlack_60 X G hk hkx75 hq I hf hl

set_option maxHeartbeats 4000000 in
set_option maxRecDepth 100000 in
theorem w_Profile_measureBlack_42 {h0 : Nat} {ws : Nat} {r : mM × Nat × Nat} (X : mX p m meth c s args b_Profile_measureBlack 5 none "ColourLinker$Profile") (G : mG D cA dA z0 s) {k : mM → Nat → Nat → (Option Nat) → Int32 → Int32 → Option (mM × Nat × Nat)} {kx48 : mM → Nat → Nat → (Option Nat) → Int32 → Option (mM × Nat × Nat)} (hk : ∀ (H : Heap) (locs : List Loc) (μ : mM) (z w : Nat) (ls : Array Slot) (x1 : Option Nat) (x2 : Int32) (x3 : Int32), mq ws w z r.2.1 r.2.2 → mI D cA z0 s μ H locs z → k μ z w x1 x2 x3 = some r → lv_has ls 5 [(0, va_rf (some h0)), (1, va_rf x1), (2, .int x2), (3, .int x3)] → W p l e (rm_Profile_measureBlack (r.2.1 - s.heap.size) (r.2.2 - ws)) s m args below meth c H locs (z - s.heap.size) (w - ws) (MQ below (mQN D cA z0 none r.1 r.2.1) args s (r.2.1 - s.heap.size) (r.2.2 - ws) (mA z0)) (F0 m 18 ls [])) (hkx48 : ∀ (H : Heap) (locs : List Loc) (μ : mM) (z w : Nat) (ls : Array Slot) (x1 : Option Nat) (x2 : Int32), mq ws w z r.2.1 r.2.2 → mI D cA z0 s μ H locs z → kx48 μ z w x1 x2 = some r → lv_has ls 5 [(0, va_rf (some h0)), (1, va_rf x1), (2, .int x2)] → W p l e (rm_Profile_measureBlack (r.2.1 - s.heap.size) (r.2.2 - ws)) s m args below meth c H locs (z - s.heap.size) (w - ws) (MQ below (mQN D cA z0 none r.1 r.2.1) args s (r.2.1 - s.heap.size) (r.2.2 - ws) (mA z0)) (F0 m 48 ls [])) {H : Heap} {locs : List Loc} {μ : mM} {z w : Nat} {ls : Array Slot} {x1 : Option Nat} {x2 : Int32} {x3 : Int32} (hq : mq ws w z r.2.1 r.2.2) (I : mI D cA z0 s μ H locs z) (hf : f_Profile_measureBlack_42 h0 k kx48 μ z w x1 x2 x3 = some r) (hl : lv_has ls 5 [(0, va_rf (some h0)), (1, va_rf x1), (2, .int x2), (3, .int x3)]) : W p l e (rm_Profile_measureBlack (r.2.1 - s.heap.size) (r.2.2 - ws)) s m args below meth c H locs (z - s.heap.size) (w - ws) (MQ below (mQN D cA z0 none r.1 r.2.1) args s (r.2.1 - s.heap.size) (r.2.2 - ws) (mA z0)) (F0 m 42 ls []) := by
  have hx := X.ex
  have hb := X.by_
  unfold f_Profile_measureBlack_42 at hf
  refine lv_iinc (i := 3) (k := 3) (v := (x3 + (1 : Int32))) (lv' := [(3, .int (x3 + (1 : Int32))), (0, va_rf (some h0)), (1, va_rf x1), (2, .int x2)]) hx hb d_Profile_measureBlack_42 hl rfl (congrArg (fun t => x3 + t) (by decide : Int32.ofInt (1) = (1 : Int32))) (by decide) rfl (fun ls hl => ?_)
  refine lv_goto (tgt := 18) hx hb d_Profile_measureBlack_45 (by decide) ?_
  exact hk _ _ _ _ _ _ _ _ _ hq I hf (lv_sub hl [1, 2, 3, 0] rfl)

set_option maxHeartbeats 4000000 in
set_option maxRecDepth 100000 in
theorem w_Profile_measureBlack_18 {h0 : Nat} {ws : Nat} {r : mM × Nat × Nat} (X : mX p m meth c s args b_Profile_measureBlack 5 none "ColourLinker$Profile") (G : mG D cA dA z0 s) {kx48 : mM → Nat → Nat → (Option Nat) → Int32 → Option (mM × Nat × Nat)} (hkx48 : ∀ (H : Heap) (locs : List Loc) (μ : mM) (z w : Nat) (ls : Array Slot) (x1 : Option Nat) (x2 : Int32), mq ws w z r.2.1 r.2.2 → mI D cA z0 s μ H locs z → kx48 μ z w x1 x2 = some r → lv_has ls 5 [(0, va_rf (some h0)), (1, va_rf x1), (2, .int x2)] → W p l e (rm_Profile_measureBlack (r.2.1 - s.heap.size) (r.2.2 - ws)) s m args below meth c H locs (z - s.heap.size) (w - ws) (MQ below (mQN D cA z0 none r.1 r.2.1) args s (r.2.1 - s.heap.size) (r.2.2 - ws) (mA z0)) (F0 m 48 ls [])) : ∀ (n : Nat) (H : Heap) (locs : List Loc) (μ : mM) (z w : Nat) (ls : Array Slot) (x1 : Option Nat) (x2 : Int32) (x3 : Int32), mq ws w z r.2.1 r.2.2 → mI D cA z0 s μ H locs z → f_Profile_measureBlack_18 h0 kx48 n μ z w x1 x2 x3 = some r → lv_has ls 5 [(0, va_rf (some h0)), (1, va_rf x1), (2, .int x2), (3, .int x3)] → W p l e (rm_Profile_measureBlack (r.2.1 - s.heap.size) (r.2.2 - ws)) s m args below meth c H locs (z - s.heap.size) (w - ws) (MQ below (mQN D cA z0 none r.1 r.2.1) args s (r.2.1 - s.heap.size) (r.2.2 - ws) (mA z0)) (F0 m 18 ls []) := by
  have hx := X.ex
  have hb := X.by_
  intro n
  induction n with
  | zero => intro H locs μ z w ls x1 x2 x3 hq I hf hl; rw [f_Profile_measureBlack_18] at hf; cases hf
  | succ n ih =>
    intro H locs μ z w ls x1 x2 x3 hq I hf hl
    rw [f_Profile_measureBlack_18] at hf
    refine lv_iload_n hx hb d_Profile_measureBlack_18 rfl (lv_at hl 3 rfl) ?_
    refine lv_iconst (v := 2) hx hb d_Profile_measureBlack_19 (by decide) ?_
    refine lv_icmp_ge (tgt := 48) hx hb d_Profile_measureBlack_20 (by decide) (fun hc => ?_) (fun hc => ?_)
    · have hf := mift hf hc
      exact hkx48 _ _ _ _ _ _ _ _ hq I hf (lv_sub hl [0, 1, 2] rfl)
    · have hf := miff hf hc
      refine r_aload_n X d_Profile_measureBlack_23 rfl (lv_at hl 0 rfl) ?_
      refine lv_iload_n hx hb d_Profile_measureBlack_24 rfl (lv_at hl 2 rfl) ?_
      refine lv_iload_n hx hb d_Profile_measureBlack_25 rfl (lv_at hl 3 rfl) ?_
      obtain ⟨q3, hv, hf⟩ := mbind hf
      obtain ⟨a, ha, hv⟩ := mbind hv
      obtain ⟨ha, fs, hm⟩ := mrc_e ha
      refine m_caR (m_runV (As := [.int x2, .int x3]) (r := some h0) (rest := []) X G I h_Profile_forthPiece k_441 (c_Profile_forthPiece hv) mPr_blind (m_pre G I) hm rfl ha rfl rfl hl.1 (Nat.le_of_ble_eq_true rfl) rfl rfl ⟨Nat.le_of_ble_eq_true rfl, Nat.le_of_ble_eq_true rfl⟩ hq.rm d_Profile_measureBlack_26) ?_
      refine r_astore (i := 4) (lv' := [(4, va_rf q3), (0, va_rf (some h0)), (1, va_rf x1), (2, .int x2), (3, .int x3)]) X d_Profile_measureBlack_29 hl (by decide) rfl (fun ls hl => ?_)
      refine r_aload X d_Profile_measureBlack_31 (lv_at hl 0 rfl) ?_
      refine r_ifnull (tgt := 42) X d_Profile_measureBlack_33 (by decide) (fun hc => ?_) (fun hc => ?_)
      · have hf := mift hf hc
        exact w_Profile_measureBlack_42 X G ih hkx48 hq I hf (lv_sub hl [1, 2, 3, 4] rfl)
      · have hf := miff hf hc
        refine r_aload X d_Profile_measureBlack_36 (lv_at hl 0 rfl) ?_
        refine r_aload_n X d_Profile_measureBlack_38 rfl (lv_at hl 2 rfl) ?_
        obtain ⟨q4, hv, hf⟩ := mbind hf
        obtain ⟨a, ha, hv⟩ := mbind hv
        refine m_caWv (m_run_Piece_run (r := q3) (rest := []) X G I hv ha k_449 rfl hl.1 (Nat.le_of_ble_eq_true rfl) hq.rm (Nat.le_of_ble_eq_true rfl) (Nat.le_of_ble_eq_true rfl) d_Profile_measureBlack_39) I (fun H locs I => ?_)
        exact w_Profile_measureBlack_42 X G ih hkx48 hq I hf (lv_sub hl [1, 2, 3, 4] rfl)

set_option maxHeartbeats 4000000 in
set_option maxRecDepth 100000 in
theorem w_Profile_measureBlack_6 {h0 : Nat} {ws : Nat} {r : mM × Nat × Nat} (X : mX p m meth c s args b_Profile_measureBlack 5 none "ColourLinker$Profile") (G : mG D cA dA z0 s) {kx75 : mM → Nat → Nat → Option (mM × Nat × Nat)} (hkx75 : ∀ (H : Heap) (locs : List Loc) (μ : mM) (z w : Nat) (ls : Array Slot), mq ws w z r.2.1 r.2.2 → mI D cA z0 s μ H locs z → kx75 μ z w = some r → lv_has ls 5 [(0, va_rf (some h0))] → W p l e (rm_Profile_measureBlack (r.2.1 - s.heap.size) (r.2.2 - ws)) s m args below meth c H locs (z - s.heap.size) (w - ws) (MQ below (mQN D cA z0 none r.1 r.2.1) args s (r.2.1 - s.heap.size) (r.2.2 - ws) (mA z0)) (F0 m 75 ls [])) : ∀ (n : Nat) (H : Heap) (locs : List Loc) (μ : mM) (z w : Nat) (ls : Array Slot) (x1 : Option Nat) (x2 : Int32), mq ws w z r.2.1 r.2.2 → mI D cA z0 s μ H locs z → f_Profile_measureBlack_6 h0 kx75 n μ z w x1 x2 = some r → lv_has ls 5 [(0, va_rf (some h0)), (1, va_rf x1), (2, .int x2)] → W p l e (rm_Profile_measureBlack (r.2.1 - s.heap.size) (r.2.2 - ws)) s m args below meth c H locs (z - s.heap.size) (w - ws) (MQ below (mQN D cA z0 none r.1 r.2.1) args s (r.2.1 - s.heap.size) (r.2.2 - ws) (mA z0)) (F0 m 6 ls []) := by
  have hx := X.ex
  have hb := X.by_
  intro n
  induction n with
  | zero => intro H locs μ z w ls x1 x2 hq I hf hl; rw [f_Profile_measureBlack_6] at hf; cases hf
  | succ n ih =>
    intro H locs μ z w ls x1 x2 hq I hf hl
    rw [f_Profile_measureBlack_6] at hf
    refine lv_iload_n hx hb d_Profile_measureBlack_6 rfl (lv_at hl 2 rfl) ?_
    refine lv_iconst (v := 3) hx hb d_Profile_measureBlack_7 (by decide) ?_
    refine lv_icmp_ge (tgt := 75) hx hb d_Profile_measureBlack_8 (by decide) (fun hc => ?_) (fun hc => ?_)
    · have hf := mift hf hc
      exact hkx75 _ _ _ _ _ _ hq I hf (lv_sub hl [0] rfl)
    · have hf := miff hf hc
      refine r_aload_n X d_Profile_measureBlack_11 rfl (lv_at hl 1 rfl) ?_
      refine lv_iconst (v := 0) hx hb d_Profile_measureBlack_12 (by decide) ?_
      obtain ⟨q2, hv, hf⟩ := mbind hf
      refine m_caWv (m_runS (As := [va_rf x1, .int (0 : Int32)]) (rest := []) X h_Arrays_fill k_438 (c_Arrays_fill hv) mPr_blind (m_pre G I) rfl rfl hl.1 (Nat.le_of_ble_eq_true rfl) rfl rfl ⟨Nat.le_of_ble_eq_true rfl, Nat.le_of_ble_eq_true rfl⟩ hq.rm d_Profile_measureBlack_13) I (fun H locs I => ?_)
      refine lv_iconst (v := 0) hx hb d_Profile_measureBlack_16 (by decide) ?_
      refine lv_istore_n (i := 3) (lv' := [(3, .int (0 : Int32)), (0, va_rf (some h0)), (1, va_rf x1), (2, .int x2)]) hx hb d_Profile_measureBlack_17 rfl hl (by decide) rfl (fun ls hl => ?_)
      exact w_Profile_measureBlack_18 X G (fun H locs μ z w ls x1 x2 hq I hf hl => w_Profile_measureBlack_48 X G ih hkx75 hq I hf hl) 4096 _ _ _ _ _ _ _ _ _ hq I hf (lv_sub hl [1, 2, 3, 0] rfl)

set_option maxHeartbeats 4000000 in
set_option maxRecDepth 100000 in
theorem w_Profile_measureBlack {h0 : Nat} {ws : Nat} {r : mM × Nat × Nat} (X : mX p m meth c s args b_Profile_measureBlack 5 none "ColourLinker$Profile") (G : mG D cA dA z0 s) {H : Heap} {locs : List Loc} {μ : mM} {z w : Nat} {ls : Array Slot}  (hw : ws ≤ w) (I : mI D cA z0 s μ H locs z) (hf : f_Profile_measureBlack h0 μ z w = some r) (hl : lv_has ls 5 [(0, va_rf (some h0))]) : W p l e (rm_Profile_measureBlack (r.2.1 - s.heap.size) (r.2.2 - ws)) s m args below meth c H locs (z - s.heap.size) (w - ws) (MQ below (mQN D cA z0 none r.1 r.2.1) args s (r.2.1 - s.heap.size) (r.2.2 - ws) (mA z0)) (F0 m 0 ls []) := by
  have hx := X.ex
  have hb := X.by_
  unfold f_Profile_measureBlack at hf
  obtain ⟨-, -, hz2, hw2, hf⟩ := mmV_e hf
  have hq : mq ws w z r.2.1 r.2.2 := ⟨hw, hz2, hw2⟩
  refine lv_iconst (v := 3) hx hb d_Profile_measureBlack_0 (by decide) ?_
  obtain ⟨m1, hv, hf⟩ := mbind hf
  obtain ⟨hz1, hw1, hz2, hw2, hf⟩ := mmV_e hf
  refine r_newa (atype := .int) X G I hq.1 rfl rfl hv hz2 hw2 (Or.inl ⟨rfl, rfl⟩) k_113 d_Profile_measureBlack_1 (fun H I => ?_)
  have hq := hq.up hw1 hz2 hw2
  refine r_astore_n (i := 1) (lv' := [(1, va_rf (some z)), (0, va_rf (some h0))]) X d_Profile_measureBlack_3 rfl hl (by decide) (by simp [mrf_cat]) (fun ls hl => ?_)
  refine lv_iconst (v := 0) hx hb d_Profile_measureBlack_4 (by decide) ?_
  refine lv_istore_n (i := 2) (lv' := [(2, .int (0 : Int32)), (1, va_rf (some z)), (0, va_rf (some h0))]) hx hb d_Profile_measureBlack_5 rfl hl (by decide) (by simp [mrf_cat]) (fun ls hl => ?_)
  exact w_Profile_measureBlack_6 X G (fun H locs μ z w ls hq I hf hl => w_Profile_measureBlack_75 X G hq I hf hl) 4096 _ _ _ _ _ _ _ _ hq I hf (lv_sub hl [2, 1, 0] rfl)

set_option maxHeartbeats 4000000 in
set_option maxRecDepth 100000 in
theorem c_Profile_measureBlack {l : Launch} {D : va_G} {cA : Nat → ClassId} {dA z0 : Nat} {μ : mM} {h0 : Nat} {z w : Nat} {r : mM × Nat × Nat} (hf : f_Profile_measureBlack h0 μ z w = some r) : Met l y_Profile_measureBlack (mW y_Profile_measureBlack b_Profile_measureBlack 5 none) (rm_Profile_measureBlack (r.2.1 - z) (r.2.2 - w)) (va_Pc [.ref h0] (mPn D cA dA z0 μ z)) (mQN D cA z0 none r.1 r.2.1) (r.2.1 - z) (r.2.2 - w) (mA z0) := by
  refine Met.ofW (cc := b_Profile_measureBlack) (maxL := 5) (ret := none) (by decide) rfl ?_
  intro p e s m args below meth c s₁ B hml hv
  obtain ⟨rfl, G, hP, rfl⟩ := hv
  have X := mX.of B hml
  refine m_entry (lv := [(0, va_rf (some h0))]) (Nat.le_of_ble_eq_true rfl) rfl (fun ls hl => ?_)
  have h := w_Profile_measureBlack (p := p) (l := l) (e := e) (below := below) X G (Nat.le_refl w) (mI.start hP) hf hl
  rw [Nat.sub_self s.heap.size, Nat.sub_self w] at h
  exact h

abbrev rm_CL_parse (k n : Nat) : Room := { frames := 7, cells := k, slots := n, locals := 167 }
theorem h_CL_parse : mCV y_CL_parse b_CL_parse 3 (some .int) 0 := ⟨k_215, k_75, ⟨by decide, by decide, by decide +kernel⟩, k_213, k_214⟩
set_option maxHeartbeats 4000000 in
set_option maxRecDepth 100000 in
theorem w_CL_parse {h0 : Nat} {ws : Nat} {r : Int32 × mM × Nat × Nat} (X : mX p m meth c s args b_CL_parse 3 (some .int) "ColourLinker") (G : mG D cA dA z0 s) {H : Heap} {locs : List Loc} {μ : mM} {z w : Nat} {ls : Array Slot}  (hw : ws ≤ w) (I : mI D cA z0 s μ H locs z) (hf : f_CL_parse h0 μ z w = some r) (hl : lv_has ls 3 [(0, va_rf (some h0))]) : W p l e (rm_CL_parse (r.2.2.1 - s.heap.size) (r.2.2.2 - ws)) s m args below meth c H locs (z - s.heap.size) (w - ws) (MQ below (mQN D cA z0 (some (.int r.1)) r.2.1 r.2.2.1) args s (r.2.2.1 - s.heap.size) (r.2.2.2 - ws) (mA z0)) (F0 m 0 ls []) := by
  have hx := X.ex
  have hb := X.by_
  unfold f_CL_parse at hf
  obtain ⟨-, -, hz2, hw2, hf⟩ := mmT_e hf
  have hq : mq ws w z r.2.2.1 r.2.2.2 := ⟨hw, hz2, hw2⟩
  refine r_aload_n X d_CL_parse_0 rfl (lv_at hl 0 rfl) ?_
  obtain ⟨v1, hv, hf⟩ := mbind hf
  refine r_getf X G I (mfI_e hv) o_CL_keptCount k_148 (Or.inl rfl) d_CL_parse_1 ?_
  refine lv_bipush (v := 6) hx hb d_CL_parse_4 (by decide) ?_
  refine lv_icmp_lt (tgt := 12) hx hb d_CL_parse_6 (by decide) (fun hc => ?_) (fun hc => ?_)
  · have hf := mift hf hc
    refine r_aload_n X d_CL_parse_12 rfl (lv_at hl 0 rfl) ?_
    obtain ⟨v2, hv, hf⟩ := mbind hf
    refine r_getf X G I (mfA_e hv) o_CL_buffer k_146 (Or.inl rfl) d_CL_parse_13 ?_
    obtain ⟨q3, hv, hf⟩ := mbind hf
    obtain ⟨a, ha, hv⟩ := mbind hv
    obtain ⟨ha, fs, hm⟩ := mrc_e ha
    refine m_caR (m_runV (As := []) (r := v2) (rest := []) X G I h_Buffer_fault k_216 (c_Buffer_fault hv) mPr_blind (m_pre G I) hm rfl ha rfl rfl hl.1 (Nat.le_of_ble_eq_true rfl) rfl rfl ⟨Nat.le_of_ble_eq_true rfl, Nat.le_of_ble_eq_true rfl⟩ hq.rm d_CL_parse_16) ?_
    refine lv_istore_n (i := 1) (lv' := [(1, .int q3), (0, va_rf (some h0))]) hx hb d_CL_parse_19 rfl hl (by decide) (by simp [mrf_cat]) (fun ls hl => ?_)
    refine lv_iload_n hx hb d_CL_parse_20 rfl (lv_at hl 0 rfl) ?_
    refine lv_if_eq (tgt := 26) hx hb d_CL_parse_21 (by decide) (fun hc => ?_) (fun hc => ?_)
    · have hf := mift hf hc
      obtain ⟨m4, hv, hf⟩ := mbind hf
      obtain ⟨hz1, hw1, hz2, hw2, hf⟩ := mmT_e hf
      refine r_new (N := 11) X G I hq.1 rfl rfl hv hz2 hw2 (C := "ColourLinker$Profile") (T := T_Profile) rfl (by decide +kernel) k_114 k_256 k_80 d_CL_parse_26 (fun H I => ?_)
      have hq := hq.up hw1 hz2 hw2
      refine lv_dup hx hb d_CL_parse_29 (mrf_cat _) ?_
      refine r_aload_n X d_CL_parse_30 rfl (lv_at hl 1 rfl) ?_
      obtain ⟨v5, hv, hf⟩ := mbind hf
      refine r_getf X G I (mfA_e hv) o_CL_buffer k_146 (Or.inl rfl) d_CL_parse_31 ?_
      obtain ⟨q6, hv, hf⟩ := mbind hf
      obtain ⟨hz1, hw1, hz2, hw2, hf⟩ := mmT_e hf
      have hrn := hq.rmN I hz1 hw1 hz2 hw2
      obtain ⟨a, ha, hv⟩ := mbind hv
      obtain ⟨ha, fs, hm⟩ := mrc_e ha
      refine m_caN (m_runV (As := []) (r := v5) (rest := [va_rf (some z), va_rf (some z)]) X G I h_Buffer_plainForm k_257 (c_Buffer_plainForm hv) mPn_blind (m_preN G I) hm rfl ha rfl rfl hl.1 (Nat.le_of_ble_eq_true rfl) rfl rfl ⟨Nat.le_of_ble_eq_true rfl, Nat.le_of_ble_eq_true rfl⟩ hrn d_CL_parse_34) I hq.1 hz1 hw1 (fun H locs I => ?_)
      have hq := hq.up hw1 hz2 hw2
      refine r_aload_n X d_CL_parse_37 rfl (lv_at hl 1 rfl) ?_
      obtain ⟨v7, hv, hf⟩ := mbind hf
      refine r_getf X G I (mfA_e hv) o_CL_buffer k_146 (Or.inl rfl) d_CL_parse_38 ?_
      obtain ⟨q8, hv, hf⟩ := mbind hf
      obtain ⟨a, ha, hv⟩ := mbind hv
      obtain ⟨ha, fs, hm⟩ := mrc_e ha
      refine m_caR (m_runV (As := []) (r := v7) (rest := [va_rf q6.1, va_rf (some z), va_rf (some z)]) X G I h_Buffer_countElements k_282 (c_Buffer_countElements hv) mPr_blind (m_pre G I) hm rfl ha rfl rfl hl.1 (Nat.le_of_ble_eq_true rfl) rfl rfl ⟨Nat.le_of_ble_eq_true rfl, Nat.le_of_ble_eq_true rfl⟩ hq.rm d_CL_parse_41) ?_
      obtain ⟨q9, hv, hf⟩ := mbind hf
      obtain ⟨hz1, hw1, hz2, hw2, hf⟩ := mmT_e hf
      have hrn := hq.rmN I hz1 hw1 hz2 hw2
      obtain ⟨a, ha, hv⟩ := mbind hv
      refine m_caNv (m_runI (As := [va_rf q6.1, .int q8]) (r := some z) (rest := [va_rf (some z)]) X h_Profile_init k_286 (c_Profile_init hv) mPn_blind (m_preN G I) ha rfl rfl hl.1 (Nat.le_of_ble_eq_true rfl) rfl rfl ⟨Nat.le_of_ble_eq_true rfl, Nat.le_of_ble_eq_true rfl⟩ hrn d_CL_parse_44) I hq.1 hz1 hw1 (fun H locs I => ?_)
      have hq := hq.up hw1 hz2 hw2
      refine r_astore_n (i := 2) (lv' := [(2, va_rf (some z)), (1, .int q3), (0, va_rf (some h0))]) X d_CL_parse_47 rfl hl (by decide) rfl (fun ls hl => ?_)
      refine r_aload_n X d_CL_parse_48 rfl (lv_at hl 0 rfl) ?_
      obtain ⟨q10, hv, hf⟩ := mbind hf
      obtain ⟨hz1, hw1, hz2, hw2, hf⟩ := mmT_e hf
      have hrn := hq.rmN I hz1 hw1 hz2 hw2
      obtain ⟨a, ha, hv⟩ := mbind hv
      obtain ⟨ha, fs, hm⟩ := mrc_e ha
      refine m_caNv (m_runV (As := []) (r := some z) (rest := []) X G I h_Profile_measureBlack k_434 (c_Profile_measureBlack hv) mPn_blind (m_preN G I) hm rfl ha rfl rfl hl.1 (Nat.le_of_ble_eq_true rfl) rfl rfl ⟨Nat.le_of_ble_eq_true rfl, Nat.le_of_ble_eq_true rfl⟩ hrn d_CL_parse_49) I hq.1 hz1 hw1 (fun H locs I => ?_)
      have hq := hq.up hw1 hz2 hw2
      refine r_aload_n X d_CL_parse_52 rfl (lv_at hl 2 rfl) ?_
      obtain ⟨v11, hv, hf⟩ := mbind hf
      refine r_getf X G I (mfA_e hv) o_CL_kept k_147 (Or.inl rfl) d_CL_parse_53 ?_
      refine r_aload_n X d_CL_parse_56 rfl (lv_at hl 2 rfl) ?_
      obtain ⟨v12, hv, hf⟩ := mbind hf
      refine r_getf X G I (mfI_e hv) o_CL_keptCount k_148 (Or.inl rfl) d_CL_parse_57 ?_
      refine r_aload_n X d_CL_parse_60 rfl (lv_at hl 0 rfl) ?_
      obtain ⟨m13, hv, hf⟩ := mbind hf
      refine r_aast X G I hv d_CL_parse_61 (fun H locs I => ?_)
      refine r_aload_n X d_CL_parse_62 rfl (lv_at hl 2 rfl) ?_
      refine lv_dup hx hb d_CL_parse_63 (mrf_cat _) ?_
      obtain ⟨v14, hv, hf⟩ := mbind hf
      refine r_getf X G I (mfI_e hv) o_CL_keptCount k_148 (Or.inl rfl) d_CL_parse_64 ?_
      refine lv_iconst (v := 1) hx hb d_CL_parse_67 (by decide) ?_
      refine lv_iadd hx hb d_CL_parse_68 ?_
      obtain ⟨m15, hv, hf⟩ := mbind hf
      refine r_put (ty := .int) X G I hv o_CL_keptCount k_148 (Or.inl rfl) (by decide) rfl rfl d_CL_parse_69 (fun H locs I => ?_)
      refine r_aload_n X d_CL_parse_72 rfl (lv_at hl 2 rfl) ?_
      obtain ⟨v16, hv, hf⟩ := mbind hf
      refine r_getf X G I (mfI_e hv) o_CL_keptCount k_148 (Or.inl rfl) d_CL_parse_73 ?_
      refine lv_iconst (v := 1) hx hb d_CL_parse_76 (by decide) ?_
      refine lv_isub hx hb d_CL_parse_77 ?_
      obtain rfl := Option.some.inj hf
      exact r_iretN X I d_CL_parse_78
    · have hf := miff hf hc
      refine lv_iload_n hx hb d_CL_parse_24 rfl (lv_at hl 0 rfl) ?_
      obtain rfl := Option.some.inj hf
      exact r_iretN X I d_CL_parse_25
  · have hf := miff hf hc
    refine lv_bipush (v := -8) hx hb d_CL_parse_9 (by decide) ?_
    obtain rfl := Option.some.inj hf
    exact r_iretN X I d_CL_parse_11

set_option maxHeartbeats 4000000 in
set_option maxRecDepth 100000 in
theorem c_CL_parse {l : Launch} {D : va_G} {cA : Nat → ClassId} {dA z0 : Nat} {μ : mM} {h0 : Nat} {z w : Nat} {r : Int32 × mM × Nat × Nat} (hf : f_CL_parse h0 μ z w = some r) : Met l y_CL_parse (mW y_CL_parse b_CL_parse 3 (some .int)) (rm_CL_parse (r.2.2.1 - z) (r.2.2.2 - w)) (va_Pc [.ref h0] (mPn D cA dA z0 μ z)) (mQN D cA z0 (some (.int r.1)) r.2.1 r.2.2.1) (r.2.2.1 - z) (r.2.2.2 - w) (mA z0) := by
  refine Met.ofW (cc := b_CL_parse) (maxL := 3) (ret := (some .int)) (by decide) rfl ?_
  intro p e s m args below meth c s₁ B hml hv
  obtain ⟨rfl, G, hP, rfl⟩ := hv
  have X := mX.of B hml
  refine m_entry (lv := [(0, va_rf (some h0))]) (Nat.le_of_ble_eq_true rfl) rfl (fun ls hl => ?_)
  have h := w_CL_parse (p := p) (l := l) (e := e) (below := below) X G (Nat.le_refl w) (mI.start hP) hf hl
  rw [Nat.sub_self s.heap.size, Nat.sub_self w] at h
  exact h

end WK
