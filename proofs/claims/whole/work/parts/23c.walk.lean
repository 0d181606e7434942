section WK
variable {p : Program} {l : Launch} {e : Env} {s : State} {m : MethodId} {args : Array Value} {below : List Frame} {meth : Method} {c : Code} {D : va_G} {cA : Nat → ClassId} {dA z0 : Nat}
abbrev rm_Mo_value : Room := { frames := 3, cells := 0, slots := 0, locals := 69 }
theorem h_Mo_value : mCV y_Mo_value b_Mo_value 14 (some .long) 3 := ⟨k_991, k_79, ⟨by decide, by decide, by decide +kernel⟩, k_990, k_38⟩
set_option maxHeartbeats 4000000 in
set_option maxRecDepth 100000 in
theorem w_Mo_value_202 {μ : mM} {h0 : Nat} {r : Int64} (X : mX p m meth c s args b_Mo_value 14 (some .long) "ColourLinkerModel") (G : mG D cA dA z0 s) (I : mI D cA z0 s μ s.heap [] s.heap.size) {ls : Array Slot} {x7 : Int64} (hf : f_Mo_value_202 μ h0 x7 = some r) (hl : lv_has ls 14 [(0, va_rf (some h0)), (7, .long x7)]) : W p l e rm_Mo_value s m args below meth c s.heap [] 0 0 (MQ below (mQR (some (.long r))) args s 0 0 (fun _ => False)) (F0 m 202 ls []) := by
  have hx := X.ex
  have hb := X.by_
  unfold f_Mo_value_202 at hf
  refine lv_lload hx hb d_Mo_value_202 (lv_at hl 1 rfl) ?_
  obtain rfl := Option.some.inj hf
  exact r_lretR X d_Mo_value_204

set_option maxHeartbeats 4000000 in
set_option maxRecDepth 100000 in
theorem w_Mo_value_177 {μ : mM} {h0 : Nat} {r : Int64} (X : mX p m meth c s args b_Mo_value 14 (some .long) "ColourLinkerModel") (G : mG D cA dA z0 s) (I : mI D cA z0 s μ s.heap [] s.heap.size) {kx202 : Int64 → Option (Int64)} (hkx202 : ∀ (ls : Array Slot) (x7 : Int64), kx202 x7 = some r → lv_has ls 14 [(0, va_rf (some h0)), (7, .long x7)] → W p l e rm_Mo_value s m args below meth c s.heap [] 0 0 (MQ below (mQR (some (.long r))) args s 0 0 (fun _ => False)) (F0 m 202 ls [])) : ∀ (n : Nat) (ls : Array Slot) (x3 : Int64) (x6 : Int32) (x7 : Int64) (x9 : Int32), f_Mo_value_177 μ h0 kx202 n x3 x6 x7 x9 = some r → lv_has ls 14 [(0, va_rf (some h0)), (3, .long x3), (6, .int x6), (7, .long x7), (9, .int x9)] → W p l e rm_Mo_value s m args below meth c s.heap [] 0 0 (MQ below (mQR (some (.long r))) args s 0 0 (fun _ => False)) (F0 m 177 ls []) := by
  have hx := X.ex
  have hb := X.by_
  intro n
  induction n with
  | zero => intro ls x3 x6 x7 x9 hf hl; rw [f_Mo_value_177] at hf; cases hf
  | succ n ih =>
    intro ls x3 x6 x7 x9 hf hl
    rw [f_Mo_value_177] at hf
    refine lv_iload hx hb d_Mo_value_177 (lv_at hl 4 rfl) ?_
    refine lv_iload hx hb d_Mo_value_179 (lv_at hl 2 rfl) ?_
    refine lv_icmp_ge (tgt := 202) hx hb d_Mo_value_181 (by decide) (fun hc => ?_) (fun hc => ?_)
    · have hf := mift hf hc
      exact hkx202 _ _ hf (lv_sub hl [0, 3] rfl)
    · have hf := miff hf hc
      refine lv_lload hx hb d_Mo_value_184 (lv_at hl 3 rfl) ?_
      refine lv_lload_n hx hb d_Mo_value_186 rfl (lv_at hl 1 rfl) ?_
      refine lv_lmul hx hb d_Mo_value_187 ?_
      refine lv_ldc2 (v := 65535) hx hb X.ow (X.w k_992) d_Mo_value_188 ?_
      obtain ⟨q10, hv, hf⟩ := mbind hf
      refine m_caR (m_runS (As := [.long (x7 * x3), .long (65535 : Int64)]) (rest := []) X h_Mo_near k_993 (c_Mo_near hv) mPr_blind (m_pre G I) rfl rfl hl.1 (Nat.le_of_ble_eq_true rfl) rfl rfl ⟨Nat.le_of_ble_eq_true rfl, Nat.le_of_ble_eq_true rfl⟩ ⟨Nat.le_refl _, Nat.le_refl _⟩ d_Mo_value_191) ?_
      refine lv_lstore (i := 7) (lv' := [(7, .long q10), (0, va_rf (some h0)), (3, .long x3), (6, .int x6), (9, .int x9)]) hx hb d_Mo_value_194 hl (by decide) rfl (fun ls hl => ?_)
      refine lv_iinc (i := 9) (k := 4) (v := (x9 + (1 : Int32))) (lv' := [(9, .int (x9 + (1 : Int32))), (7, .long q10), (0, va_rf (some h0)), (3, .long x3), (6, .int x6)]) hx hb d_Mo_value_196 hl rfl (congrArg (fun t => x9 + t) (by decide : Int32.ofInt (1) = (1 : Int32))) (by decide) rfl (fun ls hl => ?_)
      refine lv_goto (tgt := 177) hx hb d_Mo_value_199 (by decide) ?_
      exact ih _ _ _ _ _ hf (lv_sub hl [2, 3, 4, 1, 0] rfl)

set_option maxHeartbeats 4000000 in
set_option maxRecDepth 100000 in
theorem w_Mo_value_75 {μ : mM} {h0 : Nat} {r : Int64} (X : mX p m meth c s args b_Mo_value 14 (some .long) "ColourLinkerModel") (G : mG D cA dA z0 s) (I : mI D cA z0 s μ s.heap [] s.heap.size) {ls : Array Slot} {x1 : Int32} {x5 : Int32} {x7 : Int64} {s0 : Int32} (hf : f_Mo_value_75 μ h0 x1 x5 x7 s0 = some r) (hl : lv_has ls 14 [(0, va_rf (some h0)), (1, .int x1), (5, .int x5), (7, .long x7)]) : W p l e rm_Mo_value s m args below meth c s.heap [] 0 0 (MQ below (mQR (some (.long r))) args s 0 0 (fun _ => False)) (F0 m 75 ls [.int s0]) := by
  have hx := X.ex
  have hb := X.by_
  unfold f_Mo_value_75 at hf
  refine lv_istore (i := 9) (lv' := [(9, .int s0), (0, va_rf (some h0)), (1, .int x1), (5, .int x5), (7, .long x7)]) hx hb d_Mo_value_75 hl (by decide) rfl (fun ls hl => ?_)
  refine r_aload_n X d_Mo_value_77 rfl (lv_at hl 1 rfl) ?_
  refine lv_iload_n hx hb d_Mo_value_78 rfl (lv_at hl 2 rfl) ?_
  refine lv_iload hx hb d_Mo_value_79 (lv_at hl 3 rfl) ?_
  refine lv_iconst (v := 2) hx hb d_Mo_value_81 (by decide) ?_
  refine lv_iadd hx hb d_Mo_value_82 ?_
  refine lv_iconst (v := 2) hx hb d_Mo_value_83 (by decide) ?_
  refine lv_iload hx hb d_Mo_value_84 (lv_at hl 0 rfl) ?_
  refine lv_imul hx hb d_Mo_value_86 ?_
  refine lv_iadd hx hb d_Mo_value_87 ?_
  obtain ⟨q7, hv, hf⟩ := mbind hf
  obtain ⟨a, ha, hv⟩ := mbind hv
  obtain ⟨ha, fs, hm⟩ := mrc_e ha
  refine m_caR (m_runV (As := [.int x1, .int ((x5 + (2 : Int32)) + ((2 : Int32) * s0))]) (r := some h0) (rest := []) X G I h_Mo_word k_984 (c_Mo_word hv) mPr_blind (m_pre G I) hm rfl ha rfl rfl hl.1 (Nat.le_of_ble_eq_true rfl) rfl rfl ⟨Nat.le_of_ble_eq_true rfl, Nat.le_of_ble_eq_true rfl⟩ ⟨Nat.le_refl _, Nat.le_refl _⟩ d_Mo_value_88) ?_
  refine lv_i2l hx hb d_Mo_value_91 rfl ?_
  refine lv_lstore (i := 10) (lv' := [(10, .long ((q7).toInt64)), (9, .int s0), (0, va_rf (some h0)), (1, .int x1), (5, .int x5), (7, .long x7)]) hx hb d_Mo_value_92 hl (by decide) rfl (fun ls hl => ?_)
  refine r_aload_n X d_Mo_value_94 rfl (lv_at hl 2 rfl) ?_
  refine lv_iload_n hx hb d_Mo_value_95 rfl (lv_at hl 3 rfl) ?_
  refine lv_iload hx hb d_Mo_value_96 (lv_at hl 4 rfl) ?_
  refine lv_iconst (v := 4) hx hb d_Mo_value_98 (by decide) ?_
  refine lv_iadd hx hb d_Mo_value_99 ?_
  refine lv_iconst (v := 2) hx hb d_Mo_value_100 (by decide) ?_
  refine lv_iload hx hb d_Mo_value_101 (lv_at hl 1 rfl) ?_
  refine lv_imul hx hb d_Mo_value_103 ?_
  refine lv_iadd hx hb d_Mo_value_104 ?_
  obtain ⟨q8, hv, hf⟩ := mbind hf
  obtain ⟨a, ha, hv⟩ := mbind hv
  obtain ⟨ha, fs, hm⟩ := mrc_e ha
  refine m_caR (m_runV (As := [.int x1, .int ((x5 + (4 : Int32)) + ((2 : Int32) * s0))]) (r := some h0) (rest := []) X G I h_Mo_word k_984 (c_Mo_word hv) mPr_blind (m_pre G I) hm rfl ha rfl rfl hl.1 (Nat.le_of_ble_eq_true rfl) rfl rfl ⟨Nat.le_of_ble_eq_true rfl, Nat.le_of_ble_eq_true rfl⟩ ⟨Nat.le_refl _, Nat.le_refl _⟩ d_Mo_value_105) ?_
  refine lv_i2l hx hb d_Mo_value_108 rfl ?_
  refine lv_lstore (i := 12) (lv' := [(12, .long ((q8).toInt64)), (10, .long ((q7).toInt64)), (9, .int s0), (0, va_rf (some h0)), (1, .int x1), (5, .int x5), (7, .long x7)]) hx hb d_Mo_value_109 hl (by decide) rfl (fun ls hl => ?_)
  refine lv_lload hx hb d_Mo_value_111 (lv_at hl 1 rfl) ?_
  refine lv_lload hx hb d_Mo_value_113 (lv_at hl 0 rfl) ?_
  refine lv_lload hx hb d_Mo_value_115 (lv_at hl 1 rfl) ?_
  refine lv_lsub hx hb d_Mo_value_117 ?_
  refine lv_lload hx hb d_Mo_value_118 (lv_at hl 6 rfl) ?_
  refine lv_ldc2 (v := 65535) hx hb X.ow (X.w k_992) d_Mo_value_120 ?_
  refine lv_iload hx hb d_Mo_value_123 (lv_at hl 2 rfl) ?_
  refine lv_i2l hx hb d_Mo_value_125 rfl ?_
  refine lv_lmul hx hb d_Mo_value_126 ?_
  refine lv_lsub hx hb d_Mo_value_127 ?_
  refine lv_lmul hx hb d_Mo_value_128 ?_
  refine lv_ldc2 (v := 65535) hx hb X.ow (X.w k_992) d_Mo_value_129 ?_
  obtain ⟨q9, hv, hf⟩ := mbind hf
  refine m_caR (m_runS (As := [.long (((q8).toInt64 - (q7).toInt64) * (x7 - ((65535 : Int64) * (s0).toInt64))), .long (65535 : Int64)]) (rest := [.long ((q7).toInt64)]) X h_Mo_near k_993 (c_Mo_near hv) mPr_blind (m_pre G I) rfl rfl hl.1 (Nat.le_of_ble_eq_true rfl) rfl rfl ⟨Nat.le_of_ble_eq_true rfl, Nat.le_of_ble_eq_true rfl⟩ ⟨Nat.le_refl _, Nat.le_refl _⟩ d_Mo_value_132) ?_
  refine lv_ladd hx hb d_Mo_value_135 ?_
  obtain rfl := Option.some.inj hf
  exact r_lretR X d_Mo_value_136

set_option maxHeartbeats 4000000 in
set_option maxRecDepth 100000 in
theorem w_Mo_value {μ : mM} {h0 : Nat} {r : Int64} (X : mX p m meth c s args b_Mo_value 14 (some .long) "ColourLinkerModel") (G : mG D cA dA z0 s) (I : mI D cA z0 s μ s.heap [] s.heap.size) {ls : Array Slot} {x1 : Int32} {x2 : Int32} {x3 : Int64} (hf : f_Mo_value μ h0 x1 x2 x3 = some r) (hl : lv_has ls 14 [(0, va_rf (some h0)), (1, .int x1), (2, .int x2), (3, .long x3)]) : W p l e rm_Mo_value s m args below meth c s.heap [] 0 0 (MQ below (mQR (some (.long r))) args s 0 0 (fun _ => False)) (F0 m 0 ls []) := by
  have hx := X.ex
  have hb := X.by_
  unfold f_Mo_value at hf
  refine r_aload_n X d_Mo_value_0 rfl (lv_at hl 0 rfl) ?_
  refine lv_iload_n hx hb d_Mo_value_1 rfl (lv_at hl 1 rfl) ?_
  refine lv_iload_n hx hb d_Mo_value_2 rfl (lv_at hl 2 rfl) ?_
  obtain ⟨q1, hv, hf⟩ := mbind hf
  obtain ⟨a, ha, hv⟩ := mbind hv
  obtain ⟨ha, fs, hm⟩ := mrc_e ha
  refine m_caR (m_runV (As := [.int x1, .int x2]) (r := some h0) (rest := []) X G I h_Mo_data k_947 (c_Mo_data hv) mPr_blind (m_pre G I) hm rfl ha rfl rfl hl.1 (Nat.le_of_ble_eq_true rfl) rfl rfl ⟨Nat.le_of_ble_eq_true rfl, Nat.le_of_ble_eq_true rfl⟩ ⟨Nat.le_refl _, Nat.le_refl _⟩ d_Mo_value_3) ?_
  refine lv_istore (i := 5) (lv' := [(5, .int q1), (0, va_rf (some h0)), (1, .int x1), (2, .int x2), (3, .long x3)]) hx hb d_Mo_value_6 hl (by decide) rfl (fun ls hl => ?_)
  refine r_aload_n X d_Mo_value_8 rfl (lv_at hl 1 rfl) ?_
  refine lv_iload_n hx hb d_Mo_value_9 rfl (lv_at hl 2 rfl) ?_
  refine lv_iload hx hb d_Mo_value_10 (lv_at hl 0 rfl) ?_
  refine lv_iconst (v := 1) hx hb d_Mo_value_12 (by decide) ?_
  refine lv_iadd hx hb d_Mo_value_13 ?_
  obtain ⟨q2, hv, hf⟩ := mbind hf
  obtain ⟨a, ha, hv⟩ := mbind hv
  obtain ⟨ha, fs, hm⟩ := mrc_e ha
  refine m_caR (m_runV (As := [.int x1, .int (q1 + (1 : Int32))]) (r := some h0) (rest := []) X G I h_Mo_part k_955 (c_Mo_part hv) mPr_blind (m_pre G I) hm rfl ha rfl rfl hl.1 (Nat.le_of_ble_eq_true rfl) rfl rfl ⟨Nat.le_of_ble_eq_true rfl, Nat.le_of_ble_eq_true rfl⟩ ⟨Nat.le_refl _, Nat.le_refl _⟩ d_Mo_value_14) ?_
  refine lv_istore (i := 6) (lv' := [(6, .int q2), (5, .int q1), (0, va_rf (some h0)), (1, .int x1), (2, .int x2), (3, .long x3)]) hx hb d_Mo_value_17 hl (by decide) rfl (fun ls hl => ?_)
  refine r_aload_n X d_Mo_value_19 rfl (lv_at hl 2 rfl) ?_
  refine lv_iload_n hx hb d_Mo_value_20 rfl (lv_at hl 3 rfl) ?_
  refine lv_iload hx hb d_Mo_value_21 (lv_at hl 1 rfl) ?_
  obtain ⟨q3, hv, hf⟩ := mbind hf
  obtain ⟨a, ha, hv⟩ := mbind hv
  obtain ⟨ha, fs, hm⟩ := mrc_e ha
  refine m_caR (m_runV (As := [.int x1, .int q1]) (r := some h0) (rest := []) X G I h_Mo_part k_955 (c_Mo_part hv) mPr_blind (m_pre G I) hm rfl ha rfl rfl hl.1 (Nat.le_of_ble_eq_true rfl) rfl rfl ⟨Nat.le_of_ble_eq_true rfl, Nat.le_of_ble_eq_true rfl⟩ ⟨Nat.le_refl _, Nat.le_refl _⟩ d_Mo_value_23) ?_
  refine lv_iconst (v := 1) hx hb d_Mo_value_26 (by decide) ?_
  refine lv_icmp_ne (tgt := 137) hx hb d_Mo_value_27 (by decide) (fun hc => ?_) (fun hc => ?_)
  · have hf := miff hf hc
    refine lv_lload_n hx hb d_Mo_value_137 rfl (lv_at hl 5 rfl) ?_
    refine r_aload_n X d_Mo_value_138 rfl (lv_at hl 2 rfl) ?_
    refine lv_iload_n hx hb d_Mo_value_139 rfl (lv_at hl 3 rfl) ?_
    refine lv_iload hx hb d_Mo_value_140 (lv_at hl 1 rfl) ?_
    refine lv_iconst (v := 4) hx hb d_Mo_value_142 (by decide) ?_
    refine lv_iadd hx hb d_Mo_value_143 ?_
    obtain ⟨q4, hv, hf⟩ := mbind hf
    obtain ⟨a, ha, hv⟩ := mbind hv
    obtain ⟨ha, fs, hm⟩ := mrc_e ha
    refine m_caR (m_runV (As := [.int x1, .int (q1 + (4 : Int32))]) (r := some h0) (rest := [.long x3]) X G I h_Mo_word k_984 (c_Mo_word hv) mPr_blind (m_pre G I) hm rfl ha rfl rfl hl.1 (Nat.le_of_ble_eq_true rfl) rfl rfl ⟨Nat.le_of_ble_eq_true rfl, Nat.le_of_ble_eq_true rfl⟩ ⟨Nat.le_refl _, Nat.le_refl _⟩ d_Mo_value_144) ?_
    refine lv_i2l hx hb d_Mo_value_147 rfl ?_
    refine r_lcge (tgt := 171) X d_Mo_value_148 d_Mo_value_149 (by decide) (fun hc => ?_) (fun hc => ?_)
    · have hf := mift hf hc
      refine lv_lload_n hx hb d_Mo_value_171 rfl (lv_at hl 5 rfl) ?_
      refine lv_lstore (i := 7) (lv' := [(7, .long x3), (6, .int q2), (5, .int q1), (0, va_rf (some h0)), (1, .int x1), (2, .int x2), (3, .long x3)]) hx hb d_Mo_value_172 hl (by decide) rfl (fun ls hl => ?_)
      refine lv_iconst (v := 1) hx hb d_Mo_value_174 (by decide) ?_
      refine lv_istore (i := 9) (lv' := [(9, .int (1 : Int32)), (7, .long x3), (6, .int q2), (5, .int q1), (0, va_rf (some h0)), (1, .int x1), (2, .int x2), (3, .long x3)]) hx hb d_Mo_value_175 hl (by decide) rfl (fun ls hl => ?_)
      exact w_Mo_value_177 X G I (fun ls x7 hf hl => w_Mo_value_202 X G I hf hl) 4096 _ _ _ _ _ hf (lv_sub hl [4, 7, 2, 1, 0] rfl)
    · have hf := miff hf hc
      refine r_aload_n X d_Mo_value_152 rfl (lv_at hl 2 rfl) ?_
      refine lv_iload_n hx hb d_Mo_value_153 rfl (lv_at hl 3 rfl) ?_
      refine lv_iload hx hb d_Mo_value_154 (lv_at hl 1 rfl) ?_
      refine lv_iconst (v := 2) hx hb d_Mo_value_156 (by decide) ?_
      refine lv_iadd hx hb d_Mo_value_157 ?_
      obtain ⟨q5, hv, hf⟩ := mbind hf
      obtain ⟨a, ha, hv⟩ := mbind hv
      obtain ⟨ha, fs, hm⟩ := mrc_e ha
      refine m_caR (m_runV (As := [.int x1, .int (q1 + (2 : Int32))]) (r := some h0) (rest := []) X G I h_Mo_word k_984 (c_Mo_word hv) mPr_blind (m_pre G I) hm rfl ha rfl rfl hl.1 (Nat.le_of_ble_eq_true rfl) rfl rfl ⟨Nat.le_of_ble_eq_true rfl, Nat.le_of_ble_eq_true rfl⟩ ⟨Nat.le_refl _, Nat.le_refl _⟩ d_Mo_value_158) ?_
      refine lv_i2l hx hb d_Mo_value_161 rfl ?_
      refine lv_lload_n hx hb d_Mo_value_162 rfl (lv_at hl 5 rfl) ?_
      refine lv_lmul hx hb d_Mo_value_163 ?_
      refine lv_ldc2 (v := 256) hx hb X.ow (X.w k_997) d_Mo_value_164 ?_
      obtain ⟨q6, hv, hf⟩ := mbind hf
      refine m_caR (m_runS (As := [.long ((q5).toInt64 * x3), .long (256 : Int64)]) (rest := []) X h_Mo_clipNear k_998 (c_Mo_clipNear hv) mPr_blind (m_pre G I) rfl rfl hl.1 (Nat.le_of_ble_eq_true rfl) rfl rfl ⟨Nat.le_of_ble_eq_true rfl, Nat.le_of_ble_eq_true rfl⟩ ⟨Nat.le_refl _, Nat.le_refl _⟩ d_Mo_value_167) ?_
      obtain rfl := Option.some.inj hf
      exact r_lretR X d_Mo_value_170
  · have hf := mift hf hc
    refine lv_iload hx hb d_Mo_value_30 (lv_at hl 0 rfl) ?_
    refine lv_if_ne (tgt := 37) hx hb d_Mo_value_32 (by decide) (fun hc => ?_) (fun hc => ?_)
    · have hf := miff hf hc
      refine lv_lload_n hx hb d_Mo_value_37 rfl (lv_at hl 5 rfl) ?_
      refine lv_iload hx hb d_Mo_value_38 (lv_at hl 0 rfl) ?_
      refine lv_iconst (v := 1) hx hb d_Mo_value_40 (by decide) ?_
      refine lv_isub hx hb d_Mo_value_41 ?_
      refine lv_i2l hx hb d_Mo_value_42 rfl ?_
      refine lv_lmul hx hb d_Mo_value_43 ?_
      refine lv_lstore (i := 7) (lv' := [(7, .long (x3 * ((q2 - (1 : Int32))).toInt64)), (6, .int q2), (5, .int q1), (0, va_rf (some h0)), (1, .int x1), (2, .int x2), (3, .long x3)]) hx hb d_Mo_value_44 hl (by decide) rfl (fun ls hl => ?_)
      refine lv_lload hx hb d_Mo_value_46 (lv_at hl 0 rfl) ?_
      refine lv_ldc2 (v := 65535) hx hb X.ow (X.w k_992) d_Mo_value_48 ?_
      refine lv_ldiv hx hb d_Mo_value_51 (by decide) ?_
      refine lv_iload hx hb d_Mo_value_52 (lv_at hl 1 rfl) ?_
      refine lv_iconst (v := 2) hx hb d_Mo_value_54 (by decide) ?_
      refine lv_isub hx hb d_Mo_value_55 ?_
      refine lv_i2l hx hb d_Mo_value_56 rfl ?_
      refine r_lcge (tgt := 71) X d_Mo_value_57 d_Mo_value_58 (by decide) (fun hc => ?_) (fun hc => ?_)
      · have hf := mift hf hc
        refine lv_iload hx hb d_Mo_value_71 (lv_at hl 1 rfl) ?_
        refine lv_iconst (v := 2) hx hb d_Mo_value_73 (by decide) ?_
        refine lv_isub hx hb d_Mo_value_74 ?_
        exact w_Mo_value_75 X G I hf (lv_sub hl [3, 4, 2, 0] rfl)
      · have hf := miff hf hc
        refine lv_lload hx hb d_Mo_value_61 (lv_at hl 0 rfl) ?_
        refine lv_ldc2 (v := 65535) hx hb X.ow (X.w k_992) d_Mo_value_63 ?_
        refine lv_ldiv hx hb d_Mo_value_66 (by decide) ?_
        refine lv_l2i hx hb d_Mo_value_67 rfl ?_
        refine lv_goto (tgt := 75) hx hb d_Mo_value_68 (by decide) ?_
        exact w_Mo_value_75 X G I hf (lv_sub hl [3, 4, 2, 0] rfl)
    · have hf := mift hf hc
      refine lv_lload_n hx hb d_Mo_value_35 rfl (lv_at hl 5 rfl) ?_
      obtain rfl := Option.some.inj hf
      exact r_lretR X d_Mo_value_36

set_option maxHeartbeats 4000000 in
set_option maxRecDepth 100000 in
theorem c_Mo_value {l : Launch} {D : va_G} {cA : Nat → ClassId} {dA z0 : Nat} {μ : mM} {h0 : Nat} {x1 : Int32} {x2 : Int32} {x3 : Int64} {r : Int64} (hf : f_Mo_value μ h0 x1 x2 x3 = some r) : Met l y_Mo_value (mW y_Mo_value b_Mo_value 14 (some .long)) rm_Mo_value (va_Pc [.ref h0, .int x1, .int x2, .long x3] (mPr D cA dA z0 μ)) (mQR (some (.long r))) 0 0 (fun _ => False) := by
  refine Met.ofW (cc := b_Mo_value) (maxL := 14) (ret := (some .long)) (by decide) rfl ?_
  intro p e s m args below meth c s₁ B hml hv
  obtain ⟨rfl, G, hP⟩ := hv
  have X := mX.of B hml
  exact m_entry (lv := [(0, va_rf (some h0)), (1, .int x1), (2, .int x2), (3, .long x3)]) (Nat.le_of_ble_eq_true rfl) rfl (fun ls hl => w_Mo_value X G (mI.start hP) hf hl)

abbrev rm_Mo_rising : Room := { frames := 4, cells := 0, slots := 0, locals := 102 }
theorem h_Mo_rising : mCV y_Mo_rising b_Mo_rising 6 (some .boolean) 2 := ⟨k_983, k_79, ⟨by decide, by decide, by decide +kernel⟩, k_982, k_36⟩
set_option maxHeartbeats 4000000 in
set_option maxRecDepth 100000 in
theorem w_Mo_rising_129 {μ : mM} {h0 : Nat} {r : Int32} (X : mX p m meth c s args b_Mo_rising 6 (some .boolean) "ColourLinkerModel") (G : mG D cA dA z0 s) (I : mI D cA z0 s μ s.heap [] s.heap.size) {ls : Array Slot} {s0 : Int32} (hf : f_Mo_rising_129 μ h0 s0 = some r) (hl : lv_has ls 6 [(0, va_rf (some h0))]) : W p l e rm_Mo_rising s m args below meth c s.heap [] 0 0 (MQ below (mQR (some (.int r))) args s 0 0 (fun _ => False)) (F0 m 129 ls [.int s0]) := by
  have hx := X.ex
  have hb := X.by_
  unfold f_Mo_rising_129 at hf
  obtain ⟨v10, hv, hf⟩ := mbind hf
  obtain ⟨hz0, hz⟩ := mz_e hv
  rw [hz0] at hf
  obtain rfl := Option.some.inj hf
  exact r_zretR X hz d_Mo_rising_129

set_option maxHeartbeats 4000000 in
set_option maxRecDepth 100000 in
theorem w_Mo_rising_124 {μ : mM} {h0 : Nat} {r : Int32} (X : mX p m meth c s args b_Mo_rising 6 (some .boolean) "ColourLinkerModel") (G : mG D cA dA z0 s) (I : mI D cA z0 s μ s.heap [] s.heap.size) {ls : Array Slot}  (hf : f_Mo_rising_124 μ h0 = some r) (hl : lv_has ls 6 [(0, va_rf (some h0))]) : W p l e rm_Mo_rising s m args below meth c s.heap [] 0 0 (MQ below (mQR (some (.int r))) args s 0 0 (fun _ => False)) (F0 m 124 ls []) := by
  have hx := X.ex
  have hb := X.by_
  unfold f_Mo_rising_124 at hf
  refine lv_iconst (v := 1) hx hb d_Mo_rising_124 (by decide) ?_
  refine lv_goto (tgt := 129) hx hb d_Mo_rising_125 (by decide) ?_
  exact w_Mo_rising_129 X G I hf hl

set_option maxHeartbeats 4000000 in
set_option maxRecDepth 100000 in
theorem w_Mo_rising_81 {μ : mM} {h0 : Nat} {r : Int32} (X : mX p m meth c s args b_Mo_rising 6 (some .boolean) "ColourLinkerModel") (G : mG D cA dA z0 s) (I : mI D cA z0 s μ s.heap [] s.heap.size) {ls : Array Slot} {x4 : Int32} (hf : f_Mo_rising_81 μ h0 x4 = some r) (hl : lv_has ls 6 [(0, va_rf (some h0)), (4, .int x4)]) : W p l e rm_Mo_rising s m args below meth c s.heap [] 0 0 (MQ below (mQR (some (.int r))) args s 0 0 (fun _ => False)) (F0 m 81 ls []) := by
  have hx := X.ex
  have hb := X.by_
  unfold f_Mo_rising_81 at hf
  refine lv_iload hx hb d_Mo_rising_81 (lv_at hl 1 rfl) ?_
  obtain ⟨v9, hv, hf⟩ := mbind hf
  obtain ⟨hz0, hz⟩ := mz_e hv
  rw [hz0] at hf
  obtain rfl := Option.some.inj hf
  exact r_zretR X hz d_Mo_rising_83

set_option maxHeartbeats 4000000 in
set_option maxRecDepth 100000 in
theorem w_Mo_rising_73 {μ : mM} {h0 : Nat} {r : Int32} (X : mX p m meth c s args b_Mo_rising 6 (some .boolean) "ColourLinkerModel") (G : mG D cA dA z0 s) (I : mI D cA z0 s μ s.heap [] s.heap.size) {k : Int32 → Int32 → Int32 → Int32 → Option (Int32)} {kx81 : Int32 → Option (Int32)} (hk : ∀ (ls : Array Slot) (x1 : Int32) (x3 : Int32) (x4 : Int32) (x5 : Int32), k x1 x3 x4 x5 = some r → lv_has ls 6 [(0, va_rf (some h0)), (1, .int x1), (3, .int x3), (4, .int x4), (5, .int x5)] → W p l e rm_Mo_rising s m args below meth c s.heap [] 0 0 (MQ below (mQR (some (.int r))) args s 0 0 (fun _ => False)) (F0 m 23 ls [])) (hkx81 : ∀ (ls : Array Slot) (x4 : Int32), kx81 x4 = some r → lv_has ls 6 [(0, va_rf (some h0)), (4, .int x4)] → W p l e rm_Mo_rising s m args below meth c s.heap [] 0 0 (MQ below (mQR (some (.int r))) args s 0 0 (fun _ => False)) (F0 m 81 ls [])) {ls : Array Slot} {x1 : Int32} {x3 : Int32} {x5 : Int32} {s0 : Int32} (hf : f_Mo_rising_73 μ h0 k kx81 x1 x3 x5 s0 = some r) (hl : lv_has ls 6 [(0, va_rf (some h0)), (1, .int x1), (3, .int x3), (5, .int x5)]) : W p l e rm_Mo_rising s m args below meth c s.heap [] 0 0 (MQ below (mQR (some (.int r))) args s 0 0 (fun _ => False)) (F0 m 73 ls [.int s0]) := by
  have hx := X.ex
  have hb := X.by_
  unfold f_Mo_rising_73 at hf
  refine lv_istore (i := 4) (lv' := [(4, .int s0), (0, va_rf (some h0)), (1, .int x1), (3, .int x3), (5, .int x5)]) hx hb d_Mo_rising_73 hl (by decide) rfl (fun ls hl => ?_)
  refine lv_iinc (i := 5) (k := 4) (v := (x5 + (1 : Int32))) (lv' := [(5, .int (x5 + (1 : Int32))), (4, .int s0), (0, va_rf (some h0)), (1, .int x1), (3, .int x3)]) hx hb d_Mo_rising_75 hl rfl (congrArg (fun t => x5 + t) (by decide : Int32.ofInt (1) = (1 : Int32))) (by decide) rfl (fun ls hl => ?_)
  refine lv_goto (tgt := 23) hx hb d_Mo_rising_78 (by decide) ?_
  exact hk _ _ _ _ _ hf (lv_sub hl [2, 3, 4, 1, 0] rfl)

set_option maxHeartbeats 4000000 in
set_option maxRecDepth 100000 in
theorem w_Mo_rising_72 {μ : mM} {h0 : Nat} {r : Int32} (X : mX p m meth c s args b_Mo_rising 6 (some .boolean) "ColourLinkerModel") (G : mG D cA dA z0 s) (I : mI D cA z0 s μ s.heap [] s.heap.size) {k : Int32 → Int32 → Int32 → Int32 → Option (Int32)} {kx81 : Int32 → Option (Int32)} (hk : ∀ (ls : Array Slot) (x1 : Int32) (x3 : Int32) (x4 : Int32) (x5 : Int32), k x1 x3 x4 x5 = some r → lv_has ls 6 [(0, va_rf (some h0)), (1, .int x1), (3, .int x3), (4, .int x4), (5, .int x5)] → W p l e rm_Mo_rising s m args below meth c s.heap [] 0 0 (MQ below (mQR (some (.int r))) args s 0 0 (fun _ => False)) (F0 m 23 ls [])) (hkx81 : ∀ (ls : Array Slot) (x4 : Int32), kx81 x4 = some r → lv_has ls 6 [(0, va_rf (some h0)), (4, .int x4)] → W p l e rm_Mo_rising s m args below meth c s.heap [] 0 0 (MQ below (mQR (some (.int r))) args s 0 0 (fun _ => False)) (F0 m 81 ls [])) {ls : Array Slot} {x1 : Int32} {x3 : Int32} {x5 : Int32} (hf : f_Mo_rising_72 μ h0 k kx81 x1 x3 x5 = some r) (hl : lv_has ls 6 [(0, va_rf (some h0)), (1, .int x1), (3, .int x3), (5, .int x5)]) : W p l e rm_Mo_rising s m args below meth c s.heap [] 0 0 (MQ below (mQR (some (.int r))) args s 0 0 (fun _ => False)) (F0 m 72 ls []) := by
  have hx := X.ex
  have hb := X.by_
  unfold f_Mo_rising_72 at hf
  refine lv_iconst (v := 0) hx hb d_Mo_rising_72 (by decide) ?_
  exact w_Mo_rising_73 X G I hk hkx81 hf hl

set_option maxHeartbeats 4000000 in
set_option maxRecDepth 100000 in
theorem w_Mo_rising_23 {μ : mM} {h0 : Nat} {r : Int32} (X : mX p m meth c s args b_Mo_rising 6 (some .boolean) "ColourLinkerModel") (G : mG D cA dA z0 s) (I : mI D cA z0 s μ s.heap [] s.heap.size) {kx81 : Int32 → Option (Int32)} (hkx81 : ∀ (ls : Array Slot) (x4 : Int32), kx81 x4 = some r → lv_has ls 6 [(0, va_rf (some h0)), (4, .int x4)] → W p l e rm_Mo_rising s m args below meth c s.heap [] 0 0 (MQ below (mQR (some (.int r))) args s 0 0 (fun _ => False)) (F0 m 81 ls [])) : ∀ (n : Nat) (ls : Array Slot) (x1 : Int32) (x3 : Int32) (x4 : Int32) (x5 : Int32), f_Mo_rising_23 μ h0 kx81 n x1 x3 x4 x5 = some r → lv_has ls 6 [(0, va_rf (some h0)), (1, .int x1), (3, .int x3), (4, .int x4), (5, .int x5)] → W p l e rm_Mo_rising s m args below meth c s.heap [] 0 0 (MQ below (mQR (some (.int r))) args s 0 0 (fun _ => False)) (F0 m 23 ls []) := by
  have hx := X.ex
  have hb := X.by_
  intro n
  induction n with
  | zero => intro ls x1 x3 x4 x5 hf hl; rw [f_Mo_rising_23] at hf; cases hf
  | succ n ih =>
    intro ls x1 x3 x4 x5 hf hl
    rw [f_Mo_rising_23] at hf
    refine lv_iload hx hb d_Mo_rising_23 (lv_at hl 4 rfl) ?_
    refine r_aload_n X d_Mo_rising_25 rfl (lv_at hl 0 rfl) ?_
    refine lv_iload_n hx hb d_Mo_rising_26 rfl (lv_at hl 1 rfl) ?_
    refine lv_iload_n hx hb d_Mo_rising_27 rfl (lv_at hl 2 rfl) ?_
    refine lv_iconst (v := 1) hx hb d_Mo_rising_28 (by decide) ?_
    refine lv_iadd hx hb d_Mo_rising_29 ?_
    obtain ⟨q6, hv, hf⟩ := mbind hf
    obtain ⟨a, ha, hv⟩ := mbind hv
    obtain ⟨ha, fs, hm⟩ := mrc_e ha
    refine m_caR (m_runV (As := [.int x1, .int (x3 + (1 : Int32))]) (r := some h0) (rest := [.int x5]) X G I h_Mo_part k_955 (c_Mo_part hv) mPr_blind (m_pre G I) hm rfl ha rfl rfl hl.1 (Nat.le_of_ble_eq_true rfl) rfl rfl ⟨Nat.le_of_ble_eq_true rfl, Nat.le_of_ble_eq_true rfl⟩ ⟨Nat.le_refl _, Nat.le_refl _⟩ d_Mo_rising_30) ?_
    refine lv_icmp_ge (tgt := 81) hx hb d_Mo_rising_33 (by decide) (fun hc => ?_) (fun hc => ?_)
    · have hf := mift hf hc
      exact hkx81 _ _ hf (lv_sub hl [0, 3] rfl)
    · have hf := miff hf hc
      refine lv_iload hx hb d_Mo_rising_36 (lv_at hl 3 rfl) ?_
      refine lv_if_eq (tgt := 72) hx hb d_Mo_rising_38 (by decide) (fun hc => ?_) (fun hc => ?_)
      · have hf := mift hf hc
        exact w_Mo_rising_72 X G I ih hkx81 hf (lv_sub hl [0, 1, 2, 4] rfl)
      · have hf := miff hf hc
        refine r_aload_n X d_Mo_rising_41 rfl (lv_at hl 0 rfl) ?_
        refine lv_iload_n hx hb d_Mo_rising_42 rfl (lv_at hl 1 rfl) ?_
        refine lv_iload_n hx hb d_Mo_rising_43 rfl (lv_at hl 2 rfl) ?_
        refine lv_iconst (v := 2) hx hb d_Mo_rising_44 (by decide) ?_
        refine lv_iadd hx hb d_Mo_rising_45 ?_
        refine lv_iconst (v := 2) hx hb d_Mo_rising_46 (by decide) ?_
        refine lv_iload hx hb d_Mo_rising_47 (lv_at hl 4 rfl) ?_
        refine lv_imul hx hb d_Mo_rising_49 ?_
        refine lv_iadd hx hb d_Mo_rising_50 ?_
        obtain ⟨q7, hv, hf⟩ := mbind hf
        obtain ⟨a, ha, hv⟩ := mbind hv
        obtain ⟨ha, fs, hm⟩ := mrc_e ha
        refine m_caR (m_runV (As := [.int x1, .int ((x3 + (2 : Int32)) + ((2 : Int32) * x5))]) (r := some h0) (rest := []) X G I h_Mo_word k_984 (c_Mo_word hv) mPr_blind (m_pre G I) hm rfl ha rfl rfl hl.1 (Nat.le_of_ble_eq_true rfl) rfl rfl ⟨Nat.le_of_ble_eq_true rfl, Nat.le_of_ble_eq_true rfl⟩ ⟨Nat.le_refl _, Nat.le_refl _⟩ d_Mo_rising_51) ?_
        refine r_aload_n X d_Mo_rising_54 rfl (lv_at hl 0 rfl) ?_
        refine lv_iload_n hx hb d_Mo_rising_55 rfl (lv_at hl 1 rfl) ?_
        refine lv_iload_n hx hb d_Mo_rising_56 rfl (lv_at hl 2 rfl) ?_
        refine lv_iconst (v := 2) hx hb d_Mo_rising_57 (by decide) ?_
        refine lv_iload hx hb d_Mo_rising_58 (lv_at hl 4 rfl) ?_
        refine lv_imul hx hb d_Mo_rising_60 ?_
        refine lv_iadd hx hb d_Mo_rising_61 ?_
        obtain ⟨q8, hv, hf⟩ := mbind hf
        obtain ⟨a, ha, hv⟩ := mbind hv
        obtain ⟨ha, fs, hm⟩ := mrc_e ha
        refine m_caR (m_runV (As := [.int x1, .int (x3 + ((2 : Int32) * x5))]) (r := some h0) (rest := [.int q7]) X G I h_Mo_word k_984 (c_Mo_word hv) mPr_blind (m_pre G I) hm rfl ha rfl rfl hl.1 (Nat.le_of_ble_eq_true rfl) rfl rfl ⟨Nat.le_of_ble_eq_true rfl, Nat.le_of_ble_eq_true rfl⟩ ⟨Nat.le_refl _, Nat.le_refl _⟩ d_Mo_rising_62) ?_
        refine lv_icmp_le (tgt := 72) hx hb d_Mo_rising_65 (by decide) (fun hc => ?_) (fun hc => ?_)
        · have hf := mift hf hc
          exact w_Mo_rising_72 X G I ih hkx81 hf (lv_sub hl [0, 1, 2, 4] rfl)
        · have hf := miff hf hc
          refine lv_iconst (v := 1) hx hb d_Mo_rising_68 (by decide) ?_
          refine lv_goto (tgt := 73) hx hb d_Mo_rising_69 (by decide) ?_
          exact w_Mo_rising_73 X G I ih hkx81 hf (lv_sub hl [0, 1, 2, 4] rfl)

set_option maxHeartbeats 4000000 in
set_option maxRecDepth 100000 in
theorem w_Mo_rising {μ : mM} {h0 : Nat} {r : Int32} (X : mX p m meth c s args b_Mo_rising 6 (some .boolean) "ColourLinkerModel") (G : mG D cA dA z0 s) (I : mI D cA z0 s μ s.heap [] s.heap.size) {ls : Array Slot} {x1 : Int32} {x2 : Int32} (hf : f_Mo_rising μ h0 x1 x2 = some r) (hl : lv_has ls 6 [(0, va_rf (some h0)), (1, .int x1), (2, .int x2)]) : W p l e rm_Mo_rising s m args below meth c s.heap [] 0 0 (MQ below (mQR (some (.int r))) args s 0 0 (fun _ => False)) (F0 m 0 ls []) := by
  have hx := X.ex
  have hb := X.by_
  unfold f_Mo_rising at hf
  refine r_aload_n X d_Mo_rising_0 rfl (lv_at hl 0 rfl) ?_
  refine lv_iload_n hx hb d_Mo_rising_1 rfl (lv_at hl 1 rfl) ?_
  refine lv_iload_n hx hb d_Mo_rising_2 rfl (lv_at hl 2 rfl) ?_
  obtain ⟨q1, hv, hf⟩ := mbind hf
  obtain ⟨a, ha, hv⟩ := mbind hv
  obtain ⟨ha, fs, hm⟩ := mrc_e ha
  refine m_caR (m_runV (As := [.int x1, .int x2]) (r := some h0) (rest := []) X G I h_Mo_data k_947 (c_Mo_data hv) mPr_blind (m_pre G I) hm rfl ha rfl rfl hl.1 (Nat.le_of_ble_eq_true rfl) rfl rfl ⟨Nat.le_of_ble_eq_true rfl, Nat.le_of_ble_eq_true rfl⟩ ⟨Nat.le_refl _, Nat.le_refl _⟩ d_Mo_rising_3) ?_
  refine lv_istore_n (i := 3) (lv' := [(3, .int q1), (0, va_rf (some h0)), (1, .int x1), (2, .int x2)]) hx hb d_Mo_rising_6 rfl hl (by decide) rfl (fun ls hl => ?_)
  refine r_aload_n X d_Mo_rising_7 rfl (lv_at hl 1 rfl) ?_
  refine lv_iload_n hx hb d_Mo_rising_8 rfl (lv_at hl 2 rfl) ?_
  refine lv_iload_n hx hb d_Mo_rising_9 rfl (lv_at hl 0 rfl) ?_
  obtain ⟨q2, hv, hf⟩ := mbind hf
  obtain ⟨a, ha, hv⟩ := mbind hv
  obtain ⟨ha, fs, hm⟩ := mrc_e ha
  refine m_caR (m_runV (As := [.int x1, .int q1]) (r := some h0) (rest := []) X G I h_Mo_part k_955 (c_Mo_part hv) mPr_blind (m_pre G I) hm rfl ha rfl rfl hl.1 (Nat.le_of_ble_eq_true rfl) rfl rfl ⟨Nat.le_of_ble_eq_true rfl, Nat.le_of_ble_eq_true rfl⟩ ⟨Nat.le_refl _, Nat.le_refl _⟩ d_Mo_rising_10) ?_
  refine lv_iconst (v := 1) hx hb d_Mo_rising_13 (by decide) ?_
  refine lv_icmp_ne (tgt := 84) hx hb d_Mo_rising_14 (by decide) (fun hc => ?_) (fun hc => ?_)
  · have hf := miff hf hc
    refine r_aload_n X d_Mo_rising_84 rfl (lv_at hl 1 rfl) ?_
    refine lv_iload_n hx hb d_Mo_rising_85 rfl (lv_at hl 2 rfl) ?_
    refine lv_iload_n hx hb d_Mo_rising_86 rfl (lv_at hl 0 rfl) ?_
    refine lv_iconst (v := 4) hx hb d_Mo_rising_87 (by decide) ?_
    refine lv_iadd hx hb d_Mo_rising_88 ?_
    obtain ⟨q3, hv, hf⟩ := mbind hf
    obtain ⟨a, ha, hv⟩ := mbind hv
    obtain ⟨ha, fs, hm⟩ := mrc_e ha
    refine m_caR (m_runV (As := [.int x1, .int (q1 + (4 : Int32))]) (r := some h0) (rest := []) X G I h_Mo_word k_984 (c_Mo_word hv) mPr_blind (m_pre G I) hm rfl ha rfl rfl hl.1 (Nat.le_of_ble_eq_true rfl) rfl rfl ⟨Nat.le_of_ble_eq_true rfl, Nat.le_of_ble_eq_true rfl⟩ ⟨Nat.le_refl _, Nat.le_refl _⟩ d_Mo_rising_89) ?_
    refine lv_i2l hx hb d_Mo_rising_92 rfl ?_
    refine lv_lstore (i := 4) (lv' := [(4, .long ((q3).toInt64)), (3, .int q1), (0, va_rf (some h0)), (1, .int x1), (2, .int x2)]) hx hb d_Mo_rising_93 hl (by decide) rfl (fun ls hl => ?_)
    refine lv_lload hx hb d_Mo_rising_95 (lv_at hl 0 rfl) ?_
    refine lv_lconst (v := 0) hx hb d_Mo_rising_97 (by decide) ?_
    refine r_lceq (tgt := 124) X d_Mo_rising_98 d_Mo_rising_99 (by decide) (fun hc => ?_) (fun hc => ?_)
    · have hf := mift hf hc
      exact w_Mo_rising_124 X G I hf (lv_sub hl [2] rfl)
    · have hf := miff hf hc
      refine r_aload_n X d_Mo_rising_102 rfl (lv_at hl 2 rfl) ?_
      refine lv_iload_n hx hb d_Mo_rising_103 rfl (lv_at hl 3 rfl) ?_
      refine lv_iload_n hx hb d_Mo_rising_104 rfl (lv_at hl 4 rfl) ?_
      refine lv_lload hx hb d_Mo_rising_105 (lv_at hl 0 rfl) ?_
      refine lv_lconst (v := 1) hx hb d_Mo_rising_107 (by decide) ?_
      refine lv_lsub hx hb d_Mo_rising_108 ?_
      obtain ⟨q4, hv, hf⟩ := mbind hf
      obtain ⟨a, ha, hv⟩ := mbind hv
      obtain ⟨ha, fs, hm⟩ := mrc_e ha
      refine m_caR (m_runV (As := [.int x1, .int x2, .long ((q3).toInt64 - (1 : Int64))]) (r := some h0) (rest := []) X G I h_Mo_value k_988 (c_Mo_value hv) mPr_blind (m_pre G I) hm rfl ha rfl rfl hl.1 (Nat.le_of_ble_eq_true rfl) rfl rfl ⟨Nat.le_of_ble_eq_true rfl, Nat.le_of_ble_eq_true rfl⟩ ⟨Nat.le_refl _, Nat.le_refl _⟩ d_Mo_rising_109) ?_
      refine r_aload_n X d_Mo_rising_112 rfl (lv_at hl 2 rfl) ?_
      refine lv_iload_n hx hb d_Mo_rising_113 rfl (lv_at hl 3 rfl) ?_
      refine lv_iload_n hx hb d_Mo_rising_114 rfl (lv_at hl 4 rfl) ?_
      refine lv_lload hx hb d_Mo_rising_115 (lv_at hl 0 rfl) ?_
      obtain ⟨q5, hv, hf⟩ := mbind hf
      obtain ⟨a, ha, hv⟩ := mbind hv
      obtain ⟨ha, fs, hm⟩ := mrc_e ha
      refine m_caR (m_runV (As := [.int x1, .int x2, .long ((q3).toInt64)]) (r := some h0) (rest := [.long q4]) X G I h_Mo_value k_988 (c_Mo_value hv) mPr_blind (m_pre G I) hm rfl ha rfl rfl hl.1 (Nat.le_of_ble_eq_true rfl) rfl rfl ⟨Nat.le_of_ble_eq_true rfl, Nat.le_of_ble_eq_true rfl⟩ ⟨Nat.le_refl _, Nat.le_refl _⟩ d_Mo_rising_117) ?_
      refine r_lcgt (tgt := 128) X d_Mo_rising_120 d_Mo_rising_121 (by decide) (fun hc => ?_) (fun hc => ?_)
      · have hf := mift hf hc
        refine lv_iconst (v := 0) hx hb d_Mo_rising_128 (by decide) ?_
        exact w_Mo_rising_129 X G I hf (lv_sub hl [2] rfl)
      · have hf := miff hf hc
        exact w_Mo_rising_124 X G I hf (lv_sub hl [2] rfl)
  · have hf := mift hf hc
    refine lv_iconst (v := 1) hx hb d_Mo_rising_17 (by decide) ?_
    refine lv_istore (i := 4) (lv' := [(4, .int (1 : Int32)), (3, .int q1), (0, va_rf (some h0)), (1, .int x1), (2, .int x2)]) hx hb d_Mo_rising_18 hl (by decide) rfl (fun ls hl => ?_)
    refine lv_iconst (v := 1) hx hb d_Mo_rising_20 (by decide) ?_
    refine lv_istore (i := 5) (lv' := [(5, .int (1 : Int32)), (4, .int (1 : Int32)), (3, .int q1), (0, va_rf (some h0)), (1, .int x1), (2, .int x2)]) hx hb d_Mo_rising_21 hl (by decide) rfl (fun ls hl => ?_)
    exact w_Mo_rising_23 X G I (fun ls x4 hf hl => w_Mo_rising_81 X G I hf hl) 4096 _ _ _ _ _ hf (lv_sub hl [3, 4, 2, 1, 0] rfl)

set_option maxHeartbeats 4000000 in
set_option maxRecDepth 100000 in
theorem c_Mo_rising {l : Launch} {D : va_G} {cA : Nat → ClassId} {dA z0 : Nat} {μ : mM} {h0 : Nat} {x1 : Int32} {x2 : Int32} {r : Int32} (hf : f_Mo_rising μ h0 x1 x2 = some r) : Met l y_Mo_rising (mW y_Mo_rising b_Mo_rising 6 (some .boolean)) rm_Mo_rising (va_Pc [.ref h0, .int x1, .int x2] (mPr D cA dA z0 μ)) (mQR (some (.int r))) 0 0 (fun _ => False) := by
  refine Met.ofW (cc := b_Mo_rising) (maxL := 6) (ret := (some .boolean)) (by decide) rfl ?_
  intro p e s m args below meth c s₁ B hml hv
  obtain ⟨rfl, G, hP⟩ := hv
  have X := mX.of B hml
  exact m_entry (lv := [(0, va_rf (some h0)), (1, .int x1), (2, .int x2)]) (Nat.le_of_ble_eq_true rfl) rfl (fun ls hl => w_Mo_rising X G (mI.start hP) hf hl)

abbrev rm_Mo_inverse : Room := { frames := 4, cells := 0, slots := 0, locals := 102 }
theorem h_Mo_inverse : mCV y_Mo_inverse b_Mo_inverse 11 (some .long) 3 := ⟨k_1007, k_79, ⟨by decide, by decide, by decide +kernel⟩, k_1006, k_39⟩
set_option maxHeartbeats 4000000 in
set_option maxRecDepth 100000 in
theorem w_Mo_inverse_60 {μ : mM} {h0 : Nat} {r : Int64} (X : mX p m meth c s args b_Mo_inverse 11 (some .long) "ColourLinkerModel") (G : mG D cA dA z0 s) (I : mI D cA z0 s μ s.heap [] s.heap.size) {ls : Array Slot} {x5 : Int64} (hf : f_Mo_inverse_60 μ h0 x5 = some r) (hl : lv_has ls 11 [(0, va_rf (some h0)), (5, .long x5)]) : W p l e rm_Mo_inverse s m args below meth c s.heap [] 0 0 (MQ below (mQR (some (.long r))) args s 0 0 (fun _ => False)) (F0 m 60 ls []) := by
  have hx := X.ex
  have hb := X.by_
  unfold f_Mo_inverse_60 at hf
  refine lv_lload hx hb d_Mo_inverse_60 (lv_at hl 1 rfl) ?_
  obtain rfl := Option.some.inj hf
  exact r_lretR X d_Mo_inverse_62

set_option maxHeartbeats 4000000 in
set_option maxRecDepth 100000 in
theorem w_Mo_inverse_47 {μ : mM} {h0 : Nat} {r : Int64} (X : mX p m meth c s args b_Mo_inverse 11 (some .long) "ColourLinkerModel") (G : mG D cA dA z0 s) (I : mI D cA z0 s μ s.heap [] s.heap.size) {k : Int32 → Int32 → Int64 → Int64 → Int64 → Option (Int64)} {kx60 : Int64 → Option (Int64)} (hk : ∀ (ls : Array Slot) (x1 : Int32) (x2 : Int32) (x3 : Int64) (x5 : Int64) (x7 : Int64), k x1 x2 x3 x5 x7 = some r → lv_has ls 11 [(0, va_rf (some h0)), (1, .int x1), (2, .int x2), (3, .long x3), (5, .long x5), (7, .long x7)] → W p l e rm_Mo_inverse s m args below meth c s.heap [] 0 0 (MQ below (mQR (some (.long r))) args s 0 0 (fun _ => False)) (F0 m 8 ls [])) (hkx60 : ∀ (ls : Array Slot) (x5 : Int64), kx60 x5 = some r → lv_has ls 11 [(0, va_rf (some h0)), (5, .long x5)] → W p l e rm_Mo_inverse s m args below meth c s.heap [] 0 0 (MQ below (mQR (some (.long r))) args s 0 0 (fun _ => False)) (F0 m 60 ls [])) {ls : Array Slot} {x1 : Int32} {x2 : Int32} {x3 : Int64} {x7 : Int64} {s0 : Int64} (hf : f_Mo_inverse_47 μ h0 k kx60 x1 x2 x3 x7 s0 = some r) (hl : lv_has ls 11 [(0, va_rf (some h0)), (1, .int x1), (2, .int x2), (3, .long x3), (7, .long x7)]) : W p l e rm_Mo_inverse s m args below meth c s.heap [] 0 0 (MQ below (mQR (some (.long r))) args s 0 0 (fun _ => False)) (F0 m 47 ls [.long s0]) := by
  have hx := X.ex
  have hb := X.by_
  unfold f_Mo_inverse_47 at hf
  refine lv_lstore (i := 5) (lv' := [(5, .long s0), (0, va_rf (some h0)), (1, .int x1), (2, .int x2), (3, .long x3), (7, .long x7)]) hx hb d_Mo_inverse_47 hl (by decide) rfl (fun ls hl => ?_)
  refine lv_lload hx hb d_Mo_inverse_49 (lv_at hl 5 rfl) ?_
  refine lv_ldc2 (v := 2) hx hb X.ow (X.w k_996) d_Mo_inverse_51 ?_
  refine lv_ldiv hx hb d_Mo_inverse_54 (by decide) ?_
  refine lv_lstore (i := 7) (lv' := [(7, .long (x7 / (2 : Int64))), (5, .long s0), (0, va_rf (some h0)), (1, .int x1), (2, .int x2), (3, .long x3)]) hx hb d_Mo_inverse_55 hl (by decide) rfl (fun ls hl => ?_)
  refine lv_goto (tgt := 8) hx hb d_Mo_inverse_57 (by decide) ?_
  exact hk _ _ _ _ _ _ hf (lv_sub hl [2, 3, 4, 5, 1, 0] rfl)

set_option maxHeartbeats 4000000 in
set_option maxRecDepth 100000 in
theorem w_Mo_inverse_8 {μ : mM} {h0 : Nat} {r : Int64} (X : mX p m meth c s args b_Mo_inverse 11 (some .long) "ColourLinkerModel") (G : mG D cA dA z0 s) (I : mI D cA z0 s μ s.heap [] s.heap.size) {kx60 : Int64 → Option (Int64)} (hkx60 : ∀ (ls : Array Slot) (x5 : Int64), kx60 x5 = some r → lv_has ls 11 [(0, va_rf (some h0)), (5, .long x5)] → W p l e rm_Mo_inverse s m args below meth c s.heap [] 0 0 (MQ below (mQR (some (.long r))) args s 0 0 (fun _ => False)) (F0 m 60 ls [])) : ∀ (n : Nat) (ls : Array Slot) (x1 : Int32) (x2 : Int32) (x3 : Int64) (x5 : Int64) (x7 : Int64), f_Mo_inverse_8 μ h0 kx60 n x1 x2 x3 x5 x7 = some r → lv_has ls 11 [(0, va_rf (some h0)), (1, .int x1), (2, .int x2), (3, .long x3), (5, .long x5), (7, .long x7)] → W p l e rm_Mo_inverse s m args below meth c s.heap [] 0 0 (MQ below (mQR (some (.long r))) args s 0 0 (fun _ => False)) (F0 m 8 ls []) := by
  have hx := X.ex
  have hb := X.by_
  intro n
  induction n with
  | zero => intro ls x1 x2 x3 x5 x7 hf hl; rw [f_Mo_inverse_8] at hf; cases hf
  | succ n ih =>
    intro ls x1 x2 x3 x5 x7 hf hl
    rw [f_Mo_inverse_8] at hf
    refine lv_lload hx hb d_Mo_inverse_8 (lv_at hl 5 rfl) ?_
    refine lv_lconst (v := 0) hx hb d_Mo_inverse_10 (by decide) ?_
    refine r_lcle (tgt := 60) X d_Mo_inverse_11 d_Mo_inverse_12 (by decide) (fun hc => ?_) (fun hc => ?_)
    · have hf := mift hf hc
      exact hkx60 _ _ hf (lv_sub hl [0, 4] rfl)
    · have hf := miff hf hc
      refine r_aload_n X d_Mo_inverse_15 rfl (lv_at hl 0 rfl) ?_
      refine lv_iload_n hx hb d_Mo_inverse_16 rfl (lv_at hl 1 rfl) ?_
      refine lv_iload_n hx hb d_Mo_inverse_17 rfl (lv_at hl 2 rfl) ?_
      refine lv_lload hx hb d_Mo_inverse_18 (lv_at hl 4 rfl) ?_
      refine lv_lload hx hb d_Mo_inverse_20 (lv_at hl 5 rfl) ?_
      refine lv_ladd hx hb d_Mo_inverse_22 ?_
      refine lv_lconst (v := 1) hx hb d_Mo_inverse_23 (by decide) ?_
      refine lv_lsub hx hb d_Mo_inverse_24 ?_
      obtain ⟨q1, hv, hf⟩ := mbind hf
      obtain ⟨a, ha, hv⟩ := mbind hv
      obtain ⟨ha, fs, hm⟩ := mrc_e ha
      refine m_caR (m_runV (As := [.int x1, .int x2, .long ((x5 + x7) - (1 : Int64))]) (r := some h0) (rest := []) X G I h_Mo_value k_988 (c_Mo_value hv) mPr_blind (m_pre G I) hm rfl ha rfl rfl hl.1 (Nat.le_of_ble_eq_true rfl) rfl rfl ⟨Nat.le_of_ble_eq_true rfl, Nat.le_of_ble_eq_true rfl⟩ ⟨Nat.le_refl _, Nat.le_refl _⟩ d_Mo_inverse_25) ?_
      refine lv_lstore (i := 9) (lv' := [(9, .long q1), (0, va_rf (some h0)), (1, .int x1), (2, .int x2), (3, .long x3), (5, .long x5), (7, .long x7)]) hx hb d_Mo_inverse_28 hl (by decide) rfl (fun ls hl => ?_)
      refine lv_lload hx hb d_Mo_inverse_30 (lv_at hl 0 rfl) ?_
      refine lv_lload_n hx hb d_Mo_inverse_32 rfl (lv_at hl 4 rfl) ?_
      refine r_lcge (tgt := 45) X d_Mo_inverse_33 d_Mo_inverse_34 (by decide) (fun hc => ?_) (fun hc => ?_)
      · have hf := mift hf hc
        refine lv_lload hx hb d_Mo_inverse_45 (lv_at hl 5 rfl) ?_
        exact w_Mo_inverse_47 X G I ih hkx60 hf (lv_sub hl [1, 2, 3, 4, 6] rfl)
      · have hf := miff hf hc
        refine lv_lload hx hb d_Mo_inverse_37 (lv_at hl 5 rfl) ?_
        refine lv_lload hx hb d_Mo_inverse_39 (lv_at hl 6 rfl) ?_
        refine lv_ladd hx hb d_Mo_inverse_41 ?_
        refine lv_goto (tgt := 47) hx hb d_Mo_inverse_42 (by decide) ?_
        exact w_Mo_inverse_47 X G I ih hkx60 hf (lv_sub hl [1, 2, 3, 4, 6] rfl)

set_option maxHeartbeats 4000000 in
set_option maxRecDepth 100000 in
theorem w_Mo_inverse {μ : mM} {h0 : Nat} {r : Int64} (X : mX p m meth c s args b_Mo_inverse 11 (some .long) "ColourLinkerModel") (G : mG D cA dA z0 s) (I : mI D cA z0 s μ s.heap [] s.heap.size) {ls : Array Slot} {x1 : Int32} {x2 : Int32} {x3 : Int64} (hf : f_Mo_inverse μ h0 x1 x2 x3 = some r) (hl : lv_has ls 11 [(0, va_rf (some h0)), (1, .int x1), (2, .int x2), (3, .long x3)]) : W p l e rm_Mo_inverse s m args below meth c s.heap [] 0 0 (MQ below (mQR (some (.long r))) args s 0 0 (fun _ => False)) (F0 m 0 ls []) := by
  have hx := X.ex
  have hb := X.by_
  unfold f_Mo_inverse at hf
  refine lv_lconst (v := 0) hx hb d_Mo_inverse_0 (by decide) ?_
  refine lv_lstore (i := 5) (lv' := [(5, .long (0 : Int64)), (0, va_rf (some h0)), (1, .int x1), (2, .int x2), (3, .long x3)]) hx hb d_Mo_inverse_1 hl (by decide) rfl (fun ls hl => ?_)
  refine lv_ldc2 (v := 32768) hx hb X.ow (X.w k_1008) d_Mo_inverse_3 ?_
  refine lv_lstore (i := 7) (lv' := [(7, .long (32768 : Int64)), (5, .long (0 : Int64)), (0, va_rf (some h0)), (1, .int x1), (2, .int x2), (3, .long x3)]) hx hb d_Mo_inverse_6 hl (by decide) rfl (fun ls hl => ?_)
  exact w_Mo_inverse_8 X G I (fun ls x5 hf hl => w_Mo_inverse_60 X G I hf hl) 4096 _ _ _ _ _ _ hf (lv_sub hl [2, 3, 4, 5, 1, 0] rfl)

set_option maxHeartbeats 4000000 in
set_option maxRecDepth 100000 in
theorem c_Mo_inverse {l : Launch} {D : va_G} {cA : Nat → ClassId} {dA z0 : Nat} {μ : mM} {h0 : Nat} {x1 : Int32} {x2 : Int32} {x3 : Int64} {r : Int64} (hf : f_Mo_inverse μ h0 x1 x2 x3 = some r) : Met l y_Mo_inverse (mW y_Mo_inverse b_Mo_inverse 11 (some .long)) rm_Mo_inverse (va_Pc [.ref h0, .int x1, .int x2, .long x3] (mPr D cA dA z0 μ)) (mQR (some (.long r))) 0 0 (fun _ => False) := by
  refine Met.ofW (cc := b_Mo_inverse) (maxL := 11) (ret := (some .long)) (by decide) rfl ?_
  intro p e s m args below meth c s₁ B hml hv
  obtain ⟨rfl, G, hP⟩ := hv
  have X := mX.of B hml
  exact m_entry (lv := [(0, va_rf (some h0)), (1, .int x1), (2, .int x2), (3, .long x3)]) (Nat.le_of_ble_eq_true rfl) rfl (fun ls hl => w_Mo_inverse X G (mI.start hP) hf hl)

abbrev rm_Mo_curve : Room := { frames := 5, cells := 0, slots := 0, locals := 132 }
theorem h_Mo_curve : mCV y_Mo_curve b_Mo_curve 5 (some .int) 4 := ⟨k_978, k_79, ⟨by decide, by decide, by decide +kernel⟩, k_976, k_977⟩
set_option maxHeartbeats 4000000 in
set_option maxRecDepth 100000 in
theorem w_Mo_curve_79 {μ : mM} {h0 : Nat} {r : Int32} (X : mX p m meth c s args b_Mo_curve 5 (some .int) "ColourLinkerModel") (G : mG D cA dA z0 s) (I : mI D cA z0 s μ s.heap [] s.heap.size) {ls : Array Slot} {s0 : Int64} (hf : f_Mo_curve_79 μ h0 s0 = some r) (hl : lv_has ls 5 [(0, va_rf (some h0))]) : W p l e rm_Mo_curve s m args below meth c s.heap [] 0 0 (MQ below (mQR (some (.int r))) args s 0 0 (fun _ => False)) (F0 m 79 ls [.long s0]) := by
  have hx := X.ex
  have hb := X.by_
  unfold f_Mo_curve_79 at hf
  refine lv_l2i hx hb d_Mo_curve_79 rfl ?_
  obtain rfl := Option.some.inj hf
  exact r_iretR X d_Mo_curve_80

set_option maxHeartbeats 4000000 in
set_option maxRecDepth 100000 in
theorem w_Mo_curve_55 {μ : mM} {h0 : Nat} {r : Int32} (X : mX p m meth c s args b_Mo_curve 5 (some .int) "ColourLinkerModel") (G : mG D cA dA z0 s) (I : mI D cA z0 s μ s.heap [] s.heap.size) {ls : Array Slot} {x1 : Int32} {x2 : Int32} {x3 : Int32} {x4 : Int32} (hf : f_Mo_curve_55 μ h0 x1 x2 x3 x4 = some r) (hl : lv_has ls 5 [(0, va_rf (some h0)), (1, .int x1), (2, .int x2), (3, .int x3), (4, .int x4)]) : W p l e rm_Mo_curve s m args below meth c s.heap [] 0 0 (MQ below (mQR (some (.int r))) args s 0 0 (fun _ => False)) (F0 m 55 ls []) := by
  have hx := X.ex
  have hb := X.by_
  unfold f_Mo_curve_55 at hf
  refine lv_iload hx hb d_Mo_curve_55 (lv_at hl 4 rfl) ?_
  refine lv_if_eq (tgt := 71) hx hb d_Mo_curve_57 (by decide) (fun hc => ?_) (fun hc => ?_)
  · have hf := mift hf hc
    refine r_aload_n X d_Mo_curve_71 rfl (lv_at hl 0 rfl) ?_
    refine lv_iload_n hx hb d_Mo_curve_72 rfl (lv_at hl 1 rfl) ?_
    refine lv_iload_n hx hb d_Mo_curve_73 rfl (lv_at hl 2 rfl) ?_
    refine lv_iload_n hx hb d_Mo_curve_74 rfl (lv_at hl 3 rfl) ?_
    refine lv_i2l hx hb d_Mo_curve_75 rfl ?_
    obtain ⟨q4, hv, hf⟩ := mbind hf
    obtain ⟨a, ha, hv⟩ := mbind hv
    obtain ⟨ha, fs, hm⟩ := mrc_e ha
    refine m_caR (m_runV (As := [.int x1, .int x2, .long ((x3).toInt64)]) (r := some h0) (rest := []) X G I h_Mo_value k_988 (c_Mo_value hv) mPr_blind (m_pre G I) hm rfl ha rfl rfl hl.1 (Nat.le_of_ble_eq_true rfl) rfl rfl ⟨Nat.le_of_ble_eq_true rfl, Nat.le_of_ble_eq_true rfl⟩ ⟨Nat.le_refl _, Nat.le_refl _⟩ d_Mo_curve_76) ?_
    exact w_Mo_curve_79 X G I hf (lv_sub hl [0] rfl)
  · have hf := miff hf hc
    refine r_aload_n X d_Mo_curve_60 rfl (lv_at hl 0 rfl) ?_
    refine lv_iload_n hx hb d_Mo_curve_61 rfl (lv_at hl 1 rfl) ?_
    refine lv_iload_n hx hb d_Mo_curve_62 rfl (lv_at hl 2 rfl) ?_
    refine lv_iload_n hx hb d_Mo_curve_63 rfl (lv_at hl 3 rfl) ?_
    refine lv_i2l hx hb d_Mo_curve_64 rfl ?_
    obtain ⟨q5, hv, hf⟩ := mbind hf
    obtain ⟨a, ha, hv⟩ := mbind hv
    obtain ⟨ha, fs, hm⟩ := mrc_e ha
    refine m_caR (m_runV (As := [.int x1, .int x2, .long ((x3).toInt64)]) (r := some h0) (rest := []) X G I h_Mo_inverse k_1004 (c_Mo_inverse hv) mPr_blind (m_pre G I) hm rfl ha rfl rfl hl.1 (Nat.le_of_ble_eq_true rfl) rfl rfl ⟨Nat.le_of_ble_eq_true rfl, Nat.le_of_ble_eq_true rfl⟩ ⟨Nat.le_refl _, Nat.le_refl _⟩ d_Mo_curve_65) ?_
    refine lv_goto (tgt := 79) hx hb d_Mo_curve_68 (by decide) ?_
    exact w_Mo_curve_79 X G I hf (lv_sub hl [0] rfl)

set_option maxHeartbeats 4000000 in
set_option maxRecDepth 100000 in
theorem w_Mo_curve_53 {μ : mM} {h0 : Nat} {r : Int32} (X : mX p m meth c s args b_Mo_curve 5 (some .int) "ColourLinkerModel") (G : mG D cA dA z0 s) (I : mI D cA z0 s μ s.heap [] s.heap.size) {ls : Array Slot}  (hf : f_Mo_curve_53 μ h0 = some r) (hl : lv_has ls 5 [(0, va_rf (some h0))]) : W p l e rm_Mo_curve s m args below meth c s.heap [] 0 0 (MQ below (mQR (some (.int r))) args s 0 0 (fun _ => False)) (F0 m 53 ls []) := by
  have hx := X.ex
  have hb := X.by_
  unfold f_Mo_curve_53 at hf
  refine lv_iconst (v := -1) hx hb d_Mo_curve_53 (by decide) ?_
  obtain rfl := Option.some.inj hf
  exact r_iretR X d_Mo_curve_54

set_option maxHeartbeats 4000000 in
set_option maxRecDepth 100000 in
theorem w_Mo_curve_28 {μ : mM} {h0 : Nat} {r : Int32} (X : mX p m meth c s args b_Mo_curve 5 (some .int) "ColourLinkerModel") (G : mG D cA dA z0 s) (I : mI D cA z0 s μ s.heap [] s.heap.size) {ls : Array Slot}  (hf : f_Mo_curve_28 μ h0 = some r) (hl : lv_has ls 5 [(0, va_rf (some h0))]) : W p l e rm_Mo_curve s m args below meth c s.heap [] 0 0 (MQ below (mQR (some (.int r))) args s 0 0 (fun _ => False)) (F0 m 28 ls []) := by
  have hx := X.ex
  have hb := X.by_
  unfold f_Mo_curve_28 at hf
  refine lv_iconst (v := -1) hx hb d_Mo_curve_28 (by decide) ?_
  obtain rfl := Option.some.inj hf
  exact r_iretR X d_Mo_curve_29

set_option maxHeartbeats 4000000 in
set_option maxRecDepth 100000 in
theorem w_Mo_curve {μ : mM} {h0 : Nat} {r : Int32} (X : mX p m meth c s args b_Mo_curve 5 (some .int) "ColourLinkerModel") (G : mG D cA dA z0 s) (I : mI D cA z0 s μ s.heap [] s.heap.size) {ls : Array Slot} {x1 : Int32} {x2 : Int32} {x3 : Int32} {x4 : Int32} (hf : f_Mo_curve μ h0 x1 x2 x3 x4 = some r) (hl : lv_has ls 5 [(0, va_rf (some h0)), (1, .int x1), (2, .int x2), (3, .int x3), (4, .int x4)]) : W p l e rm_Mo_curve s m args below meth c s.heap [] 0 0 (MQ below (mQR (some (.int r))) args s 0 0 (fun _ => False)) (F0 m 0 ls []) := by
  have hx := X.ex
  have hb := X.by_
  unfold f_Mo_curve at hf
  refine r_aload_n X d_Mo_curve_0 rfl (lv_at hl 0 rfl) ?_
  refine lv_iload_n hx hb d_Mo_curve_1 rfl (lv_at hl 1 rfl) ?_
  obtain ⟨q1, hv, hf⟩ := mbind hf
  obtain ⟨a, ha, hv⟩ := mbind hv
  obtain ⟨ha, fs, hm⟩ := mrc_e ha
  refine m_caR (m_runV (As := [.int x1]) (r := some h0) (rest := []) X G I h_Mo_there k_943 (c_Mo_there hv) mPr_blind (m_pre G I) hm rfl ha rfl rfl hl.1 (Nat.le_of_ble_eq_true rfl) rfl rfl ⟨Nat.le_of_ble_eq_true rfl, Nat.le_of_ble_eq_true rfl⟩ ⟨Nat.le_refl _, Nat.le_refl _⟩ d_Mo_curve_2) ?_
  refine lv_if_eq (tgt := 28) hx hb d_Mo_curve_5 (by decide) (fun hc => ?_) (fun hc => ?_)
  · have hf := mift hf hc
    exact w_Mo_curve_28 X G I hf (lv_sub hl [0] rfl)
  · have hf := miff hf hc
    refine lv_iload_n hx hb d_Mo_curve_8 rfl (lv_at hl 2 rfl) ?_
    refine lv_iconst (v := 1) hx hb d_Mo_curve_9 (by decide) ?_
    refine lv_icmp_lt (tgt := 28) hx hb d_Mo_curve_10 (by decide) (fun hc => ?_) (fun hc => ?_)
    · have hf := mift hf hc
      exact w_Mo_curve_28 X G I hf (lv_sub hl [0] rfl)
    · have hf := miff hf hc
      refine lv_iload_n hx hb d_Mo_curve_13 rfl (lv_at hl 2 rfl) ?_
      refine lv_iconst (v := 4) hx hb d_Mo_curve_14 (by decide) ?_
      refine lv_icmp_gt (tgt := 28) hx hb d_Mo_curve_15 (by decide) (fun hc => ?_) (fun hc => ?_)
      · have hf := mift hf hc
        exact w_Mo_curve_28 X G I hf (lv_sub hl [0] rfl)
      · have hf := miff hf hc
        refine lv_iload_n hx hb d_Mo_curve_18 rfl (lv_at hl 3 rfl) ?_
        refine lv_if_lt (tgt := 28) hx hb d_Mo_curve_19 (by decide) (fun hc => ?_) (fun hc => ?_)
        · have hf := mift hf hc
          exact w_Mo_curve_28 X G I hf (lv_sub hl [0] rfl)
        · have hf := miff hf hc
          refine lv_iload_n hx hb d_Mo_curve_22 rfl (lv_at hl 3 rfl) ?_
          refine lv_ldc (v := 65535) hx hb X.ow (X.w k_979) d_Mo_curve_23 ?_
          refine lv_icmp_le (tgt := 30) hx hb d_Mo_curve_25 (by decide) (fun hc => ?_) (fun hc => ?_)
          · have hf := mift hf hc
            refine r_aload_n X d_Mo_curve_30 rfl (lv_at hl 0 rfl) ?_
            refine lv_iload_n hx hb d_Mo_curve_31 rfl (lv_at hl 1 rfl) ?_
            refine lv_iload_n hx hb d_Mo_curve_32 rfl (lv_at hl 2 rfl) ?_
            obtain ⟨q2, hv, hf⟩ := mbind hf
            obtain ⟨a, ha, hv⟩ := mbind hv
            obtain ⟨ha, fs, hm⟩ := mrc_e ha
            refine m_caR (m_runV (As := [.int x1, .int x2]) (r := some h0) (rest := []) X G I h_Mo_entry k_951 (c_Mo_entry hv) mPr_blind (m_pre G I) hm rfl ha rfl rfl hl.1 (Nat.le_of_ble_eq_true rfl) rfl rfl ⟨Nat.le_of_ble_eq_true rfl, Nat.le_of_ble_eq_true rfl⟩ ⟨Nat.le_refl _, Nat.le_refl _⟩ d_Mo_curve_33) ?_
            refine lv_if_lt (tgt := 53) hx hb d_Mo_curve_36 (by decide) (fun hc => ?_) (fun hc => ?_)
            · have hf := mift hf hc
              exact w_Mo_curve_53 X G I hf (lv_sub hl [0] rfl)
            · have hf := miff hf hc
              refine lv_iload hx hb d_Mo_curve_39 (lv_at hl 4 rfl) ?_
              refine lv_if_eq (tgt := 55) hx hb d_Mo_curve_41 (by decide) (fun hc => ?_) (fun hc => ?_)
              · have hf := mift hf hc
                exact w_Mo_curve_55 X G I hf hl
              · have hf := miff hf hc
                refine r_aload_n X d_Mo_curve_44 rfl (lv_at hl 0 rfl) ?_
                refine lv_iload_n hx hb d_Mo_curve_45 rfl (lv_at hl 1 rfl) ?_
                refine lv_iload_n hx hb d_Mo_curve_46 rfl (lv_at hl 2 rfl) ?_
                obtain ⟨q3, hv, hf⟩ := mbind hf
                obtain ⟨a, ha, hv⟩ := mbind hv
                obtain ⟨ha, fs, hm⟩ := mrc_e ha
                refine m_caR (m_runV (As := [.int x1, .int x2]) (r := some h0) (rest := []) X G I h_Mo_rising k_980 (c_Mo_rising hv) mPr_blind (m_pre G I) hm rfl ha rfl rfl hl.1 (Nat.le_of_ble_eq_true rfl) rfl rfl ⟨Nat.le_of_ble_eq_true rfl, Nat.le_of_ble_eq_true rfl⟩ ⟨Nat.le_refl _, Nat.le_refl _⟩ d_Mo_curve_47) ?_
                refine lv_if_ne (tgt := 55) hx hb d_Mo_curve_50 (by decide) (fun hc => ?_) (fun hc => ?_)
                · have hf := miff hf hc
                  exact w_Mo_curve_55 X G I hf hl
                · have hf := mift hf hc
                  exact w_Mo_curve_53 X G I hf (lv_sub hl [0] rfl)
          · have hf := miff hf hc
            exact w_Mo_curve_28 X G I hf (lv_sub hl [0] rfl)

set_option maxHeartbeats 4000000 in
set_option maxRecDepth 100000 in
theorem c_Mo_curve {l : Launch} {D : va_G} {cA : Nat → ClassId} {dA z0 : Nat} {μ : mM} {h0 : Nat} {x1 : Int32} {x2 : Int32} {x3 : Int32} {x4 : Int32} {r : Int32} (hf : f_Mo_curve μ h0 x1 x2 x3 x4 = some r) : Met l y_Mo_curve (mW y_Mo_curve b_Mo_curve 5 (some .int)) rm_Mo_curve (va_Pc [.ref h0, .int x1, .int x2, .int x3, .int x4] (mPr D cA dA z0 μ)) (mQR (some (.int r))) 0 0 (fun _ => False) := by
  refine Met.ofW (cc := b_Mo_curve) (maxL := 5) (ret := (some .int)) (by decide) rfl ?_
  intro p e s m args below meth c s₁ B hml hv
  obtain ⟨rfl, G, hP⟩ := hv
  have X := mX.of B hml
  exact m_entry (lv := [(0, va_rf (some h0)), (1, .int x1), (2, .int x2), (3, .int x3), (4, .int x4)]) (Nat.le_of_ble_eq_true rfl) rfl (fun ls hl => w_Mo_curve X G (mI.start hP) hf hl)

abbrev rm_Profile_isSourceAlone : Room := { frames := 0, cells := 0, slots := 0, locals := 0 }
theorem h_Profile_isSourceAlone : mCV y_Profile_isSourceAlone b_Profile_isSourceAlone 1 (some .boolean) 0 := ⟨k_666, k_80, ⟨by decide, by decide, by decide +kernel⟩, k_664, k_665⟩
set_option maxHeartbeats 4000000 in
set_option maxRecDepth 100000 in
theorem w_Profile_isSourceAlone_15 {μ : mM} {h0 : Nat} {r : Int32} (X : mX p m meth c s args b_Profile_isSourceAlone 1 (some .boolean) "ColourLinker$Profile") (G : mG D cA dA z0 s) (I : mI D cA z0 s μ s.heap [] s.heap.size) {ls : Array Slot} {s0 : Int32} (hf : f_Profile_isSourceAlone_15 μ h0 s0 = some r) (hl : lv_has ls 1 [(0, va_rf (some h0))]) : W p l e rm_Profile_isSourceAlone s m args below meth c s.heap [] 0 0 (MQ below (mQR (some (.int r))) args s 0 0 (fun _ => False)) (F0 m 15 ls [.int s0]) := by
  have hx := X.ex
  have hb := X.by_
  unfold f_Profile_isSourceAlone_15 at hf
  obtain ⟨v3, hv, hf⟩ := mbind hf
  obtain ⟨hz0, hz⟩ := mz_e hv
  rw [hz0] at hf
  obtain rfl := Option.some.inj hf
  exact r_zretR X hz d_Profile_isSourceAlone_15

set_option maxHeartbeats 4000000 in
set_option maxRecDepth 100000 in
theorem w_Profile_isSourceAlone {μ : mM} {h0 : Nat} {r : Int32} (X : mX p m meth c s args b_Profile_isSourceAlone 1 (some .boolean) "ColourLinker$Profile") (G : mG D cA dA z0 s) (I : mI D cA z0 s μ s.heap [] s.heap.size) {ls : Array Slot}  (hf : f_Profile_isSourceAlone μ h0 = some r) (hl : lv_has ls 1 [(0, va_rf (some h0))]) : W p l e rm_Profile_isSourceAlone s m args below meth c s.heap [] 0 0 (MQ below (mQR (some (.int r))) args s 0 0 (fun _ => False)) (F0 m 0 ls []) := by
  have hx := X.ex
  have hb := X.by_
  unfold f_Profile_isSourceAlone at hf
  refine r_aload_n X d_Profile_isSourceAlone_0 rfl (lv_at hl 0 rfl) ?_
  obtain ⟨v1, hv, hf⟩ := mbind hf
  refine r_getf X G I (mfA_e hv) o_Profile_plain k_396 (Or.inl rfl) d_Profile_isSourceAlone_1 ?_
  refine lv_iconst (v := 2) hx hb d_Profile_isSourceAlone_4 (by decide) ?_
  obtain ⟨v2, hv, hf⟩ := mbind hf
  refine r_iald X G I hv d_Profile_isSourceAlone_5 ?_
  refine lv_iconst (v := 1) hx hb d_Profile_isSourceAlone_6 (by decide) ?_
  refine lv_icmp_ne (tgt := 14) hx hb d_Profile_isSourceAlone_7 (by decide) (fun hc => ?_) (fun hc => ?_)
  · have hf := miff hf hc
    refine lv_iconst (v := 0) hx hb d_Profile_isSourceAlone_14 (by decide) ?_
    exact w_Profile_isSourceAlone_15 X G I hf hl
  · have hf := mift hf hc
    refine lv_iconst (v := 1) hx hb d_Profile_isSourceAlone_10 (by decide) ?_
    refine lv_goto (tgt := 15) hx hb d_Profile_isSourceAlone_11 (by decide) ?_
    exact w_Profile_isSourceAlone_15 X G I hf hl

set_option maxHeartbeats 4000000 in
set_option maxRecDepth 100000 in
theorem c_Profile_isSourceAlone {l : Launch} {D : va_G} {cA : Nat → ClassId} {dA z0 : Nat} {μ : mM} {h0 : Nat} {r : Int32} (hf : f_Profile_isSourceAlone μ h0 = some r) : Met l y_Profile_isSourceAlone (mW y_Profile_isSourceAlone b_Profile_isSourceAlone 1 (some .boolean)) rm_Profile_isSourceAlone (va_Pc [.ref h0] (mPr D cA dA z0 μ)) (mQR (some (.int r))) 0 0 (fun _ => False) := by
  refine Met.ofW (cc := b_Profile_isSourceAlone) (maxL := 1) (ret := (some .boolean)) (by decide) rfl ?_
  intro p e s m args below meth c s₁ B hml hv
  obtain ⟨rfl, G, hP⟩ := hv
  have X := mX.of B hml
  exact m_entry (lv := [(0, va_rf (some h0))]) (Nat.le_of_ble_eq_true rfl) rfl (fun ls hl => w_Profile_isSourceAlone X G (mI.start hP) hf hl)

abbrev rm_Profile_backPiece : Room := { frames := 1, cells := 0, slots := 0, locals := 24 }
theorem h_Profile_backPiece : mCV y_Profile_backPiece b_Profile_backPiece 4 (some (.object "ColourLinker$Piece")) 2 := ⟨k_670, k_80, ⟨by decide, by decide, by decide +kernel⟩, k_668, k_669⟩
set_option maxHeartbeats 4000000 in
set_option maxRecDepth 100000 in
theorem w_Profile_backPiece_37 {μ : mM} {h0 : Nat} {r : Option Nat} (X : mX p m meth c s args b_Profile_backPiece 4 (some (.object "ColourLinker$Piece")) "ColourLinker$Profile") (G : mG D cA dA z0 s) (I : mI D cA z0 s μ s.heap [] s.heap.size) {ls : Array Slot} {s0 : Option Nat} (hf : f_Profile_backPiece_37 μ h0 s0 = some r) (hl : lv_has ls 4 [(0, va_rf (some h0))]) : W p l e rm_Profile_backPiece s m args below meth c s.heap [] 0 0 (MQ below (mQR (some (va_rf r))) args s 0 0 (fun _ => False)) (F0 m 37 ls [va_rf s0]) := by
  have hx := X.ex
  have hb := X.by_
  unfold f_Profile_backPiece_37 at hf
  obtain rfl := Option.some.inj hf
  exact r_aretR X (Or.inl ⟨_, rfl⟩) d_Profile_backPiece_37

set_option maxHeartbeats 4000000 in
set_option maxRecDepth 100000 in
theorem w_Profile_backPiece_21 {μ : mM} {h0 : Nat} {r : Option Nat} (X : mX p m meth c s args b_Profile_backPiece 4 (some (.object "ColourLinker$Piece")) "ColourLinker$Profile") (G : mG D cA dA z0 s) (I : mI D cA z0 s μ s.heap [] s.heap.size) {ls : Array Slot} {s0 : Option Nat} (hf : f_Profile_backPiece_21 μ h0 s0 = some r) (hl : lv_has ls 4 [(0, va_rf (some h0))]) : W p l e rm_Profile_backPiece s m args below meth c s.heap [] 0 0 (MQ below (mQR (some (va_rf r))) args s 0 0 (fun _ => False)) (F0 m 21 ls [va_rf s0]) := by
  have hx := X.ex
  have hb := X.by_
  unfold f_Profile_backPiece_21 at hf
  obtain rfl := Option.some.inj hf
  exact r_aretR X (Or.inl ⟨_, rfl⟩) d_Profile_backPiece_21

set_option maxHeartbeats 4000000 in
set_option maxRecDepth 100000 in
theorem w_Profile_backPiece {μ : mM} {h0 : Nat} {r : Option Nat} (X : mX p m meth c s args b_Profile_backPiece 4 (some (.object "ColourLinker$Piece")) "ColourLinker$Profile") (G : mG D cA dA z0 s) (I : mI D cA z0 s μ s.heap [] s.heap.size) {ls : Array Slot} {x1 : Int32} {x2 : Int32} (hf : f_Profile_backPiece μ h0 x1 x2 = some r) (hl : lv_has ls 4 [(0, va_rf (some h0)), (1, .int x1), (2, .int x2)]) : W p l e rm_Profile_backPiece s m args below meth c s.heap [] 0 0 (MQ below (mQR (some (va_rf r))) args s 0 0 (fun _ => False)) (F0 m 0 ls []) := by
  have hx := X.ex
  have hb := X.by_
  unfold f_Profile_backPiece at hf
  refine r_aload_n X d_Profile_backPiece_0 rfl (lv_at hl 0 rfl) ?_
  refine lv_bipush (v := 9) hx hb d_Profile_backPiece_1 (by decide) ?_
  refine lv_iload_n hx hb d_Profile_backPiece_3 rfl (lv_at hl 1 rfl) ?_
  obtain ⟨q1, hv, hf⟩ := mbind hf
  obtain ⟨a, ha, hv⟩ := mbind hv
  obtain ⟨ha, fs, hm⟩ := mrc_e ha
  refine m_caR (m_runV (As := [.int (9 : Int32), .int x1]) (r := some h0) (rest := []) X G I h_Profile_gridFor k_445 (c_Profile_gridFor hv) mPr_blind (m_pre G I) hm rfl ha rfl rfl hl.1 (Nat.le_of_ble_eq_true rfl) rfl rfl ⟨Nat.le_of_ble_eq_true rfl, Nat.le_of_ble_eq_true rfl⟩ ⟨Nat.le_refl _, Nat.le_refl _⟩ d_Profile_backPiece_4) ?_
  refine r_astore_n (i := 3) (lv' := [(3, va_rf q1), (0, va_rf (some h0)), (1, .int x1), (2, .int x2)]) X d_Profile_backPiece_7 rfl hl (by decide) rfl (fun ls hl => ?_)
  refine r_aload_n X d_Profile_backPiece_8 rfl (lv_at hl 0 rfl) ?_
  refine r_ifnull (tgt := 22) X d_Profile_backPiece_9 (by decide) (fun hc => ?_) (fun hc => ?_)
  · have hf := mift hf hc
    refine lv_iload_n hx hb d_Profile_backPiece_22 rfl (lv_at hl 3 rfl) ?_
    refine lv_if_ne (tgt := 33) hx hb d_Profile_backPiece_23 (by decide) (fun hc => ?_) (fun hc => ?_)
    · have hf := miff hf hc
      refine r_aload_n X d_Profile_backPiece_33 rfl (lv_at hl 1 rfl) ?_
      obtain ⟨v2, hv, hf⟩ := mbind hf
      refine r_getf X G I (mfA_e hv) o_Profile_curvesBack k_407 (Or.inl rfl) d_Profile_backPiece_34 ?_
      exact w_Profile_backPiece_37 X G I hf (lv_sub hl [1] rfl)
    · have hf := mift hf hc
      refine r_aload_n X d_Profile_backPiece_26 rfl (lv_at hl 1 rfl) ?_
      obtain ⟨v3, hv, hf⟩ := mbind hf
      refine r_getf X G I (mfA_e hv) o_Profile_beginBack k_406 (Or.inl rfl) d_Profile_backPiece_27 ?_
      refine lv_goto (tgt := 37) hx hb d_Profile_backPiece_30 (by decide) ?_
      exact w_Profile_backPiece_37 X G I hf (lv_sub hl [1] rfl)
  · have hf := miff hf hc
    refine lv_iload_n hx hb d_Profile_backPiece_12 rfl (lv_at hl 3 rfl) ?_
    refine lv_if_ne (tgt := 20) hx hb d_Profile_backPiece_13 (by decide) (fun hc => ?_) (fun hc => ?_)
    · have hf := miff hf hc
      refine r_null X d_Profile_backPiece_20 ?_
      exact w_Profile_backPiece_21 X G I hf (lv_sub hl [1] rfl)
    · have hf := mift hf hc
      refine r_aload_n X d_Profile_backPiece_16 rfl (lv_at hl 0 rfl) ?_
      refine lv_goto (tgt := 21) hx hb d_Profile_backPiece_17 (by decide) ?_
      exact w_Profile_backPiece_21 X G I hf (lv_sub hl [1] rfl)

set_option maxHeartbeats 4000000 in
set_option maxRecDepth 100000 in
theorem c_Profile_backPiece {l : Launch} {D : va_G} {cA : Nat → ClassId} {dA z0 : Nat} {μ : mM} {h0 : Nat} {x1 : Int32} {x2 : Int32} {r : Option Nat} (hf : f_Profile_backPiece μ h0 x1 x2 = some r) : Met l y_Profile_backPiece (mW y_Profile_backPiece b_Profile_backPiece 4 (some (.object "ColourLinker$Piece"))) rm_Profile_backPiece (va_Pc [.ref h0, .int x1, .int x2] (mPr D cA dA z0 μ)) (mQR (some (va_rf r))) 0 0 (fun _ => False) := by
  refine Met.ofW (cc := b_Profile_backPiece) (maxL := 4) (ret := (some (.object "ColourLinker$Piece"))) (by decide) rfl ?_
  intro p e s m args below meth c s₁ B hml hv
  obtain ⟨rfl, G, hP⟩ := hv
  have X := mX.of B hml
  exact m_entry (lv := [(0, va_rf (some h0)), (1, .int x1), (2, .int x2)]) (Nat.le_of_ble_eq_true rfl) rfl (fun ls hl => w_Profile_backPiece X G (mI.start hP) hf hl)

abbrev rm_Matrix_isSingular : Room := { frames := 0, cells := 0, slots := 0, locals := 0 }
theorem h_Matrix_isSingular : mCV y_Matrix_isSingular b_Matrix_isSingular 1 (some .boolean) 0 := ⟨k_675, k_88, ⟨by decide, by decide, by decide +kernel⟩, k_673, k_674⟩
set_option maxHeartbeats 4000000 in
set_option maxRecDepth 100000 in
theorem w_Matrix_isSingular_27 {μ : mM} {h0 : Nat} {r : Int32} (X : mX p m meth c s args b_Matrix_isSingular 1 (some .boolean) "ColourLinker$Matrix") (G : mG D cA dA z0 s) (I : mI D cA z0 s μ s.heap [] s.heap.size) {ls : Array Slot} {s0 : Int32} (hf : f_Matrix_isSingular_27 μ h0 s0 = some r) (hl : lv_has ls 1 [(0, va_rf (some h0))]) : W p l e rm_Matrix_isSingular s m args below meth c s.heap [] 0 0 (MQ below (mQR (some (.int r))) args s 0 0 (fun _ => False)) (F0 m 27 ls [.int s0]) := by
  have hx := X.ex
  have hb := X.by_
  unfold f_Matrix_isSingular_27 at hf
  obtain ⟨v3, hv, hf⟩ := mbind hf
  obtain ⟨hz0, hz⟩ := mz_e hv
  rw [hz0] at hf
  obtain rfl := Option.some.inj hf
  exact r_zretR X hz d_Matrix_isSingular_27

set_option maxHeartbeats 4000000 in
set_option maxRecDepth 100000 in
theorem w_Matrix_isSingular_26 {μ : mM} {h0 : Nat} {r : Int32} (X : mX p m meth c s args b_Matrix_isSingular 1 (some .boolean) "ColourLinker$Matrix") (G : mG D cA dA z0 s) (I : mI D cA z0 s μ s.heap [] s.heap.size) {ls : Array Slot}  (hf : f_Matrix_isSingular_26 μ h0 = some r) (hl : lv_has ls 1 [(0, va_rf (some h0))]) : W p l e rm_Matrix_isSingular s m args below meth c s.heap [] 0 0 (MQ below (mQR (some (.int r))) args s 0 0 (fun _ => False)) (F0 m 26 ls []) := by
  have hx := X.ex
  have hb := X.by_
  unfold f_Matrix_isSingular_26 at hf
  refine lv_iconst (v := 0) hx hb d_Matrix_isSingular_26 (by decide) ?_
  exact w_Matrix_isSingular_27 X G I hf hl

set_option maxHeartbeats 4000000 in
set_option maxRecDepth 100000 in
theorem w_Matrix_isSingular {μ : mM} {h0 : Nat} {r : Int32} (X : mX p m meth c s args b_Matrix_isSingular 1 (some .boolean) "ColourLinker$Matrix") (G : mG D cA dA z0 s) (I : mI D cA z0 s μ s.heap [] s.heap.size) {ls : Array Slot}  (hf : f_Matrix_isSingular μ h0 = some r) (hl : lv_has ls 1 [(0, va_rf (some h0))]) : W p l e rm_Matrix_isSingular s m args below meth c s.heap [] 0 0 (MQ below (mQR (some (.int r))) args s 0 0 (fun _ => False)) (F0 m 0 ls []) := by
  have hx := X.ex
  have hb := X.by_
  unfold f_Matrix_isSingular at hf
  refine r_aload_n X d_Matrix_isSingular_0 rfl (lv_at hl 0 rfl) ?_
  obtain ⟨v1, hv, hf⟩ := mbind hf
  refine r_getf X G I (mfJ_e hv) o_Matrix_divisor k_381 (Or.inl rfl) d_Matrix_isSingular_1 ?_
  refine lv_ldc2 (v := -16777216) hx hb X.ow (X.w k_676) d_Matrix_isSingular_4 ?_
  refine r_lcle (tgt := 26) X d_Matrix_isSingular_7 d_Matrix_isSingular_8 (by decide) (fun hc => ?_) (fun hc => ?_)
  · have hf := mift hf hc
    exact w_Matrix_isSingular_26 X G I hf hl
  · have hf := miff hf hc
    refine r_aload_n X d_Matrix_isSingular_11 rfl (lv_at hl 0 rfl) ?_
    obtain ⟨v2, hv, hf⟩ := mbind hf
    refine r_getf X G I (mfJ_e hv) o_Matrix_divisor k_381 (Or.inl rfl) d_Matrix_isSingular_12 ?_
    refine lv_ldc2 (v := 16777216) hx hb X.ow (X.w k_677) d_Matrix_isSingular_15 ?_
    refine r_lcge (tgt := 26) X d_Matrix_isSingular_18 d_Matrix_isSingular_19 (by decide) (fun hc => ?_) (fun hc => ?_)
    · have hf := mift hf hc
      exact w_Matrix_isSingular_26 X G I hf hl
    · have hf := miff hf hc
      refine lv_iconst (v := 1) hx hb d_Matrix_isSingular_22 (by decide) ?_
      refine lv_goto (tgt := 27) hx hb d_Matrix_isSingular_23 (by decide) ?_
      exact w_Matrix_isSingular_27 X G I hf hl

set_option maxHeartbeats 4000000 in
set_option maxRecDepth 100000 in
theorem c_Matrix_isSingular {l : Launch} {D : va_G} {cA : Nat → ClassId} {dA z0 : Nat} {μ : mM} {h0 : Nat} {r : Int32} (hf : f_Matrix_isSingular μ h0 = some r) : Met l y_Matrix_isSingular (mW y_Matrix_isSingular b_Matrix_isSingular 1 (some .boolean)) rm_Matrix_isSingular (va_Pc [.ref h0] (mPr D cA dA z0 μ)) (mQR (some (.int r))) 0 0 (fun _ => False) := by
  refine Met.ofW (cc := b_Matrix_isSingular) (maxL := 1) (ret := (some .boolean)) (by decide) rfl ?_
  intro p e s m args below meth c s₁ B hml hv
  obtain ⟨rfl, G, hP⟩ := hv
  have X := mX.of B hml
  exact m_entry (lv := [(0, va_rf (some h0))]) (Nat.le_of_ble_eq_true rfl) rfl (fun ls hl => w_Matrix_isSingular X G (mI.start hP) hf hl)

end WK
