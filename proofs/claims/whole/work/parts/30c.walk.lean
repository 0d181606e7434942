section WK
variable {p : Program} {l : Launch} {e : Env} {s : State} {m : MethodId} {args : Array Value} {below : List Frame} {meth : Method} {c : Code} {D : va_G} {cA : Nat → ClassId} {dA z0 : Nat}
abbrev rm_Mo_run : Room := { frames := 6, cells := 0, slots := 0, locals := 157 }
theorem h_Mo_run : mCV y_Mo_run b_Mo_run 4 none 1 := ⟨k_1088, k_79, ⟨by decide, by decide, by decide +kernel⟩, k_1087, k_56⟩
set_option maxHeartbeats 4000000 in
set_option maxRecDepth 100000 in
theorem w_Mo_run_292 {h0 : Nat} {r : mM} (X : mX p m meth c s args b_Mo_run 4 none "ColourLinkerModel") (G : mG D cA dA z0 s) {H : Heap} {locs : List Loc} {μ : mM} {ls : Array Slot}  (I : mI D cA z0 s μ H locs s.heap.size) (hf : f_Mo_run_292 h0 μ = some r) (hl : lv_has ls 4 [(0, va_rf (some h0))]) : W p l e rm_Mo_run s m args below meth c H locs 0 0 (MQ below (mQW D cA z0 none r) args s 0 0 (mA z0)) (F0 m 292 ls []) := by
  have hx := X.ex
  have hb := X.by_
  unfold f_Mo_run_292 at hf
  obtain rfl := Option.some.inj hf
  exact r_vretW X I d_Mo_run_292

set_option maxHeartbeats 4000000 in
set_option maxRecDepth 100000 in
theorem w_Mo_run_267 {h0 : Nat} {r : mM} (X : mX p m meth c s args b_Mo_run 4 none "ColourLinkerModel") (G : mG D cA dA z0 s) {H : Heap} {locs : List Loc} {μ : mM} {ls : Array Slot}  (I : mI D cA z0 s μ H locs s.heap.size) (hf : f_Mo_run_267 h0 μ = some r) (hl : lv_has ls 4 [(0, va_rf (some h0))]) : W p l e rm_Mo_run s m args below meth c H locs 0 0 (MQ below (mQW D cA z0 none r) args s 0 0 (mA z0)) (F0 m 267 ls []) := by
  have hx := X.ex
  have hb := X.by_
  unfold f_Mo_run_267 at hf
  refine lv_goto (tgt := 292) hx hb d_Mo_run_267 (by decide) ?_
  exact w_Mo_run_292 X G I hf hl

set_option maxHeartbeats 4000000 in
set_option maxRecDepth 100000 in
theorem w_Mo_run_203 {h0 : Nat} {r : mM} (X : mX p m meth c s args b_Mo_run 4 none "ColourLinkerModel") (G : mG D cA dA z0 s) {kx267 : mM → Option (mM)} (hkx267 : ∀ (H : Heap) (locs : List Loc) (μ : mM) (ls : Array Slot), mI D cA z0 s μ H locs s.heap.size → kx267 μ = some r → lv_has ls 4 [(0, va_rf (some h0))] → W p l e rm_Mo_run s m args below meth c H locs 0 0 (MQ below (mQW D cA z0 none r) args s 0 0 (mA z0)) (F0 m 267 ls [])) : ∀ (n : Nat) (H : Heap) (locs : List Loc) (μ : mM) (ls : Array Slot) (x1 : Int32) (x3 : Int32), mI D cA z0 s μ H locs s.heap.size → f_Mo_run_203 h0 kx267 n μ x1 x3 = some r → lv_has ls 4 [(0, va_rf (some h0)), (1, .int x1), (3, .int x3)] → W p l e rm_Mo_run s m args below meth c H locs 0 0 (MQ below (mQW D cA z0 none r) args s 0 0 (mA z0)) (F0 m 203 ls []) := by
  have hx := X.ex
  have hb := X.by_
  intro n
  induction n with
  | zero => intro H locs μ ls x1 x3 I hf hl; rw [f_Mo_run_203] at hf; cases hf
  | succ n ih =>
    intro H locs μ ls x1 x3 I hf hl
    rw [f_Mo_run_203] at hf
    refine lv_iload_n hx hb d_Mo_run_203 rfl (lv_at hl 2 rfl) ?_
    refine lv_iconst (v := 3) hx hb d_Mo_run_204 (by decide) ?_
    refine lv_icmp_ge (tgt := 267) hx hb d_Mo_run_205 (by decide) (fun hc => ?_) (fun hc => ?_)
    · have hf := mift hf hc
      exact hkx267 _ _ _ _ I hf (lv_sub hl [0] rfl)
    · have hf := miff hf hc
      refine r_aload_n X d_Mo_run_208 rfl (lv_at hl 0 rfl) ?_
      obtain ⟨v30, hv, hf⟩ := mbind hf
      refine r_getf X G I (mfA_e hv) o_Mo_v k_852 (Or.inl rfl) d_Mo_run_209 ?_
      refine lv_iload_n hx hb d_Mo_run_212 rfl (lv_at hl 2 rfl) ?_
      refine lv_iload_n hx hb d_Mo_run_213 rfl (lv_at hl 2 rfl) ?_
      obtain ⟨q31, hv, hf⟩ := mbind hf
      refine m_caR (m_runS (As := [.int x3]) (rest := [.int x3, va_rf v30]) X h_Mo_point k_1056 (c_Mo_point hv) mPr_blind (m_pre G I) rfl rfl hl.1 (Nat.le_of_ble_eq_true rfl) rfl rfl ⟨Nat.le_of_ble_eq_true rfl, Nat.le_of_ble_eq_true rfl⟩ ⟨Nat.le_refl _, Nat.le_refl _⟩ d_Mo_run_214) ?_
      refine lv_i2l hx hb d_Mo_run_217 rfl ?_
      refine lv_iload_n hx hb d_Mo_run_218 rfl (lv_at hl 2 rfl) ?_
      obtain ⟨q32, hv, hf⟩ := mbind hf
      refine m_caR (m_runS (As := [.int x3]) (rest := [.long ((q31).toInt64), .int x3, va_rf v30]) X h_Mo_point k_1056 (c_Mo_point hv) mPr_blind (m_pre G I) rfl rfl hl.1 (Nat.le_of_ble_eq_true rfl) rfl rfl ⟨Nat.le_of_ble_eq_true rfl, Nat.le_of_ble_eq_true rfl⟩ ⟨Nat.le_refl _, Nat.le_refl _⟩ d_Mo_run_219) ?_
      refine lv_i2l hx hb d_Mo_run_222 rfl ?_
      refine r_aload_n X d_Mo_run_223 rfl (lv_at hl 0 rfl) ?_
      obtain ⟨v33, hv, hf⟩ := mbind hf
      refine r_getf X G I (mfA_e hv) o_Mo_old k_853 (Or.inl rfl) d_Mo_run_224 ?_
      refine lv_iload_n hx hb d_Mo_run_227 rfl (lv_at hl 2 rfl) ?_
      obtain ⟨v34, hv, hf⟩ := mbind hf
      refine r_lald X G I hv d_Mo_run_228 ?_
      refine lv_lsub hx hb d_Mo_run_229 ?_
      refine lv_ldc2 (v := 32768) hx hb X.ow (X.w k_1008) d_Mo_run_230 ?_
      refine r_aload_n X d_Mo_run_233 rfl (lv_at hl 0 rfl) ?_
      obtain ⟨v35, hv, hf⟩ := mbind hf
      refine r_getf X G I (mfA_e hv) o_Mo_two k_849 (Or.inl rfl) d_Mo_run_234 ?_
      refine lv_iload_n hx hb d_Mo_run_237 rfl (lv_at hl 1 rfl) ?_
      obtain ⟨v36, hv, hf⟩ := mbind hf
      refine r_iald X G I hv d_Mo_run_238 ?_
      refine lv_i2l hx hb d_Mo_run_239 rfl ?_
      refine lv_lsub hx hb d_Mo_run_240 ?_
      refine lv_lmul hx hb d_Mo_run_241 ?_
      refine lv_ldc2 (v := 32768) hx hb X.ow (X.w k_1008) d_Mo_run_242 ?_
      refine r_aload_n X d_Mo_run_245 rfl (lv_at hl 0 rfl) ?_
      obtain ⟨v37, hv, hf⟩ := mbind hf
      refine r_getf X G I (mfA_e hv) o_Mo_one k_848 (Or.inl rfl) d_Mo_run_246 ?_
      refine lv_iload_n hx hb d_Mo_run_249 rfl (lv_at hl 1 rfl) ?_
      obtain ⟨v38, hv, hf⟩ := mbind hf
      refine r_iald X G I hv d_Mo_run_250 ?_
      refine lv_i2l hx hb d_Mo_run_251 rfl ?_
      refine lv_lsub hx hb d_Mo_run_252 ?_
      obtain ⟨q39, hv, hf⟩ := mbind hf
      refine m_caR (m_runS (As := [.long (((q32).toInt64 - v34) * ((32768 : Int64) - (v36).toInt64)), .long ((32768 : Int64) - (v38).toInt64)]) (rest := [.long ((q31).toInt64), .int x3, va_rf v30]) X h_Mo_near k_993 (c_Mo_near hv) mPr_blind (m_pre G I) rfl rfl hl.1 (Nat.le_of_ble_eq_true rfl) rfl rfl ⟨Nat.le_of_ble_eq_true rfl, Nat.le_of_ble_eq_true rfl⟩ ⟨Nat.le_refl _, Nat.le_refl _⟩ d_Mo_run_253) ?_
      refine lv_lsub hx hb d_Mo_run_256 ?_
      obtain ⟨q40, hv, hf⟩ := mbind hf
      refine m_caR (m_runS (As := [.long ((q31).toInt64 - q39)]) (rest := [.int x3, va_rf v30]) X h_Mo_clip k_1001 (c_Mo_clip hv) mPr_blind (m_pre G I) rfl rfl hl.1 (Nat.le_of_ble_eq_true rfl) rfl rfl ⟨Nat.le_of_ble_eq_true rfl, Nat.le_of_ble_eq_true rfl⟩ ⟨Nat.le_refl _, Nat.le_refl _⟩ d_Mo_run_257) ?_
      obtain ⟨m41, hv, hf⟩ := mbind hf
      refine r_last X G I hv d_Mo_run_260 (fun H locs I => ?_)
      refine lv_iinc (i := 3) (k := 2) (v := (x3 + (1 : Int32))) (lv' := [(3, .int (x3 + (1 : Int32))), (0, va_rf (some h0)), (1, .int x1)]) hx hb d_Mo_run_261 hl rfl (congrArg (fun t => x3 + t) (by decide : Int32.ofInt (1) = (1 : Int32))) (by decide) rfl (fun ls hl => ?_)
      refine lv_goto (tgt := 203) hx hb d_Mo_run_264 (by decide) ?_
      exact ih _ _ _ _ _ _ I hf (lv_sub hl [1, 2, 0] rfl)

set_option maxHeartbeats 4000000 in
set_option maxRecDepth 100000 in
theorem w_Mo_run_198 {h0 : Nat} {r : mM} (X : mX p m meth c s args b_Mo_run 4 none "ColourLinkerModel") (G : mG D cA dA z0 s) {H : Heap} {locs : List Loc} {μ : mM} {ls : Array Slot}  (I : mI D cA z0 s μ H locs s.heap.size) (hf : f_Mo_run_198 h0 μ = some r) (hl : lv_has ls 4 [(0, va_rf (some h0))]) : W p l e rm_Mo_run s m args below meth c H locs 0 0 (MQ below (mQW D cA z0 none r) args s 0 0 (mA z0)) (F0 m 198 ls []) := by
  have hx := X.ex
  have hb := X.by_
  unfold f_Mo_run_198 at hf
  refine lv_goto (tgt := 292) hx hb d_Mo_run_198 (by decide) ?_
  exact w_Mo_run_292 X G I hf hl

set_option maxHeartbeats 4000000 in
set_option maxRecDepth 100000 in
theorem w_Mo_run_152 {h0 : Nat} {r : mM} (X : mX p m meth c s args b_Mo_run 4 none "ColourLinkerModel") (G : mG D cA dA z0 s) {kx198 : mM → Option (mM)} (hkx198 : ∀ (H : Heap) (locs : List Loc) (μ : mM) (ls : Array Slot), mI D cA z0 s μ H locs s.heap.size → kx198 μ = some r → lv_has ls 4 [(0, va_rf (some h0))] → W p l e rm_Mo_run s m args below meth c H locs 0 0 (MQ below (mQW D cA z0 none r) args s 0 0 (mA z0)) (F0 m 198 ls [])) : ∀ (n : Nat) (H : Heap) (locs : List Loc) (μ : mM) (ls : Array Slot) (x1 : Int32) (x2 : Int32) (x3 : Int32), mI D cA z0 s μ H locs s.heap.size → f_Mo_run_152 h0 kx198 n μ x1 x2 x3 = some r → lv_has ls 4 [(0, va_rf (some h0)), (1, .int x1), (2, .int x2), (3, .int x3)] → W p l e rm_Mo_run s m args below meth c H locs 0 0 (MQ below (mQW D cA z0 none r) args s 0 0 (mA z0)) (F0 m 152 ls []) := by
  have hx := X.ex
  have hb := X.by_
  intro n
  induction n with
  | zero => intro H locs μ ls x1 x2 x3 I hf hl; rw [f_Mo_run_152] at hf; cases hf
  | succ n ih =>
    intro H locs μ ls x1 x2 x3 I hf hl
    rw [f_Mo_run_152] at hf
    refine lv_iload_n hx hb d_Mo_run_152 rfl (lv_at hl 3 rfl) ?_
    refine lv_iconst (v := 3) hx hb d_Mo_run_153 (by decide) ?_
    refine lv_icmp_ge (tgt := 198) hx hb d_Mo_run_154 (by decide) (fun hc => ?_) (fun hc => ?_)
    · have hf := mift hf hc
      exact hkx198 _ _ _ _ I hf (lv_sub hl [0] rfl)
    · have hf := miff hf hc
      refine r_aload_n X d_Mo_run_157 rfl (lv_at hl 0 rfl) ?_
      obtain ⟨v21, hv, hf⟩ := mbind hf
      refine r_getf X G I (mfA_e hv) o_Mo_v k_852 (Or.inl rfl) d_Mo_run_158 ?_
      refine lv_iload_n hx hb d_Mo_run_161 rfl (lv_at hl 3 rfl) ?_
      refine r_aload_n X d_Mo_run_162 rfl (lv_at hl 0 rfl) ?_
      obtain ⟨v22, hv, hf⟩ := mbind hf
      refine r_getf X G I (mfA_e hv) o_Mo_old k_853 (Or.inl rfl) d_Mo_run_163 ?_
      refine lv_iload_n hx hb d_Mo_run_166 rfl (lv_at hl 3 rfl) ?_
      obtain ⟨v23, hv, hf⟩ := mbind hf
      refine r_lald X G I hv d_Mo_run_167 ?_
      refine r_aload_n X d_Mo_run_168 rfl (lv_at hl 0 rfl) ?_
      refine lv_iload_n hx hb d_Mo_run_169 rfl (lv_at hl 2 rfl) ?_
      refine lv_iload_n hx hb d_Mo_run_170 rfl (lv_at hl 3 rfl) ?_
      obtain ⟨q24, hv, hf⟩ := mbind hf
      obtain ⟨a, ha, hv⟩ := mbind hv
      obtain ⟨ha, fs, hm⟩ := mrc_e ha
      refine m_caR (m_runV (As := [.int x2, .int x3]) (r := some h0) (rest := [.long v23, .int x3, va_rf v21]) X G I h_Mo_white k_1052 (c_Mo_white hv) mPr_blind (m_pre G I) hm rfl ha rfl rfl hl.1 (Nat.le_of_ble_eq_true rfl) rfl rfl ⟨Nat.le_of_ble_eq_true rfl, Nat.le_of_ble_eq_true rfl⟩ ⟨Nat.le_refl _, Nat.le_refl _⟩ d_Mo_run_171) ?_
      refine lv_i2l hx hb d_Mo_run_174 rfl ?_
      refine lv_lmul hx hb d_Mo_run_175 ?_
      refine r_aload_n X d_Mo_run_176 rfl (lv_at hl 0 rfl) ?_
      refine r_aload_n X d_Mo_run_177 rfl (lv_at hl 0 rfl) ?_
      obtain ⟨v25, hv, hf⟩ := mbind hf
      refine r_getf X G I (mfA_e hv) o_Mo_one k_848 (Or.inl rfl) d_Mo_run_178 ?_
      refine lv_iload_n hx hb d_Mo_run_181 rfl (lv_at hl 1 rfl) ?_
      obtain ⟨v26, hv, hf⟩ := mbind hf
      refine r_iald X G I hv d_Mo_run_182 ?_
      refine lv_iload_n hx hb d_Mo_run_183 rfl (lv_at hl 3 rfl) ?_
      obtain ⟨q27, hv, hf⟩ := mbind hf
      obtain ⟨a, ha, hv⟩ := mbind hv
      obtain ⟨ha, fs, hm⟩ := mrc_e ha
      refine m_caR (m_runV (As := [.int v26, .int x3]) (r := some h0) (rest := [.long (v23 * (q24).toInt64), .int x3, va_rf v21]) X G I h_Mo_white k_1052 (c_Mo_white hv) mPr_blind (m_pre G I) hm rfl ha rfl rfl hl.1 (Nat.le_of_ble_eq_true rfl) rfl rfl ⟨Nat.le_of_ble_eq_true rfl, Nat.le_of_ble_eq_true rfl⟩ ⟨Nat.le_refl _, Nat.le_refl _⟩ d_Mo_run_184) ?_
      refine lv_i2l hx hb d_Mo_run_187 rfl ?_
      obtain ⟨q28, hv, hf⟩ := mbind hf
      refine m_caR (m_runS (As := [.long (v23 * (q24).toInt64), .long ((q27).toInt64)]) (rest := [.int x3, va_rf v21]) X h_Mo_clipNear k_998 (c_Mo_clipNear hv) mPr_blind (m_pre G I) rfl rfl hl.1 (Nat.le_of_ble_eq_true rfl) rfl rfl ⟨Nat.le_of_ble_eq_true rfl, Nat.le_of_ble_eq_true rfl⟩ ⟨Nat.le_refl _, Nat.le_refl _⟩ d_Mo_run_188) ?_
      obtain ⟨m29, hv, hf⟩ := mbind hf
      refine r_last X G I hv d_Mo_run_191 (fun H locs I => ?_)
      refine lv_iinc (i := 3) (k := 3) (v := (x3 + (1 : Int32))) (lv' := [(3, .int (x3 + (1 : Int32))), (0, va_rf (some h0)), (1, .int x1), (2, .int x2)]) hx hb d_Mo_run_192 hl rfl (congrArg (fun t => x3 + t) (by decide : Int32.ofInt (1) = (1 : Int32))) (by decide) rfl (fun ls hl => ?_)
      refine lv_goto (tgt := 152) hx hb d_Mo_run_195 (by decide) ?_
      exact ih _ _ _ _ _ _ _ I hf (lv_sub hl [1, 2, 3, 0] rfl)

set_option maxHeartbeats 4000000 in
set_option maxRecDepth 100000 in
theorem w_Mo_run_32 {h0 : Nat} {r : mM} (X : mX p m meth c s args b_Mo_run 4 none "ColourLinkerModel") (G : mG D cA dA z0 s) {H : Heap} {locs : List Loc} {μ : mM} {ls : Array Slot} {x1 : Int32} {x2 : Int32} (I : mI D cA z0 s μ H locs s.heap.size) (hf : f_Mo_run_32 h0 μ x1 x2 = some r) (hl : lv_has ls 4 [(0, va_rf (some h0)), (1, .int x1), (2, .int x2)]) : W p l e rm_Mo_run s m args below meth c H locs 0 0 (MQ below (mQW D cA z0 none r) args s 0 0 (mA z0)) (F0 m 32 ls []) := by
  have hx := X.ex
  have hb := X.by_
  unfold f_Mo_run_32 at hf
  refine r_aload_n X d_Mo_run_32 rfl (lv_at hl 0 rfl) ?_
  obtain ⟨v7, hv, hf⟩ := mbind hf
  refine r_getf X G I (mfA_e hv) o_Mo_kind k_846 (Or.inl rfl) d_Mo_run_33 ?_
  refine lv_iload_n hx hb d_Mo_run_36 rfl (lv_at hl 1 rfl) ?_
  obtain ⟨v8, hv, hf⟩ := mbind hf
  refine r_iald X G I hv d_Mo_run_37 ?_
  by_cases hc1 : v8 = 1
  · have hf := mift hf hc1
    refine lv_tableIn (tgt := 92) (x := v8) hx hb d_Mo_run_38 (by rw [hc1]; decide) (by rw [hc1]; decide) (by rw [hc1]; rfl) (by decide) ?_
    refine r_aload_n X d_Mo_run_92 rfl (lv_at hl 0 rfl) ?_
    refine lv_iload_n hx hb d_Mo_run_93 rfl (lv_at hl 2 rfl) ?_
    refine lv_iconst (v := 0) hx hb d_Mo_run_94 (by decide) ?_
    obtain ⟨q9, hv, hf⟩ := mbind hf
    obtain ⟨a, ha, hv⟩ := mbind hv
    obtain ⟨ha, fs, hm⟩ := mrc_e ha
    refine m_caWv (m_runV (As := [.int x2, .int (0 : Int32)]) (r := some h0) (rest := []) X G I h_Mo_curves k_1089 (c_Mo_curves hv) mPr_blind (m_pre G I) hm rfl ha rfl rfl hl.1 (Nat.le_of_ble_eq_true rfl) rfl rfl ⟨Nat.le_of_ble_eq_true rfl, Nat.le_of_ble_eq_true rfl⟩ ⟨Nat.le_refl _, Nat.le_refl _⟩ d_Mo_run_95) I (fun H locs I => ?_)
    refine lv_goto (tgt := 292) hx hb d_Mo_run_98 (by decide) ?_
    exact w_Mo_run_292 X G I hf (lv_sub hl [0] rfl)
  have hf := miff hf hc1
  by_cases hc2 : v8 = 2
  · have hf := mift hf hc2
    refine lv_tableIn (tgt := 101) (x := v8) hx hb d_Mo_run_38 (by rw [hc2]; decide) (by rw [hc2]; decide) (by rw [hc2]; rfl) (by decide) ?_
    refine r_aload_n X d_Mo_run_101 rfl (lv_at hl 0 rfl) ?_
    refine lv_iload_n hx hb d_Mo_run_102 rfl (lv_at hl 2 rfl) ?_
    obtain ⟨q10, hv, hf⟩ := mbind hf
    obtain ⟨a, ha, hv⟩ := mbind hv
    obtain ⟨ha, fs, hm⟩ := mrc_e ha
    refine m_caWv (m_runV (As := [.int x2]) (r := some h0) (rest := []) X G I h_Mo_matrix k_1093 (c_Mo_matrix hv) mPr_blind (m_pre G I) hm rfl ha rfl rfl hl.1 (Nat.le_of_ble_eq_true rfl) rfl rfl ⟨Nat.le_of_ble_eq_true rfl, Nat.le_of_ble_eq_true rfl⟩ ⟨Nat.le_refl _, Nat.le_refl _⟩ d_Mo_run_103) I (fun H locs I => ?_)
    refine lv_goto (tgt := 292) hx hb d_Mo_run_106 (by decide) ?_
    exact w_Mo_run_292 X G I hf (lv_sub hl [0] rfl)
  have hf := miff hf hc2
  by_cases hc3 : v8 = 3
  · have hf := mift hf hc3
    refine lv_tableIn (tgt := 109) (x := v8) hx hb d_Mo_run_38 (by rw [hc3]; decide) (by rw [hc3]; decide) (by rw [hc3]; rfl) (by decide) ?_
    refine r_aload_n X d_Mo_run_109 rfl (lv_at hl 0 rfl) ?_
    refine lv_iload_n hx hb d_Mo_run_110 rfl (lv_at hl 2 rfl) ?_
    refine r_aload_n X d_Mo_run_111 rfl (lv_at hl 0 rfl) ?_
    refine lv_iload_n hx hb d_Mo_run_112 rfl (lv_at hl 2 rfl) ?_
    refine r_aload_n X d_Mo_run_113 rfl (lv_at hl 0 rfl) ?_
    obtain ⟨v11, hv, hf⟩ := mbind hf
    refine r_getf X G I (mfA_e hv) o_Mo_one k_848 (Or.inl rfl) d_Mo_run_114 ?_
    refine lv_iload_n hx hb d_Mo_run_117 rfl (lv_at hl 1 rfl) ?_
    obtain ⟨v12, hv, hf⟩ := mbind hf
    refine r_iald X G I hv d_Mo_run_118 ?_
    obtain ⟨q13, hv, hf⟩ := mbind hf
    obtain ⟨a, ha, hv⟩ := mbind hv
    obtain ⟨ha, fs, hm⟩ := mrc_e ha
    refine m_caR (m_runV (As := [.int x2, .int v12]) (r := some h0) (rest := [.int x2, va_rf (some h0)]) X G I h_Mo_data k_947 (c_Mo_data hv) mPr_blind (m_pre G I) hm rfl ha rfl rfl hl.1 (Nat.le_of_ble_eq_true rfl) rfl rfl ⟨Nat.le_of_ble_eq_true rfl, Nat.le_of_ble_eq_true rfl⟩ ⟨Nat.le_refl _, Nat.le_refl _⟩ d_Mo_run_119) ?_
    obtain ⟨q14, hv, hf⟩ := mbind hf
    obtain ⟨a, ha, hv⟩ := mbind hv
    obtain ⟨ha, fs, hm⟩ := mrc_e ha
    refine m_caWv (m_runV (As := [.int x2, .int q13]) (r := some h0) (rest := []) X G I h_Mo_lattice k_1097 (c_Mo_lattice hv) mPr_blind (m_pre G I) hm rfl ha rfl rfl hl.1 (Nat.le_of_ble_eq_true rfl) rfl rfl ⟨Nat.le_of_ble_eq_true rfl, Nat.le_of_ble_eq_true rfl⟩ ⟨Nat.le_refl _, Nat.le_refl _⟩ d_Mo_run_122) I (fun H locs I => ?_)
    refine lv_goto (tgt := 292) hx hb d_Mo_run_125 (by decide) ?_
    exact w_Mo_run_292 X G I hf (lv_sub hl [0] rfl)
  have hf := miff hf hc3
  by_cases hc4 : v8 = 4
  · have hf := mift hf hc4
    refine lv_tableIn (tgt := 128) (x := v8) hx hb d_Mo_run_38 (by rw [hc4]; decide) (by rw [hc4]; decide) (by rw [hc4]; rfl) (by decide) ?_
    refine r_aload_n X d_Mo_run_128 rfl (lv_at hl 0 rfl) ?_
    refine lv_iload_n hx hb d_Mo_run_129 rfl (lv_at hl 2 rfl) ?_
    obtain ⟨q15, hv, hf⟩ := mbind hf
    obtain ⟨a, ha, hv⟩ := mbind hv
    obtain ⟨ha, fs, hm⟩ := mrc_e ha
    refine m_caWv (m_runV (As := [.int x2]) (r := some h0) (rest := []) X G I h_Mo_spread k_1106 (c_Mo_spread hv) mPr_blind (m_pre G I) hm rfl ha rfl rfl hl.1 (Nat.le_of_ble_eq_true rfl) rfl rfl ⟨Nat.le_of_ble_eq_true rfl, Nat.le_of_ble_eq_true rfl⟩ ⟨Nat.le_refl _, Nat.le_refl _⟩ d_Mo_run_130) I (fun H locs I => ?_)
    refine lv_goto (tgt := 292) hx hb d_Mo_run_133 (by decide) ?_
    exact w_Mo_run_292 X G I hf (lv_sub hl [0] rfl)
  have hf := miff hf hc4
  by_cases hc5 : v8 = 5
  · have hf := mift hf hc5
    refine lv_tableIn (tgt := 136) (x := v8) hx hb d_Mo_run_38 (by rw [hc5]; decide) (by rw [hc5]; decide) (by rw [hc5]; rfl) (by decide) ?_
    refine r_aload_n X d_Mo_run_136 rfl (lv_at hl 0 rfl) ?_
    obtain ⟨q16, hv, hf⟩ := mbind hf
    obtain ⟨a, ha, hv⟩ := mbind hv
    obtain ⟨ha, fs, hm⟩ := mrc_e ha
    refine m_caWv (m_runV (As := []) (r := some h0) (rest := []) X G I h_Mo_toLab k_1111 (c_Mo_toLab hv) mPr_blind (m_pre G I) hm rfl ha rfl rfl hl.1 (Nat.le_of_ble_eq_true rfl) rfl rfl ⟨Nat.le_of_ble_eq_true rfl, Nat.le_of_ble_eq_true rfl⟩ ⟨Nat.le_refl _, Nat.le_refl _⟩ d_Mo_run_137) I (fun H locs I => ?_)
    refine lv_goto (tgt := 292) hx hb d_Mo_run_140 (by decide) ?_
    exact w_Mo_run_292 X G I hf (lv_sub hl [0] rfl)
  have hf := miff hf hc5
  by_cases hc6 : v8 = 6
  · have hf := mift hf hc6
    refine lv_tableIn (tgt := 143) (x := v8) hx hb d_Mo_run_38 (by rw [hc6]; decide) (by rw [hc6]; decide) (by rw [hc6]; rfl) (by decide) ?_
    refine r_aload_n X d_Mo_run_143 rfl (lv_at hl 0 rfl) ?_
    obtain ⟨q17, hv, hf⟩ := mbind hf
    obtain ⟨a, ha, hv⟩ := mbind hv
    obtain ⟨ha, fs, hm⟩ := mrc_e ha
    refine m_caWv (m_runV (As := []) (r := some h0) (rest := []) X G I h_Mo_toXyz k_1131 (c_Mo_toXyz hv) mPr_blind (m_pre G I) hm rfl ha rfl rfl hl.1 (Nat.le_of_ble_eq_true rfl) rfl rfl ⟨Nat.le_of_ble_eq_true rfl, Nat.le_of_ble_eq_true rfl⟩ ⟨Nat.le_refl _, Nat.le_refl _⟩ d_Mo_run_144) I (fun H locs I => ?_)
    refine lv_goto (tgt := 292) hx hb d_Mo_run_147 (by decide) ?_
    exact w_Mo_run_292 X G I hf (lv_sub hl [0] rfl)
  have hf := miff hf hc6
  by_cases hc7 : v8 = 7
  · have hf := mift hf hc7
    refine lv_tableIn (tgt := 150) (x := v8) hx hb d_Mo_run_38 (by rw [hc7]; decide) (by rw [hc7]; decide) (by rw [hc7]; rfl) (by decide) ?_
    refine lv_iconst (v := 0) hx hb d_Mo_run_150 (by decide) ?_
    refine lv_istore_n (i := 3) (lv' := [(3, .int (0 : Int32)), (0, va_rf (some h0)), (1, .int x1), (2, .int x2)]) hx hb d_Mo_run_151 rfl hl (by decide) rfl (fun ls hl => ?_)
    exact w_Mo_run_152 X G (fun H locs μ ls I hf hl => w_Mo_run_198 X G I hf hl) 4096 _ _ _ _ _ _ _ I hf (lv_sub hl [1, 2, 3, 0] rfl)
  have hf := miff hf hc7
  by_cases hc8 : v8 = 8
  · have hf := mift hf hc8
    refine lv_tableIn (tgt := 201) (x := v8) hx hb d_Mo_run_38 (by rw [hc8]; decide) (by rw [hc8]; decide) (by rw [hc8]; rfl) (by decide) ?_
    refine lv_iconst (v := 0) hx hb d_Mo_run_201 (by decide) ?_
    refine lv_istore_n (i := 3) (lv' := [(3, .int (0 : Int32)), (0, va_rf (some h0)), (1, .int x1), (2, .int x2)]) hx hb d_Mo_run_202 rfl hl (by decide) rfl (fun ls hl => ?_)
    exact w_Mo_run_203 X G (fun H locs μ ls I hf hl => w_Mo_run_267 X G I hf hl) 4096 _ _ _ _ _ _ I hf (lv_sub hl [1, 2, 0] rfl)
  have hf := miff hf hc8
  by_cases hc9 : v8 = 9
  · have hf := mift hf hc9
    refine lv_tableIn (tgt := 270) (x := v8) hx hb d_Mo_run_38 (by rw [hc9]; decide) (by rw [hc9]; decide) (by rw [hc9]; rfl) (by decide) ?_
    refine r_aload_n X d_Mo_run_270 rfl (lv_at hl 0 rfl) ?_
    refine lv_iload_n hx hb d_Mo_run_271 rfl (lv_at hl 2 rfl) ?_
    obtain ⟨q18, hv, hf⟩ := mbind hf
    obtain ⟨a, ha, hv⟩ := mbind hv
    obtain ⟨ha, fs, hm⟩ := mrc_e ha
    refine m_caWv (m_runV (As := [.int x2]) (r := some h0) (rest := []) X G I h_Mo_gather k_1142 (c_Mo_gather hv) mPr_blind (m_pre G I) hm rfl ha rfl rfl hl.1 (Nat.le_of_ble_eq_true rfl) rfl rfl ⟨Nat.le_of_ble_eq_true rfl, Nat.le_of_ble_eq_true rfl⟩ ⟨Nat.le_refl _, Nat.le_refl _⟩ d_Mo_run_272) I (fun H locs I => ?_)
    refine lv_goto (tgt := 292) hx hb d_Mo_run_275 (by decide) ?_
    exact w_Mo_run_292 X G I hf (lv_sub hl [0] rfl)
  have hf := miff hf hc9
  by_cases hc10 : v8 = 10
  · have hf := mift hf hc10
    refine lv_tableIn (tgt := 278) (x := v8) hx hb d_Mo_run_38 (by rw [hc10]; decide) (by rw [hc10]; decide) (by rw [hc10]; rfl) (by decide) ?_
    refine r_aload_n X d_Mo_run_278 rfl (lv_at hl 0 rfl) ?_
    refine lv_iload_n hx hb d_Mo_run_279 rfl (lv_at hl 2 rfl) ?_
    obtain ⟨q19, hv, hf⟩ := mbind hf
    obtain ⟨a, ha, hv⟩ := mbind hv
    obtain ⟨ha, fs, hm⟩ := mrc_e ha
    refine m_caWv (m_runV (As := [.int x2]) (r := some h0) (rest := []) X G I h_Mo_matrixBack k_1146 (c_Mo_matrixBack hv) mPr_blind (m_pre G I) hm rfl ha rfl rfl hl.1 (Nat.le_of_ble_eq_true rfl) rfl rfl ⟨Nat.le_of_ble_eq_true rfl, Nat.le_of_ble_eq_true rfl⟩ ⟨Nat.le_refl _, Nat.le_refl _⟩ d_Mo_run_280) I (fun H locs I => ?_)
    refine lv_goto (tgt := 292) hx hb d_Mo_run_283 (by decide) ?_
    exact w_Mo_run_292 X G I hf (lv_sub hl [0] rfl)
  have hf := miff hf hc10
  have hn1 := lv_neT hc1 (a := 1) (by decide)
  have hn2 := lv_neT hc2 (a := 2) (by decide)
  have hn3 := lv_neT hc3 (a := 3) (by decide)
  have hn4 := lv_neT hc4 (a := 4) (by decide)
  have hn5 := lv_neT hc5 (a := 5) (by decide)
  have hn6 := lv_neT hc6 (a := 6) (by decide)
  have hn7 := lv_neT hc7 (a := 7) (by decide)
  have hn8 := lv_neT hc8 (a := 8) (by decide)
  have hn9 := lv_neT hc9 (a := 9) (by decide)
  have hn10 := lv_neT hc10 (a := 10) (by decide)
  refine lv_tableOut (tgt := 286) (x := v8) hx hb d_Mo_run_38 (by omega) (by decide) ?_
  refine r_aload_n X d_Mo_run_286 rfl (lv_at hl 0 rfl) ?_
  refine lv_iload_n hx hb d_Mo_run_287 rfl (lv_at hl 2 rfl) ?_
  refine lv_iconst (v := 1) hx hb d_Mo_run_288 (by decide) ?_
  obtain ⟨q20, hv, hf⟩ := mbind hf
  obtain ⟨a, ha, hv⟩ := mbind hv
  obtain ⟨ha, fs, hm⟩ := mrc_e ha
  refine m_caWv (m_runV (As := [.int x2, .int (1 : Int32)]) (r := some h0) (rest := []) X G I h_Mo_curves k_1089 (c_Mo_curves hv) mPr_blind (m_pre G I) hm rfl ha rfl rfl hl.1 (Nat.le_of_ble_eq_true rfl) rfl rfl ⟨Nat.le_of_ble_eq_true rfl, Nat.le_of_ble_eq_true rfl⟩ ⟨Nat.le_refl _, Nat.le_refl _⟩ d_Mo_run_289) I (fun H locs I => ?_)
  exact w_Mo_run_292 X G I hf (lv_sub hl [0] rfl)

set_option maxHeartbeats 4000000 in
set_option maxRecDepth 100000 in
theorem w_Mo_run_9 {h0 : Nat} {r : mM} (X : mX p m meth c s args b_Mo_run 4 none "ColourLinkerModel") (G : mG D cA dA z0 s) {kx32 : mM → Int32 → Int32 → Option (mM)} (hkx32 : ∀ (H : Heap) (locs : List Loc) (μ : mM) (ls : Array Slot) (x1 : Int32) (x2 : Int32), mI D cA z0 s μ H locs s.heap.size → kx32 μ x1 x2 = some r → lv_has ls 4 [(0, va_rf (some h0)), (1, .int x1), (2, .int x2)] → W p l e rm_Mo_run s m args below meth c H locs 0 0 (MQ below (mQW D cA z0 none r) args s 0 0 (mA z0)) (F0 m 32 ls [])) : ∀ (n : Nat) (H : Heap) (locs : List Loc) (μ : mM) (ls : Array Slot) (x1 : Int32) (x2 : Int32) (x3 : Int32), mI D cA z0 s μ H locs s.heap.size → f_Mo_run_9 h0 kx32 n μ x1 x2 x3 = some r → lv_has ls 4 [(0, va_rf (some h0)), (1, .int x1), (2, .int x2), (3, .int x3)] → W p l e rm_Mo_run s m args below meth c H locs 0 0 (MQ below (mQW D cA z0 none r) args s 0 0 (mA z0)) (F0 m 9 ls []) := by
  have hx := X.ex
  have hb := X.by_
  intro n
  induction n with
  | zero => intro H locs μ ls x1 x2 x3 I hf hl; rw [f_Mo_run_9] at hf; cases hf
  | succ n ih =>
    intro H locs μ ls x1 x2 x3 I hf hl
    rw [f_Mo_run_9] at hf
    refine lv_iload_n hx hb d_Mo_run_9 rfl (lv_at hl 3 rfl) ?_
    refine lv_iconst (v := 3) hx hb d_Mo_run_10 (by decide) ?_
    refine lv_icmp_ge (tgt := 32) hx hb d_Mo_run_11 (by decide) (fun hc => ?_) (fun hc => ?_)
    · have hf := mift hf hc
      exact hkx32 _ _ _ _ _ _ I hf (lv_sub hl [0, 1, 2] rfl)
    · have hf := miff hf hc
      refine r_aload_n X d_Mo_run_14 rfl (lv_at hl 0 rfl) ?_
      obtain ⟨v3, hv, hf⟩ := mbind hf
      refine r_getf X G I (mfA_e hv) o_Mo_old k_853 (Or.inl rfl) d_Mo_run_15 ?_
      refine lv_iload_n hx hb d_Mo_run_18 rfl (lv_at hl 3 rfl) ?_
      refine r_aload_n X d_Mo_run_19 rfl (lv_at hl 0 rfl) ?_
      obtain ⟨v4, hv, hf⟩ := mbind hf
      refine r_getf X G I (mfA_e hv) o_Mo_v k_852 (Or.inl rfl) d_Mo_run_20 ?_
      refine lv_iload_n hx hb d_Mo_run_23 rfl (lv_at hl 3 rfl) ?_
      obtain ⟨v5, hv, hf⟩ := mbind hf
      refine r_lald X G I hv d_Mo_run_24 ?_
      obtain ⟨m6, hv, hf⟩ := mbind hf
      refine r_last X G I hv d_Mo_run_25 (fun H locs I => ?_)
      refine lv_iinc (i := 3) (k := 3) (v := (x3 + (1 : Int32))) (lv' := [(3, .int (x3 + (1 : Int32))), (0, va_rf (some h0)), (1, .int x1), (2, .int x2)]) hx hb d_Mo_run_26 hl rfl (congrArg (fun t => x3 + t) (by decide : Int32.ofInt (1) = (1 : Int32))) (by decide) rfl (fun ls hl => ?_)
      refine lv_goto (tgt := 9) hx hb d_Mo_run_29 (by decide) ?_
      exact ih _ _ _ _ _ _ _ I hf (lv_sub hl [1, 2, 3, 0] rfl)

set_option maxHeartbeats 4000000 in
set_option maxRecDepth 100000 in
theorem w_Mo_run {h0 : Nat} {r : mM} (X : mX p m meth c s args b_Mo_run 4 none "ColourLinkerModel") (G : mG D cA dA z0 s) {H : Heap} {locs : List Loc} {μ : mM} {ls : Array Slot} {x1 : Int32} (I : mI D cA z0 s μ H locs s.heap.size) (hf : f_Mo_run h0 μ x1 = some r) (hl : lv_has ls 4 [(0, va_rf (some h0)), (1, .int x1)]) : W p l e rm_Mo_run s m args below meth c H locs 0 0 (MQ below (mQW D cA z0 none r) args s 0 0 (mA z0)) (F0 m 0 ls []) := by
  have hx := X.ex
  have hb := X.by_
  unfold f_Mo_run at hf
  refine r_aload_n X d_Mo_run_0 rfl (lv_at hl 0 rfl) ?_
  obtain ⟨v1, hv, hf⟩ := mbind hf
  refine r_getf X G I (mfA_e hv) o_Mo_who k_847 (Or.inl rfl) d_Mo_run_1 ?_
  refine lv_iload_n hx hb d_Mo_run_4 rfl (lv_at hl 1 rfl) ?_
  obtain ⟨v2, hv, hf⟩ := mbind hf
  refine r_iald X G I hv d_Mo_run_5 ?_
  refine lv_istore_n (i := 2) (lv' := [(2, .int v2), (0, va_rf (some h0)), (1, .int x1)]) hx hb d_Mo_run_6 rfl hl (by decide) rfl (fun ls hl => ?_)
  refine lv_iconst (v := 0) hx hb d_Mo_run_7 (by decide) ?_
  refine lv_istore_n (i := 3) (lv' := [(3, .int (0 : Int32)), (2, .int v2), (0, va_rf (some h0)), (1, .int x1)]) hx hb d_Mo_run_8 rfl hl (by decide) rfl (fun ls hl => ?_)
  exact w_Mo_run_9 X G (fun H locs μ ls x1 x2 I hf hl => w_Mo_run_32 X G I hf hl) 4096 _ _ _ _ _ _ _ I hf (lv_sub hl [2, 3, 1, 0] rfl)

set_option maxHeartbeats 4000000 in
set_option maxRecDepth 100000 in
theorem c_Mo_run {l : Launch} {D : va_G} {cA : Nat → ClassId} {dA z0 : Nat} {μ : mM} {h0 : Nat} {x1 : Int32} {r : mM} (hf : f_Mo_run h0 μ x1 = some r) : Met l y_Mo_run (mW y_Mo_run b_Mo_run 4 none) rm_Mo_run (va_Pc [.ref h0, .int x1] (mPr D cA dA z0 μ)) (mQW D cA z0 none r) 0 0 (mA z0) := by
  refine Met.ofW (cc := b_Mo_run) (maxL := 4) (ret := none) (by decide) rfl ?_
  intro p e s m args below meth c s₁ B hml hv
  obtain ⟨rfl, G, hP⟩ := hv
  have X := mX.of B hml
  exact m_entry (lv := [(0, va_rf (some h0)), (1, .int x1)]) (Nat.le_of_ble_eq_true rfl) rfl (fun ls hl => w_Mo_run X G (mI.start hP) hf hl)

abbrev rm_Mo_blackLevel : Room := { frames := 7, cells := 0, slots := 0, locals := 180 }
theorem h_Mo_blackLevel : mCV y_Mo_blackLevel b_Mo_blackLevel 5 (some .long) 2 := ⟨k_1063, k_79, ⟨by decide, by decide, by decide +kernel⟩, k_1062, k_50⟩
set_option maxHeartbeats 4000000 in
set_option maxRecDepth 100000 in
theorem w_Mo_blackLevel_75 {h0 : Nat} {r : Int64 × mM} (X : mX p m meth c s args b_Mo_blackLevel 5 (some .long) "ColourLinkerModel") (G : mG D cA dA z0 s) {H : Heap} {locs : List Loc} {μ : mM} {ls : Array Slot} {x3 : Int32} (I : mI D cA z0 s μ H locs s.heap.size) (hf : f_Mo_blackLevel_75 h0 μ x3 = some r) (hl : lv_has ls 5 [(0, va_rf (some h0)), (3, .int x3)]) : W p l e rm_Mo_blackLevel s m args below meth c H locs 0 0 (MQ below (mQW D cA z0 (some (.long r.1)) r.2) args s 0 0 (mA z0)) (F0 m 75 ls []) := by
  have hx := X.ex
  have hb := X.by_
  unfold f_Mo_blackLevel_75 at hf
  refine r_aload_n X d_Mo_blackLevel_75 rfl (lv_at hl 0 rfl) ?_
  refine lv_iload_n hx hb d_Mo_blackLevel_76 rfl (lv_at hl 1 rfl) ?_
  obtain ⟨m9, hv, hf⟩ := mbind hf
  refine r_put (ty := .int) X G I hv o_Mo_row k_850 (Or.inl rfl) (by decide) rfl rfl d_Mo_blackLevel_77 (fun H locs I => ?_)
  refine r_aload_n X d_Mo_blackLevel_80 rfl (lv_at hl 0 rfl) ?_
  obtain ⟨v10, hv, hf⟩ := mbind hf
  refine r_getf X G I (mfA_e hv) o_Mo_v k_852 (Or.inl rfl) d_Mo_blackLevel_81 ?_
  refine lv_iconst (v := 1) hx hb d_Mo_blackLevel_84 (by decide) ?_
  obtain ⟨v11, hv, hf⟩ := mbind hf
  refine r_lald X G I hv d_Mo_blackLevel_85 ?_
  obtain rfl := Option.some.inj hf
  exact r_lretW X I d_Mo_blackLevel_86

set_option maxHeartbeats 4000000 in
set_option maxRecDepth 100000 in
theorem w_Mo_blackLevel_54 {h0 : Nat} {r : Int64 × mM} (X : mX p m meth c s args b_Mo_blackLevel 5 (some .long) "ColourLinkerModel") (G : mG D cA dA z0 s) {kx75 : mM → Int32 → Option (Int64 × mM)} (hkx75 : ∀ (H : Heap) (locs : List Loc) (μ : mM) (ls : Array Slot) (x3 : Int32), mI D cA z0 s μ H locs s.heap.size → kx75 μ x3 = some r → lv_has ls 5 [(0, va_rf (some h0)), (3, .int x3)] → W p l e rm_Mo_blackLevel s m args below meth c H locs 0 0 (MQ below (mQW D cA z0 (some (.long r.1)) r.2) args s 0 0 (mA z0)) (F0 m 75 ls [])) : ∀ (n : Nat) (H : Heap) (locs : List Loc) (μ : mM) (ls : Array Slot) (x3 : Int32) (x4 : Int32), mI D cA z0 s μ H locs s.heap.size → f_Mo_blackLevel_54 h0 kx75 n μ x3 x4 = some r → lv_has ls 5 [(0, va_rf (some h0)), (3, .int x3), (4, .int x4)] → W p l e rm_Mo_blackLevel s m args below meth c H locs 0 0 (MQ below (mQW D cA z0 (some (.long r.1)) r.2) args s 0 0 (mA z0)) (F0 m 54 ls []) := by
  have hx := X.ex
  have hb := X.by_
  intro n
  induction n with
  | zero => intro H locs μ ls x3 x4 I hf hl; rw [f_Mo_blackLevel_54] at hf; cases hf
  | succ n ih =>
    intro H locs μ ls x3 x4 I hf hl
    rw [f_Mo_blackLevel_54] at hf
    refine lv_iload hx hb d_Mo_blackLevel_54 (lv_at hl 2 rfl) ?_
    refine r_aload_n X d_Mo_blackLevel_56 rfl (lv_at hl 0 rfl) ?_
    obtain ⟨v7, hv, hf⟩ := mbind hf
    refine r_getf X G I (mfI_e hv) o_Mo_row k_850 (Or.inl rfl) d_Mo_blackLevel_57 ?_
    refine lv_icmp_ge (tgt := 75) hx hb d_Mo_blackLevel_60 (by decide) (fun hc => ?_) (fun hc => ?_)
    · have hf := mift hf hc
      exact hkx75 _ _ _ _ _ I hf (lv_sub hl [0, 1] rfl)
    · have hf := miff hf hc
      refine r_aload_n X d_Mo_blackLevel_63 rfl (lv_at hl 0 rfl) ?_
      refine lv_iload hx hb d_Mo_blackLevel_64 (lv_at hl 2 rfl) ?_
      obtain ⟨q8, hv, hf⟩ := mbind hf
      obtain ⟨a, ha, hv⟩ := mbind hv
      obtain ⟨ha, fs, hm⟩ := mrc_e ha
      refine m_caWv (m_runV (As := [.int x4]) (r := some h0) (rest := []) X G I h_Mo_run k_1085 (c_Mo_run hv) mPr_blind (m_pre G I) hm rfl ha rfl rfl hl.1 (Nat.le_of_ble_eq_true rfl) rfl rfl ⟨Nat.le_of_ble_eq_true rfl, Nat.le_of_ble_eq_true rfl⟩ ⟨Nat.le_refl _, Nat.le_refl _⟩ d_Mo_blackLevel_66) I (fun H locs I => ?_)
      refine lv_iinc (i := 4) (k := 2) (v := (x4 + (1 : Int32))) (lv' := [(4, .int (x4 + (1 : Int32))), (0, va_rf (some h0)), (3, .int x3)]) hx hb d_Mo_blackLevel_69 hl rfl (congrArg (fun t => x4 + t) (by decide : Int32.ofInt (1) = (1 : Int32))) (by decide) rfl (fun ls hl => ?_)
      refine lv_goto (tgt := 54) hx hb d_Mo_blackLevel_72 (by decide) ?_
      exact ih _ _ _ _ _ _ I hf (lv_sub hl [1, 2, 0] rfl)

set_option maxHeartbeats 4000000 in
set_option maxRecDepth 100000 in
theorem w_Mo_blackLevel_51 {h0 : Nat} {r : Int64 × mM} (X : mX p m meth c s args b_Mo_blackLevel 5 (some .long) "ColourLinkerModel") (G : mG D cA dA z0 s) {H : Heap} {locs : List Loc} {μ : mM} {ls : Array Slot} {x3 : Int32} (I : mI D cA z0 s μ H locs s.heap.size) (hf : f_Mo_blackLevel_51 h0 μ x3 = some r) (hl : lv_has ls 5 [(0, va_rf (some h0)), (3, .int x3)]) : W p l e rm_Mo_blackLevel s m args below meth c H locs 0 0 (MQ below (mQW D cA z0 (some (.long r.1)) r.2) args s 0 0 (mA z0)) (F0 m 51 ls []) := by
  have hx := X.ex
  have hb := X.by_
  unfold f_Mo_blackLevel_51 at hf
  refine lv_iload_n hx hb d_Mo_blackLevel_51 rfl (lv_at hl 1 rfl) ?_
  refine lv_istore (i := 4) (lv' := [(4, .int x3), (0, va_rf (some h0)), (3, .int x3)]) hx hb d_Mo_blackLevel_52 hl (by decide) rfl (fun ls hl => ?_)
  exact w_Mo_blackLevel_54 X G (fun H locs μ ls x3 I hf hl => w_Mo_blackLevel_75 X G I hf hl) 4096 _ _ _ _ _ _ I hf (lv_sub hl [1, 2, 0] rfl)

set_option maxHeartbeats 4000000 in
set_option maxRecDepth 100000 in
theorem w_Mo_blackLevel_31 {h0 : Nat} {r : Int64 × mM} (X : mX p m meth c s args b_Mo_blackLevel 5 (some .long) "ColourLinkerModel") (G : mG D cA dA z0 s) {kx51 : mM → Int32 → Option (Int64 × mM)} (hkx51 : ∀ (H : Heap) (locs : List Loc) (μ : mM) (ls : Array Slot) (x3 : Int32), mI D cA z0 s μ H locs s.heap.size → kx51 μ x3 = some r → lv_has ls 5 [(0, va_rf (some h0)), (3, .int x3)] → W p l e rm_Mo_blackLevel s m args below meth c H locs 0 0 (MQ below (mQW D cA z0 (some (.long r.1)) r.2) args s 0 0 (mA z0)) (F0 m 51 ls [])) : ∀ (n : Nat) (H : Heap) (locs : List Loc) (μ : mM) (ls : Array Slot) (x3 : Int32) (x4 : Int32), mI D cA z0 s μ H locs s.heap.size → f_Mo_blackLevel_31 h0 kx51 n μ x3 x4 = some r → lv_has ls 5 [(0, va_rf (some h0)), (3, .int x3), (4, .int x4)] → W p l e rm_Mo_blackLevel s m args below meth c H locs 0 0 (MQ below (mQW D cA z0 (some (.long r.1)) r.2) args s 0 0 (mA z0)) (F0 m 31 ls []) := by
  have hx := X.ex
  have hb := X.by_
  intro n
  induction n with
  | zero => intro H locs μ ls x3 x4 I hf hl; rw [f_Mo_blackLevel_31] at hf; cases hf
  | succ n ih =>
    intro H locs μ ls x3 x4 I hf hl
    rw [f_Mo_blackLevel_31] at hf
    refine lv_iload hx hb d_Mo_blackLevel_31 (lv_at hl 2 rfl) ?_
    refine lv_iconst (v := 3) hx hb d_Mo_blackLevel_33 (by decide) ?_
    refine lv_icmp_ge (tgt := 51) hx hb d_Mo_blackLevel_34 (by decide) (fun hc => ?_) (fun hc => ?_)
    · have hf := mift hf hc
      exact hkx51 _ _ _ _ _ I hf (lv_sub hl [0, 1] rfl)
    · have hf := miff hf hc
      refine r_aload_n X d_Mo_blackLevel_37 rfl (lv_at hl 0 rfl) ?_
      obtain ⟨v5, hv, hf⟩ := mbind hf
      refine r_getf X G I (mfA_e hv) o_Mo_v k_852 (Or.inl rfl) d_Mo_blackLevel_38 ?_
      refine lv_iload hx hb d_Mo_blackLevel_41 (lv_at hl 2 rfl) ?_
      refine lv_lconst (v := 0) hx hb d_Mo_blackLevel_43 (by decide) ?_
      obtain ⟨m6, hv, hf⟩ := mbind hf
      refine r_last X G I hv d_Mo_blackLevel_44 (fun H locs I => ?_)
      refine lv_iinc (i := 4) (k := 2) (v := (x4 + (1 : Int32))) (lv' := [(4, .int (x4 + (1 : Int32))), (0, va_rf (some h0)), (3, .int x3)]) hx hb d_Mo_blackLevel_45 hl rfl (congrArg (fun t => x4 + t) (by decide : Int32.ofInt (1) = (1 : Int32))) (by decide) rfl (fun ls hl => ?_)
      refine lv_goto (tgt := 31) hx hb d_Mo_blackLevel_48 (by decide) ?_
      exact ih _ _ _ _ _ _ I hf (lv_sub hl [1, 2, 0] rfl)

set_option maxHeartbeats 4000000 in
set_option maxRecDepth 100000 in
theorem w_Mo_blackLevel_28 {h0 : Nat} {r : Int64 × mM} (X : mX p m meth c s args b_Mo_blackLevel 5 (some .long) "ColourLinkerModel") (G : mG D cA dA z0 s) {H : Heap} {locs : List Loc} {μ : mM} {ls : Array Slot} {x3 : Int32} (I : mI D cA z0 s μ H locs s.heap.size) (hf : f_Mo_blackLevel_28 h0 μ x3 = some r) (hl : lv_has ls 5 [(0, va_rf (some h0)), (3, .int x3)]) : W p l e rm_Mo_blackLevel s m args below meth c H locs 0 0 (MQ below (mQW D cA z0 (some (.long r.1)) r.2) args s 0 0 (mA z0)) (F0 m 28 ls []) := by
  have hx := X.ex
  have hb := X.by_
  unfold f_Mo_blackLevel_28 at hf
  refine lv_iconst (v := 0) hx hb d_Mo_blackLevel_28 (by decide) ?_
  refine lv_istore (i := 4) (lv' := [(4, .int (0 : Int32)), (0, va_rf (some h0)), (3, .int x3)]) hx hb d_Mo_blackLevel_29 hl (by decide) rfl (fun ls hl => ?_)
  exact w_Mo_blackLevel_31 X G (fun H locs μ ls x3 I hf hl => w_Mo_blackLevel_51 X G I hf hl) 4096 _ _ _ _ _ _ I hf (lv_sub hl [1, 2, 0] rfl)

set_option maxHeartbeats 4000000 in
set_option maxRecDepth 100000 in
theorem w_Mo_blackLevel {h0 : Nat} {r : Int64 × mM} (X : mX p m meth c s args b_Mo_blackLevel 5 (some .long) "ColourLinkerModel") (G : mG D cA dA z0 s) {H : Heap} {locs : List Loc} {μ : mM} {ls : Array Slot} {x1 : Int32} {x2 : Int32} (I : mI D cA z0 s μ H locs s.heap.size) (hf : f_Mo_blackLevel h0 μ x1 x2 = some r) (hl : lv_has ls 5 [(0, va_rf (some h0)), (1, .int x1), (2, .int x2)]) : W p l e rm_Mo_blackLevel s m args below meth c H locs 0 0 (MQ below (mQW D cA z0 (some (.long r.1)) r.2) args s 0 0 (mA z0)) (F0 m 0 ls []) := by
  have hx := X.ex
  have hb := X.by_
  unfold f_Mo_blackLevel at hf
  refine r_aload_n X d_Mo_blackLevel_0 rfl (lv_at hl 0 rfl) ?_
  obtain ⟨v1, hv, hf⟩ := mbind hf
  refine r_getf X G I (mfI_e hv) o_Mo_row k_850 (Or.inl rfl) d_Mo_blackLevel_1 ?_
  refine lv_istore_n (i := 3) (lv' := [(3, .int v1), (0, va_rf (some h0)), (1, .int x1), (2, .int x2)]) hx hb d_Mo_blackLevel_4 rfl hl (by decide) rfl (fun ls hl => ?_)
  refine r_aload_n X d_Mo_blackLevel_5 rfl (lv_at hl 1 rfl) ?_
  refine lv_iload_n hx hb d_Mo_blackLevel_6 rfl (lv_at hl 2 rfl) ?_
  refine lv_iload_n hx hb d_Mo_blackLevel_7 rfl (lv_at hl 3 rfl) ?_
  obtain ⟨q2, hv, hf⟩ := mbind hf
  obtain ⟨a, ha, hv⟩ := mbind hv
  obtain ⟨ha, fs, hm⟩ := mrc_e ha
  refine m_caWv (m_runV (As := [.int x1, .int x2]) (r := some h0) (rest := []) X G I h_Mo_forth k_1064 (c_Mo_forth hv) mPr_blind (m_pre G I) hm rfl ha rfl rfl hl.1 (Nat.le_of_ble_eq_true rfl) rfl rfl ⟨Nat.le_of_ble_eq_true rfl, Nat.le_of_ble_eq_true rfl⟩ ⟨Nat.le_refl _, Nat.le_refl _⟩ d_Mo_blackLevel_8) I (fun H locs I => ?_)
  refine r_aload_n X d_Mo_blackLevel_11 rfl (lv_at hl 1 rfl) ?_
  refine lv_iload_n hx hb d_Mo_blackLevel_12 rfl (lv_at hl 2 rfl) ?_
  obtain ⟨q3, hv, hf⟩ := mbind hf
  obtain ⟨a, ha, hv⟩ := mbind hv
  obtain ⟨ha, fs, hm⟩ := mrc_e ha
  refine m_caR (m_runV (As := [.int x1]) (r := some h0) (rest := []) X G I h_Mo_lab k_1033 (c_Mo_lab hv) mPr_blind (m_pre G I) hm rfl ha rfl rfl hl.1 (Nat.le_of_ble_eq_true rfl) rfl rfl ⟨Nat.le_of_ble_eq_true rfl, Nat.le_of_ble_eq_true rfl⟩ ⟨Nat.le_refl _, Nat.le_refl _⟩ d_Mo_blackLevel_13) ?_
  refine lv_if_eq (tgt := 28) hx hb d_Mo_blackLevel_16 (by decide) (fun hc => ?_) (fun hc => ?_)
  · have hf := mift hf hc
    exact w_Mo_blackLevel_28 X G I hf (lv_sub hl [1, 0] rfl)
  · have hf := miff hf hc
    refine r_aload_n X d_Mo_blackLevel_19 rfl (lv_at hl 1 rfl) ?_
    refine lv_bipush (v := 6) hx hb d_Mo_blackLevel_20 (by decide) ?_
    refine lv_iload_n hx hb d_Mo_blackLevel_22 rfl (lv_at hl 2 rfl) ?_
    refine lv_iconst (v := 0) hx hb d_Mo_blackLevel_23 (by decide) ?_
    refine lv_iconst (v := 0) hx hb d_Mo_blackLevel_24 (by decide) ?_
    obtain ⟨q4, hv, hf⟩ := mbind hf
    obtain ⟨a, ha, hv⟩ := mbind hv
    obtain ⟨ha, fs, hm⟩ := mrc_e ha
    refine m_caWv (m_runV (As := [.int (6 : Int32), .int x1, .int (0 : Int32), .int (0 : Int32)]) (r := some h0) (rest := []) X G I h_Mo_put k_1076 (c_Mo_put hv) mPr_blind (m_pre G I) hm rfl ha rfl rfl hl.1 (Nat.le_of_ble_eq_true rfl) rfl rfl ⟨Nat.le_of_ble_eq_true rfl, Nat.le_of_ble_eq_true rfl⟩ ⟨Nat.le_refl _, Nat.le_refl _⟩ d_Mo_blackLevel_25) I (fun H locs I => ?_)
    exact w_Mo_blackLevel_28 X G I hf (lv_sub hl [1, 0] rfl)

set_option maxHeartbeats 4000000 in
set_option maxRecDepth 100000 in
theorem c_Mo_blackLevel {l : Launch} {D : va_G} {cA : Nat → ClassId} {dA z0 : Nat} {μ : mM} {h0 : Nat} {x1 : Int32} {x2 : Int32} {r : Int64 × mM} (hf : f_Mo_blackLevel h0 μ x1 x2 = some r) : Met l y_Mo_blackLevel (mW y_Mo_blackLevel b_Mo_blackLevel 5 (some .long)) rm_Mo_blackLevel (va_Pc [.ref h0, .int x1, .int x2] (mPr D cA dA z0 μ)) (mQW D cA z0 (some (.long r.1)) r.2) 0 0 (mA z0) := by
  refine Met.ofW (cc := b_Mo_blackLevel) (maxL := 5) (ret := (some .long)) (by decide) rfl ?_
  intro p e s m args below meth c s₁ B hml hv
  obtain ⟨rfl, G, hP⟩ := hv
  have X := mX.of B hml
  exact m_entry (lv := [(0, va_rf (some h0)), (1, .int x1), (2, .int x2)]) (Nat.le_of_ble_eq_true rfl) rfl (fun ls hl => w_Mo_blackLevel X G (mI.start hP) hf hl)

abbrev rm_Mo_refusal : Room := { frames := 8, cells := 0, slots := 0, locals := 204 }
theorem h_Mo_refusal : mCV y_Mo_refusal b_Mo_refusal 10 (some .int) 4 := ⟨k_1020, k_79, ⟨by decide, by decide, by decide +kernel⟩, k_1019, k_41⟩
set_option maxHeartbeats 4000000 in
set_option maxRecDepth 100000 in
theorem w_Mo_refusal_249 {h0 : Nat} {r : Int32 × mM} (X : mX p m meth c s args b_Mo_refusal 10 (some .int) "ColourLinkerModel") (G : mG D cA dA z0 s) {H : Heap} {locs : List Loc} {μ : mM} {ls : Array Slot} {s0 : Int32} (I : mI D cA z0 s μ H locs s.heap.size) (hf : f_Mo_refusal_249 h0 μ s0 = some r) (hl : lv_has ls 10 [(0, va_rf (some h0))]) : W p l e rm_Mo_refusal s m args below meth c H locs 0 0 (MQ below (mQW D cA z0 (some (.int r.1)) r.2) args s 0 0 (mA z0)) (F0 m 249 ls [.int s0]) := by
  have hx := X.ex
  have hb := X.by_
  unfold f_Mo_refusal_249 at hf
  obtain rfl := Option.some.inj hf
  exact r_iretW X I d_Mo_refusal_249

set_option maxHeartbeats 4000000 in
set_option maxRecDepth 100000 in
theorem w_Mo_refusal_243 {h0 : Nat} {r : Int32 × mM} (X : mX p m meth c s args b_Mo_refusal 10 (some .int) "ColourLinkerModel") (G : mG D cA dA z0 s) {H : Heap} {locs : List Loc} {μ : mM} {ls : Array Slot}  (I : mI D cA z0 s μ H locs s.heap.size) (hf : f_Mo_refusal_243 h0 μ = some r) (hl : lv_has ls 10 [(0, va_rf (some h0))]) : W p l e rm_Mo_refusal s m args below meth c H locs 0 0 (MQ below (mQW D cA z0 (some (.int r.1)) r.2) args s 0 0 (mA z0)) (F0 m 243 ls []) := by
  have hx := X.ex
  have hb := X.by_
  unfold f_Mo_refusal_243 at hf
  refine lv_bipush (v := -7) hx hb d_Mo_refusal_243 (by decide) ?_
  refine lv_goto (tgt := 249) hx hb d_Mo_refusal_245 (by decide) ?_
  exact w_Mo_refusal_249 X G I hf hl

set_option maxHeartbeats 4000000 in
set_option maxRecDepth 100000 in
theorem w_Mo_refusal_201 {h0 : Nat} {r : Int32 × mM} (X : mX p m meth c s args b_Mo_refusal 10 (some .int) "ColourLinkerModel") (G : mG D cA dA z0 s) {H : Heap} {locs : List Loc} {μ : mM} {ls : Array Slot} {s0 : Int32} (I : mI D cA z0 s μ H locs s.heap.size) (hf : f_Mo_refusal_201 h0 μ s0 = some r) (hl : lv_has ls 10 [(0, va_rf (some h0))]) : W p l e rm_Mo_refusal s m args below meth c H locs 0 0 (MQ below (mQW D cA z0 (some (.int r.1)) r.2) args s 0 0 (mA z0)) (F0 m 201 ls [.int s0]) := by
  have hx := X.ex
  have hb := X.by_
  unfold f_Mo_refusal_201 at hf
  obtain rfl := Option.some.inj hf
  exact r_iretW X I d_Mo_refusal_201

set_option maxHeartbeats 4000000 in
set_option maxRecDepth 100000 in
theorem w_Mo_refusal_200 {h0 : Nat} {r : Int32 × mM} (X : mX p m meth c s args b_Mo_refusal 10 (some .int) "ColourLinkerModel") (G : mG D cA dA z0 s) {H : Heap} {locs : List Loc} {μ : mM} {ls : Array Slot}  (I : mI D cA z0 s μ H locs s.heap.size) (hf : f_Mo_refusal_200 h0 μ = some r) (hl : lv_has ls 10 [(0, va_rf (some h0))]) : W p l e rm_Mo_refusal s m args below meth c H locs 0 0 (MQ below (mQW D cA z0 (some (.int r.1)) r.2) args s 0 0 (mA z0)) (F0 m 200 ls []) := by
  have hx := X.ex
  have hb := X.by_
  unfold f_Mo_refusal_200 at hf
  refine lv_iconst (v := 0) hx hb d_Mo_refusal_200 (by decide) ?_
  exact w_Mo_refusal_201 X G I hf hl

set_option maxHeartbeats 4000000 in
set_option maxRecDepth 100000 in
theorem w_Mo_refusal_195 {h0 : Nat} {r : Int32 × mM} (X : mX p m meth c s args b_Mo_refusal 10 (some .int) "ColourLinkerModel") (G : mG D cA dA z0 s) {H : Heap} {locs : List Loc} {μ : mM} {ls : Array Slot}  (I : mI D cA z0 s μ H locs s.heap.size) (hf : f_Mo_refusal_195 h0 μ = some r) (hl : lv_has ls 10 [(0, va_rf (some h0))]) : W p l e rm_Mo_refusal s m args below meth c H locs 0 0 (MQ below (mQW D cA z0 (some (.int r.1)) r.2) args s 0 0 (mA z0)) (F0 m 195 ls []) := by
  have hx := X.ex
  have hb := X.by_
  unfold f_Mo_refusal_195 at hf
  refine lv_bipush (v := -7) hx hb d_Mo_refusal_195 (by decide) ?_
  refine lv_goto (tgt := 201) hx hb d_Mo_refusal_197 (by decide) ?_
  exact w_Mo_refusal_201 X G I hf hl

set_option maxHeartbeats 4000000 in
set_option maxRecDepth 100000 in
theorem w_Mo_refusal_154 {h0 : Nat} {r : Int32 × mM} (X : mX p m meth c s args b_Mo_refusal 10 (some .int) "ColourLinkerModel") (G : mG D cA dA z0 s) {H : Heap} {locs : List Loc} {μ : mM} {ls : Array Slot} {x1 : Int32} {x2 : Int32} {x3 : Int32} {x4 : Int32} (I : mI D cA z0 s μ H locs s.heap.size) (hf : f_Mo_refusal_154 h0 μ x1 x2 x3 x4 = some r) (hl : lv_has ls 10 [(0, va_rf (some h0)), (1, .int x1), (2, .int x2), (3, .int x3), (4, .int x4)]) : W p l e rm_Mo_refusal s m args below meth c H locs 0 0 (MQ below (mQW D cA z0 (some (.int r.1)) r.2) args s 0 0 (mA z0)) (F0 m 154 ls []) := by
  have hx := X.ex
  have hb := X.by_
  unfold f_Mo_refusal_154 at hf
  refine lv_iload_n hx hb d_Mo_refusal_154 rfl (lv_at hl 3 rfl) ?_
  refine lv_iconst (v := 3) hx hb d_Mo_refusal_155 (by decide) ?_
  refine lv_icmp_ne (tgt := 202) hx hb d_Mo_refusal_156 (by decide) (fun hc => ?_) (fun hc => ?_)
  · have hf := miff hf hc
    refine lv_iload hx hb d_Mo_refusal_202 (lv_at hl 4 rfl) ?_
    refine lv_if_ne (tgt := 209) hx hb d_Mo_refusal_204 (by decide) (fun hc => ?_) (fun hc => ?_)
    · have hf := miff hf hc
      refine r_aload_n X d_Mo_refusal_209 rfl (lv_at hl 0 rfl) ?_
      refine lv_iload_n hx hb d_Mo_refusal_210 rfl (lv_at hl 1 rfl) ?_
      refine lv_iload_n hx hb d_Mo_refusal_211 rfl (lv_at hl 3 rfl) ?_
      obtain ⟨q12, hv, hf⟩ := mbind hf
      obtain ⟨a, ha, hv⟩ := mbind hv
      obtain ⟨ha, fs, hm⟩ := mrc_e ha
      refine m_caW (m_runV (As := [.int x1, .int x3]) (r := some h0) (rest := []) X G I h_Mo_blackLevel k_1060 (c_Mo_blackLevel hv) mPr_blind (m_pre G I) hm rfl ha rfl rfl hl.1 (Nat.le_of_ble_eq_true rfl) rfl rfl ⟨Nat.le_of_ble_eq_true rfl, Nat.le_of_ble_eq_true rfl⟩ ⟨Nat.le_refl _, Nat.le_refl _⟩ d_Mo_refusal_212) I (fun H locs I => ?_)
      refine lv_lstore (i := 6) (lv' := [(6, .long q12.1), (0, va_rf (some h0)), (1, .int x1), (2, .int x2), (3, .int x3), (4, .int x4)]) hx hb d_Mo_refusal_215 hl (by decide) rfl (fun ls hl => ?_)
      refine r_aload_n X d_Mo_refusal_217 rfl (lv_at hl 1 rfl) ?_
      refine lv_iload_n hx hb d_Mo_refusal_218 rfl (lv_at hl 3 rfl) ?_
      refine lv_iload_n hx hb d_Mo_refusal_219 rfl (lv_at hl 4 rfl) ?_
      obtain ⟨q13, hv, hf⟩ := mbind hf
      obtain ⟨a, ha, hv⟩ := mbind hv
      obtain ⟨ha, fs, hm⟩ := mrc_e ha
      refine m_caW (m_runV (As := [.int x2, .int x3]) (r := some h0) (rest := []) X G I h_Mo_blackLevel k_1060 (c_Mo_blackLevel hv) mPr_blind (m_pre G I) hm rfl ha rfl rfl hl.1 (Nat.le_of_ble_eq_true rfl) rfl rfl ⟨Nat.le_of_ble_eq_true rfl, Nat.le_of_ble_eq_true rfl⟩ ⟨Nat.le_refl _, Nat.le_refl _⟩ d_Mo_refusal_220) I (fun H locs I => ?_)
      refine lv_lstore (i := 8) (lv' := [(8, .long q13.1), (6, .long q12.1), (0, va_rf (some h0)), (1, .int x1), (2, .int x2), (3, .int x3), (4, .int x4)]) hx hb d_Mo_refusal_223 hl (by decide) rfl (fun ls hl => ?_)
      refine lv_lload hx hb d_Mo_refusal_225 (lv_at hl 1 rfl) ?_
      refine lv_ldc2 (v := 32768) hx hb X.ow (X.w k_1008) d_Mo_refusal_227 ?_
      refine r_lcge (tgt := 243) X d_Mo_refusal_230 d_Mo_refusal_231 (by decide) (fun hc => ?_) (fun hc => ?_)
      · have hf := mift hf hc
        exact w_Mo_refusal_243 X G I hf (lv_sub hl [2] rfl)
      · have hf := miff hf hc
        refine lv_lload hx hb d_Mo_refusal_234 (lv_at hl 0 rfl) ?_
        refine lv_ldc2 (v := 32768) hx hb X.ow (X.w k_1008) d_Mo_refusal_236 ?_
        refine r_lclt (tgt := 248) X d_Mo_refusal_239 d_Mo_refusal_240 (by decide) (fun hc => ?_) (fun hc => ?_)
        · have hf := mift hf hc
          refine lv_iconst (v := 0) hx hb d_Mo_refusal_248 (by decide) ?_
          exact w_Mo_refusal_249 X G I hf (lv_sub hl [2] rfl)
        · have hf := miff hf hc
          exact w_Mo_refusal_243 X G I hf (lv_sub hl [2] rfl)
    · have hf := mift hf hc
      refine lv_iconst (v := 0) hx hb d_Mo_refusal_207 (by decide) ?_
      obtain rfl := Option.some.inj hf
      exact r_iretW X I d_Mo_refusal_208
  · have hf := mift hf hc
    refine r_aload_n X d_Mo_refusal_159 rfl (lv_at hl 0 rfl) ?_
    refine lv_iload_n hx hb d_Mo_refusal_160 rfl (lv_at hl 1 rfl) ?_
    refine lv_iload_n hx hb d_Mo_refusal_161 rfl (lv_at hl 2 rfl) ?_
    obtain ⟨q14, hv, hf⟩ := mbind hf
    obtain ⟨a, ha, hv⟩ := mbind hv
    obtain ⟨ha, fs, hm⟩ := mrc_e ha
    refine m_caR (m_runV (As := [.int x1, .int x2]) (r := some h0) (rest := []) X G I h_Mo_otherWhite k_1048 (c_Mo_otherWhite hv) mPr_blind (m_pre G I) hm rfl ha rfl rfl hl.1 (Nat.le_of_ble_eq_true rfl) rfl rfl ⟨Nat.le_of_ble_eq_true rfl, Nat.le_of_ble_eq_true rfl⟩ ⟨Nat.le_refl _, Nat.le_refl _⟩ d_Mo_refusal_162) ?_
    refine lv_if_eq (tgt := 200) hx hb d_Mo_refusal_165 (by decide) (fun hc => ?_) (fun hc => ?_)
    · have hf := mift hf hc
      exact w_Mo_refusal_200 X G I hf (lv_sub hl [0] rfl)
    · have hf := miff hf hc
      refine r_aload_n X d_Mo_refusal_168 rfl (lv_at hl 0 rfl) ?_
      refine lv_iload_n hx hb d_Mo_refusal_169 rfl (lv_at hl 2 rfl) ?_
      refine lv_iconst (v := 0) hx hb d_Mo_refusal_170 (by decide) ?_
      obtain ⟨q15, hv, hf⟩ := mbind hf
      obtain ⟨a, ha, hv⟩ := mbind hv
      obtain ⟨ha, fs, hm⟩ := mrc_e ha
      refine m_caR (m_runV (As := [.int x2, .int (0 : Int32)]) (r := some h0) (rest := []) X G I h_Mo_white k_1052 (c_Mo_white hv) mPr_blind (m_pre G I) hm rfl ha rfl rfl hl.1 (Nat.le_of_ble_eq_true rfl) rfl rfl ⟨Nat.le_of_ble_eq_true rfl, Nat.le_of_ble_eq_true rfl⟩ ⟨Nat.le_refl _, Nat.le_refl _⟩ d_Mo_refusal_171) ?_
      refine lv_if_eq (tgt := 195) hx hb d_Mo_refusal_174 (by decide) (fun hc => ?_) (fun hc => ?_)
      · have hf := mift hf hc
        exact w_Mo_refusal_195 X G I hf (lv_sub hl [0] rfl)
      · have hf := miff hf hc
        refine r_aload_n X d_Mo_refusal_177 rfl (lv_at hl 0 rfl) ?_
        refine lv_iload_n hx hb d_Mo_refusal_178 rfl (lv_at hl 2 rfl) ?_
        refine lv_iconst (v := 1) hx hb d_Mo_refusal_179 (by decide) ?_
        obtain ⟨q16, hv, hf⟩ := mbind hf
        obtain ⟨a, ha, hv⟩ := mbind hv
        obtain ⟨ha, fs, hm⟩ := mrc_e ha
        refine m_caR (m_runV (As := [.int x2, .int (1 : Int32)]) (r := some h0) (rest := []) X G I h_Mo_white k_1052 (c_Mo_white hv) mPr_blind (m_pre G I) hm rfl ha rfl rfl hl.1 (Nat.le_of_ble_eq_true rfl) rfl rfl ⟨Nat.le_of_ble_eq_true rfl, Nat.le_of_ble_eq_true rfl⟩ ⟨Nat.le_refl _, Nat.le_refl _⟩ d_Mo_refusal_180) ?_
        refine lv_if_eq (tgt := 195) hx hb d_Mo_refusal_183 (by decide) (fun hc => ?_) (fun hc => ?_)
        · have hf := mift hf hc
          exact w_Mo_refusal_195 X G I hf (lv_sub hl [0] rfl)
        · have hf := miff hf hc
          refine r_aload_n X d_Mo_refusal_186 rfl (lv_at hl 0 rfl) ?_
          refine lv_iload_n hx hb d_Mo_refusal_187 rfl (lv_at hl 2 rfl) ?_
          refine lv_iconst (v := 2) hx hb d_Mo_refusal_188 (by decide) ?_
          obtain ⟨q17, hv, hf⟩ := mbind hf
          obtain ⟨a, ha, hv⟩ := mbind hv
          obtain ⟨ha, fs, hm⟩ := mrc_e ha
          refine m_caR (m_runV (As := [.int x2, .int (2 : Int32)]) (r := some h0) (rest := []) X G I h_Mo_white k_1052 (c_Mo_white hv) mPr_blind (m_pre G I) hm rfl ha rfl rfl hl.1 (Nat.le_of_ble_eq_true rfl) rfl rfl ⟨Nat.le_of_ble_eq_true rfl, Nat.le_of_ble_eq_true rfl⟩ ⟨Nat.le_refl _, Nat.le_refl _⟩ d_Mo_refusal_189) ?_
          refine lv_if_ne (tgt := 200) hx hb d_Mo_refusal_192 (by decide) (fun hc => ?_) (fun hc => ?_)
          · have hf := miff hf hc
            exact w_Mo_refusal_200 X G I hf (lv_sub hl [0] rfl)
          · have hf := mift hf hc
            exact w_Mo_refusal_195 X G I hf (lv_sub hl [0] rfl)

set_option maxHeartbeats 4000000 in
set_option maxRecDepth 100000 in
theorem w_Mo_refusal_134 {h0 : Nat} {r : Int32 × mM} (X : mX p m meth c s args b_Mo_refusal 10 (some .int) "ColourLinkerModel") (G : mG D cA dA z0 s) {H : Heap} {locs : List Loc} {μ : mM} {ls : Array Slot} {x1 : Int32} {x2 : Int32} {x3 : Int32} {x4 : Int32} (I : mI D cA z0 s μ H locs s.heap.size) (hf : f_Mo_refusal_134 h0 μ x1 x2 x3 x4 = some r) (hl : lv_has ls 10 [(0, va_rf (some h0)), (1, .int x1), (2, .int x2), (3, .int x3), (4, .int x4)]) : W p l e rm_Mo_refusal s m args below meth c H locs 0 0 (MQ below (mQW D cA z0 (some (.int r.1)) r.2) args s 0 0 (mA z0)) (F0 m 134 ls []) := by
  have hx := X.ex
  have hb := X.by_
  unfold f_Mo_refusal_134 at hf
  refine r_aload_n X d_Mo_refusal_134 rfl (lv_at hl 0 rfl) ?_
  refine lv_iload_n hx hb d_Mo_refusal_135 rfl (lv_at hl 2 rfl) ?_
  obtain ⟨q10, hv, hf⟩ := mbind hf
  obtain ⟨a, ha, hv⟩ := mbind hv
  obtain ⟨ha, fs, hm⟩ := mrc_e ha
  refine m_caR (m_runV (As := [.int x2]) (r := some h0) (rest := []) X G I h_Mo_single k_1021 (c_Mo_single hv) mPr_blind (m_pre G I) hm rfl ha rfl rfl hl.1 (Nat.le_of_ble_eq_true rfl) rfl rfl ⟨Nat.le_of_ble_eq_true rfl, Nat.le_of_ble_eq_true rfl⟩ ⟨Nat.le_refl _, Nat.le_refl _⟩ d_Mo_refusal_136) ?_
  refine lv_if_eq (tgt := 154) hx hb d_Mo_refusal_139 (by decide) (fun hc => ?_) (fun hc => ?_)
  · have hf := mift hf hc
    exact w_Mo_refusal_154 X G I hf hl
  · have hf := miff hf hc
    refine r_aload_n X d_Mo_refusal_142 rfl (lv_at hl 0 rfl) ?_
    refine lv_iload_n hx hb d_Mo_refusal_143 rfl (lv_at hl 2 rfl) ?_
    refine lv_iconst (v := 1) hx hb d_Mo_refusal_144 (by decide) ?_
    obtain ⟨q11, hv, hf⟩ := mbind hf
    obtain ⟨a, ha, hv⟩ := mbind hv
    obtain ⟨ha, fs, hm⟩ := mrc_e ha
    refine m_caR (m_runV (As := [.int x2, .int (1 : Int32)]) (r := some h0) (rest := []) X G I h_Mo_rising k_980 (c_Mo_rising hv) mPr_blind (m_pre G I) hm rfl ha rfl rfl hl.1 (Nat.le_of_ble_eq_true rfl) rfl rfl ⟨Nat.le_of_ble_eq_true rfl, Nat.le_of_ble_eq_true rfl⟩ ⟨Nat.le_refl _, Nat.le_refl _⟩ d_Mo_refusal_145) ?_
    refine lv_if_ne (tgt := 154) hx hb d_Mo_refusal_148 (by decide) (fun hc => ?_) (fun hc => ?_)
    · have hf := miff hf hc
      exact w_Mo_refusal_154 X G I hf hl
    · have hf := mift hf hc
      refine lv_bipush (v := -6) hx hb d_Mo_refusal_151 (by decide) ?_
      obtain rfl := Option.some.inj hf
      exact r_iretW X I d_Mo_refusal_153

set_option maxHeartbeats 4000000 in
set_option maxRecDepth 100000 in
theorem w_Mo_refusal_131 {h0 : Nat} {r : Int32 × mM} (X : mX p m meth c s args b_Mo_refusal 10 (some .int) "ColourLinkerModel") (G : mG D cA dA z0 s) {H : Heap} {locs : List Loc} {μ : mM} {ls : Array Slot}  (I : mI D cA z0 s μ H locs s.heap.size) (hf : f_Mo_refusal_131 h0 μ = some r) (hl : lv_has ls 10 [(0, va_rf (some h0))]) : W p l e rm_Mo_refusal s m args below meth c H locs 0 0 (MQ below (mQW D cA z0 (some (.int r.1)) r.2) args s 0 0 (mA z0)) (F0 m 131 ls []) := by
  have hx := X.ex
  have hb := X.by_
  unfold f_Mo_refusal_131 at hf
  refine lv_bipush (v := -6) hx hb d_Mo_refusal_131 (by decide) ?_
  obtain rfl := Option.some.inj hf
  exact r_iretW X I d_Mo_refusal_133

set_option maxHeartbeats 4000000 in
set_option maxRecDepth 100000 in
theorem w_Mo_refusal_104 {h0 : Nat} {r : Int32 × mM} (X : mX p m meth c s args b_Mo_refusal 10 (some .int) "ColourLinkerModel") (G : mG D cA dA z0 s) {H : Heap} {locs : List Loc} {μ : mM} {ls : Array Slot} {x1 : Int32} {x2 : Int32} {x3 : Int32} {x4 : Int32} (I : mI D cA z0 s μ H locs s.heap.size) (hf : f_Mo_refusal_104 h0 μ x1 x2 x3 x4 = some r) (hl : lv_has ls 10 [(0, va_rf (some h0)), (1, .int x1), (2, .int x2), (3, .int x3), (4, .int x4)]) : W p l e rm_Mo_refusal s m args below meth c H locs 0 0 (MQ below (mQW D cA z0 (some (.int r.1)) r.2) args s 0 0 (mA z0)) (F0 m 104 ls []) := by
  have hx := X.ex
  have hb := X.by_
  unfold f_Mo_refusal_104 at hf
  refine r_aload_n X d_Mo_refusal_104 rfl (lv_at hl 0 rfl) ?_
  refine lv_iload_n hx hb d_Mo_refusal_105 rfl (lv_at hl 2 rfl) ?_
  refine lv_iconst (v := 2) hx hb d_Mo_refusal_106 (by decide) ?_
  obtain ⟨q7, hv, hf⟩ := mbind hf
  obtain ⟨a, ha, hv⟩ := mbind hv
  obtain ⟨ha, fs, hm⟩ := mrc_e ha
  refine m_caR (m_runV (As := [.int x2, .int (2 : Int32)]) (r := some h0) (rest := []) X G I h_Mo_rising k_980 (c_Mo_rising hv) mPr_blind (m_pre G I) hm rfl ha rfl rfl hl.1 (Nat.le_of_ble_eq_true rfl) rfl rfl ⟨Nat.le_of_ble_eq_true rfl, Nat.le_of_ble_eq_true rfl⟩ ⟨Nat.le_refl _, Nat.le_refl _⟩ d_Mo_refusal_107) ?_
  refine lv_if_eq (tgt := 131) hx hb d_Mo_refusal_110 (by decide) (fun hc => ?_) (fun hc => ?_)
  · have hf := mift hf hc
    exact w_Mo_refusal_131 X G I hf (lv_sub hl [0] rfl)
  · have hf := miff hf hc
    refine r_aload_n X d_Mo_refusal_113 rfl (lv_at hl 0 rfl) ?_
    refine lv_iload_n hx hb d_Mo_refusal_114 rfl (lv_at hl 2 rfl) ?_
    refine lv_iconst (v := 3) hx hb d_Mo_refusal_115 (by decide) ?_
    obtain ⟨q8, hv, hf⟩ := mbind hf
    obtain ⟨a, ha, hv⟩ := mbind hv
    obtain ⟨ha, fs, hm⟩ := mrc_e ha
    refine m_caR (m_runV (As := [.int x2, .int (3 : Int32)]) (r := some h0) (rest := []) X G I h_Mo_rising k_980 (c_Mo_rising hv) mPr_blind (m_pre G I) hm rfl ha rfl rfl hl.1 (Nat.le_of_ble_eq_true rfl) rfl rfl ⟨Nat.le_of_ble_eq_true rfl, Nat.le_of_ble_eq_true rfl⟩ ⟨Nat.le_refl _, Nat.le_refl _⟩ d_Mo_refusal_116) ?_
    refine lv_if_eq (tgt := 131) hx hb d_Mo_refusal_119 (by decide) (fun hc => ?_) (fun hc => ?_)
    · have hf := mift hf hc
      exact w_Mo_refusal_131 X G I hf (lv_sub hl [0] rfl)
    · have hf := miff hf hc
      refine r_aload_n X d_Mo_refusal_122 rfl (lv_at hl 0 rfl) ?_
      refine lv_iload_n hx hb d_Mo_refusal_123 rfl (lv_at hl 2 rfl) ?_
      refine lv_iconst (v := 4) hx hb d_Mo_refusal_124 (by decide) ?_
      obtain ⟨q9, hv, hf⟩ := mbind hf
      obtain ⟨a, ha, hv⟩ := mbind hv
      obtain ⟨ha, fs, hm⟩ := mrc_e ha
      refine m_caR (m_runV (As := [.int x2, .int (4 : Int32)]) (r := some h0) (rest := []) X G I h_Mo_rising k_980 (c_Mo_rising hv) mPr_blind (m_pre G I) hm rfl ha rfl rfl hl.1 (Nat.le_of_ble_eq_true rfl) rfl rfl ⟨Nat.le_of_ble_eq_true rfl, Nat.le_of_ble_eq_true rfl⟩ ⟨Nat.le_refl _, Nat.le_refl _⟩ d_Mo_refusal_125) ?_
      refine lv_if_ne (tgt := 134) hx hb d_Mo_refusal_128 (by decide) (fun hc => ?_) (fun hc => ?_)
      · have hf := miff hf hc
        exact w_Mo_refusal_134 X G I hf hl
      · have hf := mift hf hc
        exact w_Mo_refusal_131 X G I hf (lv_sub hl [0] rfl)

set_option maxHeartbeats 4000000 in
set_option maxRecDepth 100000 in
theorem w_Mo_refusal_67 {h0 : Nat} {r : Int32 × mM} (X : mX p m meth c s args b_Mo_refusal 10 (some .int) "ColourLinkerModel") (G : mG D cA dA z0 s) {H : Heap} {locs : List Loc} {μ : mM} {ls : Array Slot} {x1 : Int32} {x2 : Int32} {x3 : Int32} {x4 : Int32} {x5 : Int32} (I : mI D cA z0 s μ H locs s.heap.size) (hf : f_Mo_refusal_67 h0 μ x1 x2 x3 x4 x5 = some r) (hl : lv_has ls 10 [(0, va_rf (some h0)), (1, .int x1), (2, .int x2), (3, .int x3), (4, .int x4), (5, .int x5)]) : W p l e rm_Mo_refusal s m args below meth c H locs 0 0 (MQ below (mQW D cA z0 (some (.int r.1)) r.2) args s 0 0 (mA z0)) (F0 m 67 ls []) := by
  have hx := X.ex
  have hb := X.by_
  unfold f_Mo_refusal_67 at hf
  refine lv_iload hx hb d_Mo_refusal_67 (lv_at hl 5 rfl) ?_
  refine lv_if_eq (tgt := 134) hx hb d_Mo_refusal_69 (by decide) (fun hc => ?_) (fun hc => ?_)
  · have hf := mift hf hc
    exact w_Mo_refusal_134 X G I hf (lv_sub hl [0, 1, 2, 3, 4] rfl)
  · have hf := miff hf hc
    refine r_aload_n X d_Mo_refusal_72 rfl (lv_at hl 0 rfl) ?_
    refine lv_iload_n hx hb d_Mo_refusal_73 rfl (lv_at hl 2 rfl) ?_
    obtain ⟨q5, hv, hf⟩ := mbind hf
    obtain ⟨a, ha, hv⟩ := mbind hv
    obtain ⟨ha, fs, hm⟩ := mrc_e ha
    refine m_caWv (m_runV (As := [.int x2]) (r := some h0) (rest := []) X G I h_Mo_takeMatrix k_1037 (c_Mo_takeMatrix hv) mPr_blind (m_pre G I) hm rfl ha rfl rfl hl.1 (Nat.le_of_ble_eq_true rfl) rfl rfl ⟨Nat.le_of_ble_eq_true rfl, Nat.le_of_ble_eq_true rfl⟩ ⟨Nat.le_refl _, Nat.le_refl _⟩ d_Mo_refusal_74) I (fun H locs I => ?_)
    refine r_aload_n X d_Mo_refusal_77 rfl (lv_at hl 0 rfl) ?_
    obtain ⟨q6, hv, hf⟩ := mbind hf
    obtain ⟨a, ha, hv⟩ := mbind hv
    obtain ⟨ha, fs, hm⟩ := mrc_e ha
    refine m_caR (m_runV (As := []) (r := some h0) (rest := []) X G I h_Mo_determinant k_1042 (c_Mo_determinant hv) mPr_blind (m_pre G I) hm rfl ha rfl rfl hl.1 (Nat.le_of_ble_eq_true rfl) rfl rfl ⟨Nat.le_of_ble_eq_true rfl, Nat.le_of_ble_eq_true rfl⟩ ⟨Nat.le_refl _, Nat.le_refl _⟩ d_Mo_refusal_78) ?_
    refine lv_lstore (i := 6) (lv' := [(6, .long q6), (0, va_rf (some h0)), (1, .int x1), (2, .int x2), (3, .int x3), (4, .int x4), (5, .int x5)]) hx hb d_Mo_refusal_81 hl (by decide) rfl (fun ls hl => ?_)
    refine lv_lload hx hb d_Mo_refusal_83 (lv_at hl 0 rfl) ?_
    refine lv_ldc2 (v := -16777216) hx hb X.ow (X.w k_1046) d_Mo_refusal_85 ?_
    refine r_lcle (tgt := 104) X d_Mo_refusal_88 d_Mo_refusal_89 (by decide) (fun hc => ?_) (fun hc => ?_)
    · have hf := mift hf hc
      exact w_Mo_refusal_104 X G I hf (lv_sub hl [1, 2, 3, 4, 5] rfl)
    · have hf := miff hf hc
      refine lv_lload hx hb d_Mo_refusal_92 (lv_at hl 0 rfl) ?_
      refine lv_ldc2 (v := 16777216) hx hb X.ow (X.w k_1047) d_Mo_refusal_94 ?_
      refine r_lcge (tgt := 104) X d_Mo_refusal_97 d_Mo_refusal_98 (by decide) (fun hc => ?_) (fun hc => ?_)
      · have hf := mift hf hc
        exact w_Mo_refusal_104 X G I hf (lv_sub hl [1, 2, 3, 4, 5] rfl)
      · have hf := miff hf hc
        refine lv_bipush (v := -5) hx hb d_Mo_refusal_101 (by decide) ?_
        obtain rfl := Option.some.inj hf
        exact r_iretW X I d_Mo_refusal_103

set_option maxHeartbeats 4000000 in
set_option maxRecDepth 100000 in
theorem w_Mo_refusal_49 {h0 : Nat} {r : Int32 × mM} (X : mX p m meth c s args b_Mo_refusal 10 (some .int) "ColourLinkerModel") (G : mG D cA dA z0 s) {H : Heap} {locs : List Loc} {μ : mM} {ls : Array Slot} {x1 : Int32} {x2 : Int32} {x3 : Int32} {x4 : Int32} {s0 : Int32} (I : mI D cA z0 s μ H locs s.heap.size) (hf : f_Mo_refusal_49 h0 μ x1 x2 x3 x4 s0 = some r) (hl : lv_has ls 10 [(0, va_rf (some h0)), (1, .int x1), (2, .int x2), (3, .int x3), (4, .int x4)]) : W p l e rm_Mo_refusal s m args below meth c H locs 0 0 (MQ below (mQW D cA z0 (some (.int r.1)) r.2) args s 0 0 (mA z0)) (F0 m 49 ls [.int s0]) := by
  have hx := X.ex
  have hb := X.by_
  unfold f_Mo_refusal_49 at hf
  refine lv_istore (i := 5) (lv' := [(5, .int s0), (0, va_rf (some h0)), (1, .int x1), (2, .int x2), (3, .int x3), (4, .int x4)]) hx hb d_Mo_refusal_49 hl (by decide) rfl (fun ls hl => ?_)
  refine lv_iload hx hb d_Mo_refusal_51 (lv_at hl 0 rfl) ?_
  refine lv_if_eq (tgt := 67) hx hb d_Mo_refusal_53 (by decide) (fun hc => ?_) (fun hc => ?_)
  · have hf := mift hf hc
    exact w_Mo_refusal_67 X G I hf (lv_sub hl [1, 2, 3, 4, 5, 0] rfl)
  · have hf := miff hf hc
    refine r_aload_n X d_Mo_refusal_56 rfl (lv_at hl 1 rfl) ?_
    refine lv_iload_n hx hb d_Mo_refusal_57 rfl (lv_at hl 3 rfl) ?_
    obtain ⟨q4, hv, hf⟩ := mbind hf
    obtain ⟨a, ha, hv⟩ := mbind hv
    obtain ⟨ha, fs, hm⟩ := mrc_e ha
    refine m_caR (m_runV (As := [.int x2]) (r := some h0) (rest := []) X G I h_Mo_shaped k_1029 (c_Mo_shaped hv) mPr_blind (m_pre G I) hm rfl ha rfl rfl hl.1 (Nat.le_of_ble_eq_true rfl) rfl rfl ⟨Nat.le_of_ble_eq_true rfl, Nat.le_of_ble_eq_true rfl⟩ ⟨Nat.le_refl _, Nat.le_refl _⟩ d_Mo_refusal_58) ?_
    refine lv_if_ne (tgt := 67) hx hb d_Mo_refusal_61 (by decide) (fun hc => ?_) (fun hc => ?_)
    · have hf := miff hf hc
      exact w_Mo_refusal_67 X G I hf (lv_sub hl [1, 2, 3, 4, 5, 0] rfl)
    · have hf := mift hf hc
      refine lv_bipush (v := -4) hx hb d_Mo_refusal_64 (by decide) ?_
      obtain rfl := Option.some.inj hf
      exact r_iretW X I d_Mo_refusal_66

set_option maxHeartbeats 4000000 in
set_option maxRecDepth 100000 in
theorem w_Mo_refusal_48 {h0 : Nat} {r : Int32 × mM} (X : mX p m meth c s args b_Mo_refusal 10 (some .int) "ColourLinkerModel") (G : mG D cA dA z0 s) {H : Heap} {locs : List Loc} {μ : mM} {ls : Array Slot} {x1 : Int32} {x2 : Int32} {x3 : Int32} {x4 : Int32} (I : mI D cA z0 s μ H locs s.heap.size) (hf : f_Mo_refusal_48 h0 μ x1 x2 x3 x4 = some r) (hl : lv_has ls 10 [(0, va_rf (some h0)), (1, .int x1), (2, .int x2), (3, .int x3), (4, .int x4)]) : W p l e rm_Mo_refusal s m args below meth c H locs 0 0 (MQ below (mQW D cA z0 (some (.int r.1)) r.2) args s 0 0 (mA z0)) (F0 m 48 ls []) := by
  have hx := X.ex
  have hb := X.by_
  unfold f_Mo_refusal_48 at hf
  refine lv_iconst (v := 0) hx hb d_Mo_refusal_48 (by decide) ?_
  exact w_Mo_refusal_49 X G I hf hl

set_option maxHeartbeats 4000000 in
set_option maxRecDepth 100000 in
theorem w_Mo_refusal_9 {h0 : Nat} {r : Int32 × mM} (X : mX p m meth c s args b_Mo_refusal 10 (some .int) "ColourLinkerModel") (G : mG D cA dA z0 s) {H : Heap} {locs : List Loc} {μ : mM} {ls : Array Slot}  (I : mI D cA z0 s μ H locs s.heap.size) (hf : f_Mo_refusal_9 h0 μ = some r) (hl : lv_has ls 10 [(0, va_rf (some h0))]) : W p l e rm_Mo_refusal s m args below meth c H locs 0 0 (MQ below (mQW D cA z0 (some (.int r.1)) r.2) args s 0 0 (mA z0)) (F0 m 9 ls []) := by
  have hx := X.ex
  have hb := X.by_
  unfold f_Mo_refusal_9 at hf
  refine lv_bipush (v := -2) hx hb d_Mo_refusal_9 (by decide) ?_
  obtain rfl := Option.some.inj hf
  exact r_iretW X I d_Mo_refusal_11

set_option maxHeartbeats 4000000 in
set_option maxRecDepth 100000 in
theorem w_Mo_refusal {h0 : Nat} {r : Int32 × mM} (X : mX p m meth c s args b_Mo_refusal 10 (some .int) "ColourLinkerModel") (G : mG D cA dA z0 s) {H : Heap} {locs : List Loc} {μ : mM} {ls : Array Slot} {x1 : Int32} {x2 : Int32} {x3 : Int32} {x4 : Int32} (I : mI D cA z0 s μ H locs s.heap.size) (hf : f_Mo_refusal h0 μ x1 x2 x3 x4 = some r) (hl : lv_has ls 10 [(0, va_rf (some h0)), (1, .int x1), (2, .int x2), (3, .int x3), (4, .int x4)]) : W p l e rm_Mo_refusal s m args below meth c H locs 0 0 (MQ below (mQW D cA z0 (some (.int r.1)) r.2) args s 0 0 (mA z0)) (F0 m 0 ls []) := by
  have hx := X.ex
  have hb := X.by_
  unfold f_Mo_refusal at hf
  refine lv_iload_n hx hb d_Mo_refusal_0 rfl (lv_at hl 3 rfl) ?_
  refine lv_if_lt (tgt := 9) hx hb d_Mo_refusal_1 (by decide) (fun hc => ?_) (fun hc => ?_)
  · have hf := mift hf hc
    exact w_Mo_refusal_9 X G I hf (lv_sub hl [0] rfl)
  · have hf := miff hf hc
    refine lv_iload_n hx hb d_Mo_refusal_4 rfl (lv_at hl 3 rfl) ?_
    refine lv_iconst (v := 3) hx hb d_Mo_refusal_5 (by decide) ?_
    refine lv_icmp_le (tgt := 12) hx hb d_Mo_refusal_6 (by decide) (fun hc => ?_) (fun hc => ?_)
    · have hf := mift hf hc
      refine r_aload_n X d_Mo_refusal_12 rfl (lv_at hl 0 rfl) ?_
      refine lv_iload_n hx hb d_Mo_refusal_13 rfl (lv_at hl 2 rfl) ?_
      refine lv_iconst (v := 2) hx hb d_Mo_refusal_14 (by decide) ?_
      obtain ⟨q1, hv, hf⟩ := mbind hf
      obtain ⟨a, ha, hv⟩ := mbind hv
      obtain ⟨ha, fs, hm⟩ := mrc_e ha
      refine m_caR (m_runV (As := [.int x2, .int (2 : Int32)]) (r := some h0) (rest := []) X G I h_Mo_part k_955 (c_Mo_part hv) mPr_blind (m_pre G I) hm rfl ha rfl rfl hl.1 (Nat.le_of_ble_eq_true rfl) rfl rfl ⟨Nat.le_of_ble_eq_true rfl, Nat.le_of_ble_eq_true rfl⟩ ⟨Nat.le_refl _, Nat.le_refl _⟩ d_Mo_refusal_15) ?_
      refine lv_iconst (v := 1) hx hb d_Mo_refusal_18 (by decide) ?_
      refine lv_icmp_ne (tgt := 25) hx hb d_Mo_refusal_19 (by decide) (fun hc => ?_) (fun hc => ?_)
      · have hf := miff hf hc
        refine r_aload_n X d_Mo_refusal_25 rfl (lv_at hl 0 rfl) ?_
        refine lv_iload_n hx hb d_Mo_refusal_26 rfl (lv_at hl 2 rfl) ?_
        obtain ⟨q2, hv, hf⟩ := mbind hf
        obtain ⟨a, ha, hv⟩ := mbind hv
        obtain ⟨ha, fs, hm⟩ := mrc_e ha
        refine m_caR (m_runV (As := [.int x2]) (r := some h0) (rest := []) X G I h_Mo_single k_1021 (c_Mo_single hv) mPr_blind (m_pre G I) hm rfl ha rfl rfl hl.1 (Nat.le_of_ble_eq_true rfl) rfl rfl ⟨Nat.le_of_ble_eq_true rfl, Nat.le_of_ble_eq_true rfl⟩ ⟨Nat.le_refl _, Nat.le_refl _⟩ d_Mo_refusal_27) ?_
        refine lv_if_ne (tgt := 48) hx hb d_Mo_refusal_30 (by decide) (fun hc => ?_) (fun hc => ?_)
        · have hf := miff hf hc
          exact w_Mo_refusal_48 X G I hf hl
        · have hf := mift hf hc
          refine r_aload_n X d_Mo_refusal_33 rfl (lv_at hl 0 rfl) ?_
          refine lv_iload_n hx hb d_Mo_refusal_34 rfl (lv_at hl 2 rfl) ?_
          refine lv_bipush (v := 9) hx hb d_Mo_refusal_35 (by decide) ?_
          refine lv_iload_n hx hb d_Mo_refusal_37 rfl (lv_at hl 3 rfl) ?_
          obtain ⟨q3, hv, hf⟩ := mbind hf
          obtain ⟨a, ha, hv⟩ := mbind hv
          obtain ⟨ha, fs, hm⟩ := mrc_e ha
          refine m_caR (m_runV (As := [.int x2, .int (9 : Int32), .int x3]) (r := some h0) (rest := []) X G I h_Mo_grid k_1025 (c_Mo_grid hv) mPr_blind (m_pre G I) hm rfl ha rfl rfl hl.1 (Nat.le_of_ble_eq_true rfl) rfl rfl ⟨Nat.le_of_ble_eq_true rfl, Nat.le_of_ble_eq_true rfl⟩ ⟨Nat.le_refl _, Nat.le_refl _⟩ d_Mo_refusal_38) ?_
          refine lv_if_ne (tgt := 48) hx hb d_Mo_refusal_41 (by decide) (fun hc => ?_) (fun hc => ?_)
          · have hf := miff hf hc
            exact w_Mo_refusal_48 X G I hf hl
          · have hf := mift hf hc
            refine lv_iconst (v := 1) hx hb d_Mo_refusal_44 (by decide) ?_
            refine lv_goto (tgt := 49) hx hb d_Mo_refusal_45 (by decide) ?_
            exact w_Mo_refusal_49 X G I hf hl
      · have hf := mift hf hc
        refine lv_bipush (v := -3) hx hb d_Mo_refusal_22 (by decide) ?_
        obtain rfl := Option.some.inj hf
        exact r_iretW X I d_Mo_refusal_24
    · have hf := miff hf hc
      exact w_Mo_refusal_9 X G I hf (lv_sub hl [0] rfl)

set_option maxHeartbeats 4000000 in
set_option maxRecDepth 100000 in
theorem c_Mo_refusal {l : Launch} {D : va_G} {cA : Nat → ClassId} {dA z0 : Nat} {μ : mM} {h0 : Nat} {x1 : Int32} {x2 : Int32} {x3 : Int32} {x4 : Int32} {r : Int32 × mM} (hf : f_Mo_refusal h0 μ x1 x2 x3 x4 = some r) : Met l y_Mo_refusal (mW y_Mo_refusal b_Mo_refusal 10 (some .int)) rm_Mo_refusal (va_Pc [.ref h0, .int x1, .int x2, .int x3, .int x4] (mPr D cA dA z0 μ)) (mQW D cA z0 (some (.int r.1)) r.2) 0 0 (mA z0) := by
  refine Met.ofW (cc := b_Mo_refusal) (maxL := 10) (ret := (some .int)) (by decide) rfl ?_
  intro p e s m args below meth c s₁ B hml hv
  obtain ⟨rfl, G, hP⟩ := hv
  have X := mX.of B hml
  exact m_entry (lv := [(0, va_rf (some h0)), (1, .int x1), (2, .int x2), (3, .int x3), (4, .int x4)]) (Nat.le_of_ble_eq_true rfl) rfl (fun ls hl => w_Mo_refusal X G (mI.start hP) hf hl)

end WK
