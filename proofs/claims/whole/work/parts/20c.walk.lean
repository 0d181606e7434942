section WK
variable {p : Program} {l : Launch} {e : Env} {s : State} {m : MethodId} {args : Array Value} {below : List Frame} {meth : Method} {c : Code} {D : va_G} {cA : Nat → ClassId} {dA z0 : Nat}
abbrev rm_Mo_fault : Room := { frames := 1, cells := 0, slots := 0, locals := 33 }
theorem h_Mo_fault : mCV y_Mo_fault b_Mo_fault 4 (some .int) 0 := ⟨k_926, k_79, ⟨by decide, by decide, by decide +kernel⟩, k_925, k_27⟩
set_option maxHeartbeats 4000000 in
set_option maxRecDepth 100000 in
theorem w_Mo_fault_297 {μ : mM} {h0 : Nat} {r : Int32} (X : mX p m meth c s args b_Mo_fault 4 (some .int) "ColourLinkerModel") (G : mG D cA dA z0 s) (I : mI D cA z0 s μ s.heap [] s.heap.size) {ls : Array Slot} {s0 : Int32} (hf : f_Mo_fault_297 μ h0 s0 = some r) (hl : lv_has ls 4 [(0, va_rf (some h0))]) : W p l e rm_Mo_fault s m args below meth c s.heap [] 0 0 (MQ below (mQR (some (.int r))) args s 0 0 (fun _ => False)) (F0 m 297 ls [.int s0]) := by
  have hx := X.ex
  have hb := X.by_
  unfold f_Mo_fault_297 at hf
  obtain rfl := Option.some.inj hf
  exact r_iretR X d_Mo_fault_297

set_option maxHeartbeats 4000000 in
set_option maxRecDepth 100000 in
theorem w_Mo_fault_285 {μ : mM} {h0 : Nat} {r : Int32} (X : mX p m meth c s args b_Mo_fault 4 (some .int) "ColourLinkerModel") (G : mG D cA dA z0 s) (I : mI D cA z0 s μ s.heap [] s.heap.size) {ls : Array Slot} {s0 : Int32} (hf : f_Mo_fault_285 μ h0 s0 = some r) (hl : lv_has ls 4 [(0, va_rf (some h0))]) : W p l e rm_Mo_fault s m args below meth c s.heap [] 0 0 (MQ below (mQR (some (.int r))) args s 0 0 (fun _ => False)) (F0 m 285 ls [.int s0]) := by
  have hx := X.ex
  have hb := X.by_
  unfold f_Mo_fault_285 at hf
  refine lv_istore_n (i := 3) (lv' := [(3, .int s0), (0, va_rf (some h0))]) hx hb d_Mo_fault_285 rfl hl (by decide) rfl (fun ls hl => ?_)
  refine lv_iload_n hx hb d_Mo_fault_286 rfl (lv_at hl 0 rfl) ?_
  refine lv_if_eq (tgt := 294) hx hb d_Mo_fault_287 (by decide) (fun hc => ?_) (fun hc => ?_)
  · have hf := mift hf hc
    refine lv_sipush (v := 9003) hx hb d_Mo_fault_294 (by decide) ?_
    exact w_Mo_fault_297 X G I hf (lv_sub hl [1] rfl)
  · have hf := miff hf hc
    refine lv_iconst (v := 0) hx hb d_Mo_fault_290 (by decide) ?_
    refine lv_goto (tgt := 297) hx hb d_Mo_fault_291 (by decide) ?_
    exact w_Mo_fault_297 X G I hf (lv_sub hl [1] rfl)

set_option maxHeartbeats 4000000 in
set_option maxRecDepth 100000 in
theorem w_Mo_fault_280 {μ : mM} {h0 : Nat} {r : Int32} (X : mX p m meth c s args b_Mo_fault 4 (some .int) "ColourLinkerModel") (G : mG D cA dA z0 s) (I : mI D cA z0 s μ s.heap [] s.heap.size) {ls : Array Slot}  (hf : f_Mo_fault_280 μ h0 = some r) (hl : lv_has ls 4 [(0, va_rf (some h0))]) : W p l e rm_Mo_fault s m args below meth c s.heap [] 0 0 (MQ below (mQR (some (.int r))) args s 0 0 (fun _ => False)) (F0 m 280 ls []) := by
  have hx := X.ex
  have hb := X.by_
  unfold f_Mo_fault_280 at hf
  refine lv_iconst (v := 1) hx hb d_Mo_fault_280 (by decide) ?_
  refine lv_goto (tgt := 285) hx hb d_Mo_fault_281 (by decide) ?_
  exact w_Mo_fault_285 X G I hf hl

set_option maxHeartbeats 4000000 in
set_option maxRecDepth 100000 in
theorem w_Mo_fault_248 {μ : mM} {h0 : Nat} {r : Int32} (X : mX p m meth c s args b_Mo_fault 4 (some .int) "ColourLinkerModel") (G : mG D cA dA z0 s) (I : mI D cA z0 s μ s.heap [] s.heap.size) {ls : Array Slot} {s0 : Int32} (hf : f_Mo_fault_248 μ h0 s0 = some r) (hl : lv_has ls 4 [(0, va_rf (some h0))]) : W p l e rm_Mo_fault s m args below meth c s.heap [] 0 0 (MQ below (mQR (some (.int r))) args s 0 0 (fun _ => False)) (F0 m 248 ls [.int s0]) := by
  have hx := X.ex
  have hb := X.by_
  unfold f_Mo_fault_248 at hf
  refine lv_istore_n (i := 2) (lv' := [(2, .int s0), (0, va_rf (some h0))]) hx hb d_Mo_fault_248 rfl hl (by decide) rfl (fun ls hl => ?_)
  refine r_aload_n X d_Mo_fault_249 rfl (lv_at hl 1 rfl) ?_
  obtain ⟨v32, hv, hf⟩ := mbind hf
  refine r_getf X G I (mfA_e hv) o_Mo_buffer k_834 (Or.inl rfl) d_Mo_fault_250 ?_
  refine lv_iconst (v := 3) hx hb d_Mo_fault_253 (by decide) ?_
  obtain ⟨v33, hv, hf⟩ := mbind hf
  refine r_iald X G I hv d_Mo_fault_254 ?_
  refine lv_iconst (v := 1) hx hb d_Mo_fault_255 (by decide) ?_
  refine lv_icmp_ne (tgt := 267) hx hb d_Mo_fault_256 (by decide) (fun hc => ?_) (fun hc => ?_)
  · have hf := miff hf hc
    refine r_aload_n X d_Mo_fault_267 rfl (lv_at hl 1 rfl) ?_
    refine lv_bipush (v := 6) hx hb d_Mo_fault_268 (by decide) ?_
    obtain ⟨q34, hv, hf⟩ := mbind hf
    obtain ⟨a, ha, hv⟩ := mbind hv
    obtain ⟨ha, fs, hm⟩ := mrc_e ha
    refine m_caR (m_runV (As := [.int (6 : Int32)]) (r := some h0) (rest := []) X G I h_Mo_has k_931 (c_Mo_has hv) mPr_blind (m_pre G I) hm rfl ha rfl rfl hl.1 (Nat.le_of_ble_eq_true rfl) rfl rfl ⟨Nat.le_of_ble_eq_true rfl, Nat.le_of_ble_eq_true rfl⟩ ⟨Nat.le_refl _, Nat.le_refl _⟩ d_Mo_fault_270) ?_
    refine lv_if_ne (tgt := 280) hx hb d_Mo_fault_273 (by decide) (fun hc => ?_) (fun hc => ?_)
    · have hf := miff hf hc
      exact w_Mo_fault_280 X G I hf (lv_sub hl [1] rfl)
    · have hf := mift hf hc
      refine lv_iload_n hx hb d_Mo_fault_276 rfl (lv_at hl 0 rfl) ?_
      refine lv_if_eq (tgt := 284) hx hb d_Mo_fault_277 (by decide) (fun hc => ?_) (fun hc => ?_)
      · have hf := mift hf hc
        refine lv_iconst (v := 0) hx hb d_Mo_fault_284 (by decide) ?_
        exact w_Mo_fault_285 X G I hf (lv_sub hl [1] rfl)
      · have hf := miff hf hc
        exact w_Mo_fault_280 X G I hf (lv_sub hl [1] rfl)
  · have hf := mift hf hc
    refine r_aload_n X d_Mo_fault_259 rfl (lv_at hl 1 rfl) ?_
    refine lv_iconst (v := 1) hx hb d_Mo_fault_260 (by decide) ?_
    obtain ⟨q35, hv, hf⟩ := mbind hf
    obtain ⟨a, ha, hv⟩ := mbind hv
    obtain ⟨ha, fs, hm⟩ := mrc_e ha
    refine m_caR (m_runV (As := [.int (1 : Int32)]) (r := some h0) (rest := []) X G I h_Mo_has k_931 (c_Mo_has hv) mPr_blind (m_pre G I) hm rfl ha rfl rfl hl.1 (Nat.le_of_ble_eq_true rfl) rfl rfl ⟨Nat.le_of_ble_eq_true rfl, Nat.le_of_ble_eq_true rfl⟩ ⟨Nat.le_refl _, Nat.le_refl _⟩ d_Mo_fault_261) ?_
    refine lv_goto (tgt := 285) hx hb d_Mo_fault_264 (by decide) ?_
    exact w_Mo_fault_285 X G I hf (lv_sub hl [1] rfl)

set_option maxHeartbeats 4000000 in
set_option maxRecDepth 100000 in
theorem w_Mo_fault_247 {μ : mM} {h0 : Nat} {r : Int32} (X : mX p m meth c s args b_Mo_fault 4 (some .int) "ColourLinkerModel") (G : mG D cA dA z0 s) (I : mI D cA z0 s μ s.heap [] s.heap.size) {ls : Array Slot}  (hf : f_Mo_fault_247 μ h0 = some r) (hl : lv_has ls 4 [(0, va_rf (some h0))]) : W p l e rm_Mo_fault s m args below meth c s.heap [] 0 0 (MQ below (mQR (some (.int r))) args s 0 0 (fun _ => False)) (F0 m 247 ls []) := by
  have hx := X.ex
  have hb := X.by_
  unfold f_Mo_fault_247 at hf
  refine lv_iconst (v := 0) hx hb d_Mo_fault_247 (by decide) ?_
  exact w_Mo_fault_248 X G I hf hl

set_option maxHeartbeats 4000000 in
set_option maxRecDepth 100000 in
theorem w_Mo_fault_202 {μ : mM} {h0 : Nat} {r : Int32} (X : mX p m meth c s args b_Mo_fault 4 (some .int) "ColourLinkerModel") (G : mG D cA dA z0 s) (I : mI D cA z0 s μ s.heap [] s.heap.size) {ls : Array Slot}  (hf : f_Mo_fault_202 μ h0 = some r) (hl : lv_has ls 4 [(0, va_rf (some h0))]) : W p l e rm_Mo_fault s m args below meth c s.heap [] 0 0 (MQ below (mQR (some (.int r))) args s 0 0 (fun _ => False)) (F0 m 202 ls []) := by
  have hx := X.ex
  have hb := X.by_
  unfold f_Mo_fault_202 at hf
  refine r_aload_n X d_Mo_fault_202 rfl (lv_at hl 0 rfl) ?_
  refine lv_iconst (v := 2) hx hb d_Mo_fault_203 (by decide) ?_
  obtain ⟨q26, hv, hf⟩ := mbind hf
  obtain ⟨a, ha, hv⟩ := mbind hv
  obtain ⟨ha, fs, hm⟩ := mrc_e ha
  refine m_caR (m_runV (As := [.int (2 : Int32)]) (r := some h0) (rest := []) X G I h_Mo_has k_931 (c_Mo_has hv) mPr_blind (m_pre G I) hm rfl ha rfl rfl hl.1 (Nat.le_of_ble_eq_true rfl) rfl rfl ⟨Nat.le_of_ble_eq_true rfl, Nat.le_of_ble_eq_true rfl⟩ ⟨Nat.le_refl _, Nat.le_refl _⟩ d_Mo_fault_204) ?_
  refine lv_if_eq (tgt := 247) hx hb d_Mo_fault_207 (by decide) (fun hc => ?_) (fun hc => ?_)
  · have hf := mift hf hc
    exact w_Mo_fault_247 X G I hf hl
  · have hf := miff hf hc
    refine r_aload_n X d_Mo_fault_210 rfl (lv_at hl 0 rfl) ?_
    refine lv_iconst (v := 3) hx hb d_Mo_fault_211 (by decide) ?_
    obtain ⟨q27, hv, hf⟩ := mbind hf
    obtain ⟨a, ha, hv⟩ := mbind hv
    obtain ⟨ha, fs, hm⟩ := mrc_e ha
    refine m_caR (m_runV (As := [.int (3 : Int32)]) (r := some h0) (rest := []) X G I h_Mo_has k_931 (c_Mo_has hv) mPr_blind (m_pre G I) hm rfl ha rfl rfl hl.1 (Nat.le_of_ble_eq_true rfl) rfl rfl ⟨Nat.le_of_ble_eq_true rfl, Nat.le_of_ble_eq_true rfl⟩ ⟨Nat.le_refl _, Nat.le_refl _⟩ d_Mo_fault_212) ?_
    refine lv_if_eq (tgt := 247) hx hb d_Mo_fault_215 (by decide) (fun hc => ?_) (fun hc => ?_)
    · have hf := mift hf hc
      exact w_Mo_fault_247 X G I hf hl
    · have hf := miff hf hc
      refine r_aload_n X d_Mo_fault_218 rfl (lv_at hl 0 rfl) ?_
      refine lv_iconst (v := 4) hx hb d_Mo_fault_219 (by decide) ?_
      obtain ⟨q28, hv, hf⟩ := mbind hf
      obtain ⟨a, ha, hv⟩ := mbind hv
      obtain ⟨ha, fs, hm⟩ := mrc_e ha
      refine m_caR (m_runV (As := [.int (4 : Int32)]) (r := some h0) (rest := []) X G I h_Mo_has k_931 (c_Mo_has hv) mPr_blind (m_pre G I) hm rfl ha rfl rfl hl.1 (Nat.le_of_ble_eq_true rfl) rfl rfl ⟨Nat.le_of_ble_eq_true rfl, Nat.le_of_ble_eq_true rfl⟩ ⟨Nat.le_refl _, Nat.le_refl _⟩ d_Mo_fault_220) ?_
      refine lv_if_eq (tgt := 247) hx hb d_Mo_fault_223 (by decide) (fun hc => ?_) (fun hc => ?_)
      · have hf := mift hf hc
        exact w_Mo_fault_247 X G I hf hl
      · have hf := miff hf hc
        refine r_aload_n X d_Mo_fault_226 rfl (lv_at hl 0 rfl) ?_
        refine lv_iconst (v := 5) hx hb d_Mo_fault_227 (by decide) ?_
        obtain ⟨q29, hv, hf⟩ := mbind hf
        obtain ⟨a, ha, hv⟩ := mbind hv
        obtain ⟨ha, fs, hm⟩ := mrc_e ha
        refine m_caR (m_runV (As := [.int (5 : Int32)]) (r := some h0) (rest := []) X G I h_Mo_has k_931 (c_Mo_has hv) mPr_blind (m_pre G I) hm rfl ha rfl rfl hl.1 (Nat.le_of_ble_eq_true rfl) rfl rfl ⟨Nat.le_of_ble_eq_true rfl, Nat.le_of_ble_eq_true rfl⟩ ⟨Nat.le_refl _, Nat.le_refl _⟩ d_Mo_fault_228) ?_
        refine lv_if_eq (tgt := 247) hx hb d_Mo_fault_231 (by decide) (fun hc => ?_) (fun hc => ?_)
        · have hf := mift hf hc
          exact w_Mo_fault_247 X G I hf hl
        · have hf := miff hf hc
          refine r_aload_n X d_Mo_fault_234 rfl (lv_at hl 0 rfl) ?_
          obtain ⟨v30, hv, hf⟩ := mbind hf
          refine r_getf X G I (mfA_e hv) o_Mo_buffer k_834 (Or.inl rfl) d_Mo_fault_235 ?_
          refine lv_iconst (v := 4) hx hb d_Mo_fault_238 (by decide) ?_
          obtain ⟨v31, hv, hf⟩ := mbind hf
          refine r_iald X G I hv d_Mo_fault_239 ?_
          refine lv_if_ne (tgt := 247) hx hb d_Mo_fault_240 (by decide) (fun hc => ?_) (fun hc => ?_)
          · have hf := miff hf hc
            exact w_Mo_fault_247 X G I hf hl
          · have hf := mift hf hc
            refine lv_iconst (v := 1) hx hb d_Mo_fault_243 (by decide) ?_
            refine lv_goto (tgt := 248) hx hb d_Mo_fault_244 (by decide) ?_
            exact w_Mo_fault_248 X G I hf hl

set_option maxHeartbeats 4000000 in
set_option maxRecDepth 100000 in
theorem w_Mo_fault_173 {μ : mM} {h0 : Nat} {r : Int32} (X : mX p m meth c s args b_Mo_fault 4 (some .int) "ColourLinkerModel") (G : mG D cA dA z0 s) (I : mI D cA z0 s μ s.heap [] s.heap.size) {kx202 : Unit → Option (Int32)} (hkx202 : ∀ (ls : Array Slot), kx202 () = some r → lv_has ls 4 [(0, va_rf (some h0))] → W p l e rm_Mo_fault s m args below meth c s.heap [] 0 0 (MQ below (mQR (some (.int r))) args s 0 0 (fun _ => False)) (F0 m 202 ls [])) : ∀ (n : Nat) (ls : Array Slot) (x1 : Int32) (x2 : Int32), f_Mo_fault_173 μ h0 kx202 n x1 x2 = some r → lv_has ls 4 [(0, va_rf (some h0)), (1, .int x1), (2, .int x2)] → W p l e rm_Mo_fault s m args below meth c s.heap [] 0 0 (MQ below (mQR (some (.int r))) args s 0 0 (fun _ => False)) (F0 m 173 ls []) := by
  have hx := X.ex
  have hb := X.by_
  intro n
  induction n with
  | zero => intro ls x1 x2 hf hl; rw [f_Mo_fault_173] at hf; cases hf
  | succ n ih =>
    intro ls x1 x2 hf hl
    rw [f_Mo_fault_173] at hf
    refine lv_iload_n hx hb d_Mo_fault_173 rfl (lv_at hl 2 rfl) ?_
    refine lv_iload_n hx hb d_Mo_fault_174 rfl (lv_at hl 1 rfl) ?_
    refine lv_icmp_ge (tgt := 202) hx hb d_Mo_fault_175 (by decide) (fun hc => ?_) (fun hc => ?_)
    · have hf := mift hf hc
      exact hkx202 _ hf (lv_sub hl [0] rfl)
    · have hf := miff hf hc
      refine r_aload_n X d_Mo_fault_178 rfl (lv_at hl 0 rfl) ?_
      refine lv_iload_n hx hb d_Mo_fault_179 rfl (lv_at hl 2 rfl) ?_
      refine lv_bipush (v := 8) hx hb d_Mo_fault_180 (by decide) ?_
      refine lv_iconst (v := 4) hx hb d_Mo_fault_182 (by decide) ?_
      refine lv_iload_n hx hb d_Mo_fault_183 rfl (lv_at hl 1 rfl) ?_
      refine lv_imul hx hb d_Mo_fault_184 ?_
      refine lv_iadd hx hb d_Mo_fault_185 ?_
      obtain ⟨q25, hv, hf⟩ := mbind hf
      obtain ⟨a, ha, hv⟩ := mbind hv
      obtain ⟨ha, fs, hm⟩ := mrc_e ha
      refine m_caR (m_runV (As := [.int x2, .int ((8 : Int32) + ((4 : Int32) * x1))]) (r := some h0) (rest := []) X G I h_Mo_entryFault k_927 (c_Mo_entryFault hv) mPr_blind (m_pre G I) hm rfl ha rfl rfl hl.1 (Nat.le_of_ble_eq_true rfl) rfl rfl ⟨Nat.le_of_ble_eq_true rfl, Nat.le_of_ble_eq_true rfl⟩ ⟨Nat.le_refl _, Nat.le_refl _⟩ d_Mo_fault_186) ?_
      refine lv_istore_n (i := 3) (lv' := [(3, .int q25), (0, va_rf (some h0)), (1, .int x1), (2, .int x2)]) hx hb d_Mo_fault_189 rfl hl (by decide) rfl (fun ls hl => ?_)
      refine lv_iload_n hx hb d_Mo_fault_190 rfl (lv_at hl 0 rfl) ?_
      refine lv_if_le (tgt := 196) hx hb d_Mo_fault_191 (by decide) (fun hc => ?_) (fun hc => ?_)
      · have hf := mift hf hc
        refine lv_iinc (i := 2) (k := 3) (v := (x2 + (1 : Int32))) (lv' := [(2, .int (x2 + (1 : Int32))), (3, .int q25), (0, va_rf (some h0)), (1, .int x1)]) hx hb d_Mo_fault_196 hl rfl (congrArg (fun t => x2 + t) (by decide : Int32.ofInt (1) = (1 : Int32))) (by decide) rfl (fun ls hl => ?_)
        refine lv_goto (tgt := 173) hx hb d_Mo_fault_199 (by decide) ?_
        exact ih _ _ _ hf (lv_sub hl [2, 3, 0] rfl)
      · have hf := miff hf hc
        refine lv_iload_n hx hb d_Mo_fault_194 rfl (lv_at hl 0 rfl) ?_
        obtain rfl := Option.some.inj hf
        exact r_iretR X d_Mo_fault_195

set_option maxHeartbeats 4000000 in
set_option maxRecDepth 100000 in
theorem w_Mo_fault_153 {μ : mM} {h0 : Nat} {r : Int32} (X : mX p m meth c s args b_Mo_fault 4 (some .int) "ColourLinkerModel") (G : mG D cA dA z0 s) (I : mI D cA z0 s μ s.heap [] s.heap.size) {ls : Array Slot}  (hf : f_Mo_fault_153 μ h0 = some r) (hl : lv_has ls 4 [(0, va_rf (some h0))]) : W p l e rm_Mo_fault s m args below meth c s.heap [] 0 0 (MQ below (mQR (some (.int r))) args s 0 0 (fun _ => False)) (F0 m 153 ls []) := by
  have hx := X.ex
  have hb := X.by_
  unfold f_Mo_fault_153 at hf
  refine lv_sipush (v := 2006) hx hb d_Mo_fault_153 (by decide) ?_
  obtain rfl := Option.some.inj hf
  exact r_iretR X d_Mo_fault_156

set_option maxHeartbeats 4000000 in
set_option maxRecDepth 100000 in
theorem w_Mo_fault_102 {μ : mM} {h0 : Nat} {r : Int32} (X : mX p m meth c s args b_Mo_fault 4 (some .int) "ColourLinkerModel") (G : mG D cA dA z0 s) (I : mI D cA z0 s μ s.heap [] s.heap.size) {ls : Array Slot} {x1 : Int32} (hf : f_Mo_fault_102 μ h0 x1 = some r) (hl : lv_has ls 4 [(0, va_rf (some h0)), (1, .int x1)]) : W p l e rm_Mo_fault s m args below meth c s.heap [] 0 0 (MQ below (mQR (some (.int r))) args s 0 0 (fun _ => False)) (F0 m 102 ls []) := by
  have hx := X.ex
  have hb := X.by_
  unfold f_Mo_fault_102 at hf
  refine r_aload_n X d_Mo_fault_102 rfl (lv_at hl 0 rfl) ?_
  obtain ⟨v18, hv, hf⟩ := mbind hf
  refine r_getf X G I (mfA_e hv) o_Mo_buffer k_834 (Or.inl rfl) d_Mo_fault_103 ?_
  refine lv_iconst (v := 4) hx hb d_Mo_fault_106 (by decide) ?_
  obtain ⟨v19, hv, hf⟩ := mbind hf
  refine r_iald X G I hv d_Mo_fault_107 ?_
  refine lv_iconst (v := 1) hx hb d_Mo_fault_108 (by decide) ?_
  refine lv_icmp_le (tgt := 116) hx hb d_Mo_fault_109 (by decide) (fun hc => ?_) (fun hc => ?_)
  · have hf := mift hf hc
    refine r_aload_n X d_Mo_fault_116 rfl (lv_at hl 0 rfl) ?_
    obtain ⟨v20, hv, hf⟩ := mbind hf
    refine r_getf X G I (mfA_e hv) o_Mo_buffer k_834 (Or.inl rfl) d_Mo_fault_117 ?_
    refine lv_iconst (v := 5) hx hb d_Mo_fault_120 (by decide) ?_
    obtain ⟨v21, hv, hf⟩ := mbind hf
    refine r_iald X G I hv d_Mo_fault_121 ?_
    refine lv_if_eq (tgt := 129) hx hb d_Mo_fault_122 (by decide) (fun hc => ?_) (fun hc => ?_)
    · have hf := mift hf hc
      refine lv_iload_n hx hb d_Mo_fault_129 rfl (lv_at hl 1 rfl) ?_
      refine lv_iconst (v := 1) hx hb d_Mo_fault_130 (by decide) ?_
      refine lv_icmp_lt (tgt := 153) hx hb d_Mo_fault_131 (by decide) (fun hc => ?_) (fun hc => ?_)
      · have hf := mift hf hc
        exact w_Mo_fault_153 X G I hf (lv_sub hl [0] rfl)
      · have hf := miff hf hc
        refine lv_iload_n hx hb d_Mo_fault_134 rfl (lv_at hl 1 rfl) ?_
        refine lv_bipush (v := 12) hx hb d_Mo_fault_135 (by decide) ?_
        refine lv_icmp_gt (tgt := 153) hx hb d_Mo_fault_137 (by decide) (fun hc => ?_) (fun hc => ?_)
        · have hf := mift hf hc
          exact w_Mo_fault_153 X G I hf (lv_sub hl [0] rfl)
        · have hf := miff hf hc
          refine lv_bipush (v := 8) hx hb d_Mo_fault_140 (by decide) ?_
          refine lv_iconst (v := 4) hx hb d_Mo_fault_142 (by decide) ?_
          refine lv_iload_n hx hb d_Mo_fault_143 rfl (lv_at hl 1 rfl) ?_
          refine lv_imul hx hb d_Mo_fault_144 ?_
          refine lv_iadd hx hb d_Mo_fault_145 ?_
          refine r_aload_n X d_Mo_fault_146 rfl (lv_at hl 0 rfl) ?_
          obtain ⟨v22, hv, hf⟩ := mbind hf
          refine r_getf X G I (mfI_e hv) o_Mo_size k_835 (Or.inl rfl) d_Mo_fault_147 ?_
          refine lv_icmp_le (tgt := 157) hx hb d_Mo_fault_150 (by decide) (fun hc => ?_) (fun hc => ?_)
          · have hf := mift hf hc
            refine r_aload_n X d_Mo_fault_157 rfl (lv_at hl 0 rfl) ?_
            obtain ⟨v23, hv, hf⟩ := mbind hf
            refine r_getf X G I (mfA_e hv) o_Mo_buffer k_834 (Or.inl rfl) d_Mo_fault_158 ?_
            refine lv_bipush (v := 7) hx hb d_Mo_fault_161 (by decide) ?_
            obtain ⟨v24, hv, hf⟩ := mbind hf
            refine r_iald X G I hv d_Mo_fault_163 ?_
            refine lv_if_eq (tgt := 171) hx hb d_Mo_fault_164 (by decide) (fun hc => ?_) (fun hc => ?_)
            · have hf := mift hf hc
              refine lv_iconst (v := 0) hx hb d_Mo_fault_171 (by decide) ?_
              refine lv_istore_n (i := 2) (lv' := [(2, .int (0 : Int32)), (0, va_rf (some h0)), (1, .int x1)]) hx hb d_Mo_fault_172 rfl hl (by decide) rfl (fun ls hl => ?_)
              exact w_Mo_fault_173 X G I (fun ls hf hl => w_Mo_fault_202 X G I hf hl) 4096 _ _ _ hf (lv_sub hl [1, 2, 0] rfl)
            · have hf := miff hf hc
              refine lv_sipush (v := 2007) hx hb d_Mo_fault_167 (by decide) ?_
              obtain rfl := Option.some.inj hf
              exact r_iretR X d_Mo_fault_170
          · have hf := miff hf hc
            exact w_Mo_fault_153 X G I hf (lv_sub hl [0] rfl)
    · have hf := miff hf hc
      refine lv_sipush (v := 2005) hx hb d_Mo_fault_125 (by decide) ?_
      obtain rfl := Option.some.inj hf
      exact r_iretR X d_Mo_fault_128
  · have hf := miff hf hc
    refine lv_sipush (v := 2004) hx hb d_Mo_fault_112 (by decide) ?_
    obtain rfl := Option.some.inj hf
    exact r_iretR X d_Mo_fault_115

set_option maxHeartbeats 4000000 in
set_option maxRecDepth 100000 in
theorem w_Mo_fault_78 {μ : mM} {h0 : Nat} {r : Int32} (X : mX p m meth c s args b_Mo_fault 4 (some .int) "ColourLinkerModel") (G : mG D cA dA z0 s) (I : mI D cA z0 s μ s.heap [] s.heap.size) {ls : Array Slot} {x1 : Int32} (hf : f_Mo_fault_78 μ h0 x1 = some r) (hl : lv_has ls 4 [(0, va_rf (some h0)), (1, .int x1)]) : W p l e rm_Mo_fault s m args below meth c s.heap [] 0 0 (MQ below (mQR (some (.int r))) args s 0 0 (fun _ => False)) (F0 m 78 ls []) := by
  have hx := X.ex
  have hb := X.by_
  unfold f_Mo_fault_78 at hf
  refine r_aload_n X d_Mo_fault_78 rfl (lv_at hl 0 rfl) ?_
  obtain ⟨v14, hv, hf⟩ := mbind hf
  refine r_getf X G I (mfA_e hv) o_Mo_buffer k_834 (Or.inl rfl) d_Mo_fault_79 ?_
  refine lv_iconst (v := 3) hx hb d_Mo_fault_82 (by decide) ?_
  obtain ⟨v15, hv, hf⟩ := mbind hf
  refine r_iald X G I hv d_Mo_fault_83 ?_
  refine lv_iconst (v := 1) hx hb d_Mo_fault_84 (by decide) ?_
  refine lv_icmp_eq (tgt := 102) hx hb d_Mo_fault_85 (by decide) (fun hc => ?_) (fun hc => ?_)
  · have hf := mift hf hc
    exact w_Mo_fault_102 X G I hf hl
  · have hf := miff hf hc
    refine r_aload_n X d_Mo_fault_88 rfl (lv_at hl 0 rfl) ?_
    obtain ⟨v16, hv, hf⟩ := mbind hf
    refine r_getf X G I (mfA_e hv) o_Mo_buffer k_834 (Or.inl rfl) d_Mo_fault_89 ?_
    refine lv_iconst (v := 3) hx hb d_Mo_fault_92 (by decide) ?_
    obtain ⟨v17, hv, hf⟩ := mbind hf
    refine r_iald X G I hv d_Mo_fault_93 ?_
    refine lv_iconst (v := 3) hx hb d_Mo_fault_94 (by decide) ?_
    refine lv_icmp_eq (tgt := 102) hx hb d_Mo_fault_95 (by decide) (fun hc => ?_) (fun hc => ?_)
    · have hf := mift hf hc
      exact w_Mo_fault_102 X G I hf hl
    · have hf := miff hf hc
      refine lv_sipush (v := 2003) hx hb d_Mo_fault_98 (by decide) ?_
      obtain rfl := Option.some.inj hf
      exact r_iretR X d_Mo_fault_101

set_option maxHeartbeats 4000000 in
set_option maxRecDepth 100000 in
theorem w_Mo_fault_42 {μ : mM} {h0 : Nat} {r : Int32} (X : mX p m meth c s args b_Mo_fault 4 (some .int) "ColourLinkerModel") (G : mG D cA dA z0 s) (I : mI D cA z0 s μ s.heap [] s.heap.size) {ls : Array Slot}  (hf : f_Mo_fault_42 μ h0 = some r) (hl : lv_has ls 4 [(0, va_rf (some h0))]) : W p l e rm_Mo_fault s m args below meth c s.heap [] 0 0 (MQ below (mQR (some (.int r))) args s 0 0 (fun _ => False)) (F0 m 42 ls []) := by
  have hx := X.ex
  have hb := X.by_
  unfold f_Mo_fault_42 at hf
  refine lv_sipush (v := 1000) hx hb d_Mo_fault_42 (by decide) ?_
  obtain rfl := Option.some.inj hf
  exact r_iretR X d_Mo_fault_45

set_option maxHeartbeats 4000000 in
set_option maxRecDepth 100000 in
theorem w_Mo_fault {μ : mM} {h0 : Nat} {r : Int32} (X : mX p m meth c s args b_Mo_fault 4 (some .int) "ColourLinkerModel") (G : mG D cA dA z0 s) (I : mI D cA z0 s μ s.heap [] s.heap.size) {ls : Array Slot}  (hf : f_Mo_fault μ h0 = some r) (hl : lv_has ls 4 [(0, va_rf (some h0))]) : W p l e rm_Mo_fault s m args below meth c s.heap [] 0 0 (MQ below (mQR (some (.int r))) args s 0 0 (fun _ => False)) (F0 m 0 ls []) := by
  have hx := X.ex
  have hb := X.by_
  unfold f_Mo_fault at hf
  refine r_aload_n X d_Mo_fault_0 rfl (lv_at hl 0 rfl) ?_
  obtain ⟨v1, hv, hf⟩ := mbind hf
  refine r_getf X G I (mfI_e hv) o_Mo_size k_835 (Or.inl rfl) d_Mo_fault_1 ?_
  refine lv_bipush (v := 12) hx hb d_Mo_fault_4 (by decide) ?_
  refine lv_icmp_lt (tgt := 42) hx hb d_Mo_fault_6 (by decide) (fun hc => ?_) (fun hc => ?_)
  · have hf := mift hf hc
    exact w_Mo_fault_42 X G I hf hl
  · have hf := miff hf hc
    refine r_aload_n X d_Mo_fault_9 rfl (lv_at hl 0 rfl) ?_
    obtain ⟨v2, hv, hf⟩ := mbind hf
    refine r_getf X G I (mfI_e hv) o_Mo_size k_835 (Or.inl rfl) d_Mo_fault_10 ?_
    refine lv_iconst (v := 4) hx hb d_Mo_fault_13 (by decide) ?_
    refine lv_irem hx hb d_Mo_fault_14 (by decide) ?_
    refine lv_if_ne (tgt := 42) hx hb d_Mo_fault_15 (by decide) (fun hc => ?_) (fun hc => ?_)
    · have hf := miff hf hc
      exact w_Mo_fault_42 X G I hf hl
    · have hf := mift hf hc
      refine lv_sipush (v := 256) hx hb d_Mo_fault_18 (by decide) ?_
      refine r_aload_n X d_Mo_fault_21 rfl (lv_at hl 0 rfl) ?_
      obtain ⟨v3, hv, hf⟩ := mbind hf
      refine r_getf X G I (mfA_e hv) o_Mo_buffer k_834 (Or.inl rfl) d_Mo_fault_22 ?_
      refine lv_iconst (v := 0) hx hb d_Mo_fault_25 (by decide) ?_
      obtain ⟨v4, hv, hf⟩ := mbind hf
      refine r_iald X G I hv d_Mo_fault_26 ?_
      refine lv_imul hx hb d_Mo_fault_27 ?_
      refine r_aload_n X d_Mo_fault_28 rfl (lv_at hl 0 rfl) ?_
      obtain ⟨v5, hv, hf⟩ := mbind hf
      refine r_getf X G I (mfA_e hv) o_Mo_buffer k_834 (Or.inl rfl) d_Mo_fault_29 ?_
      refine lv_iconst (v := 1) hx hb d_Mo_fault_32 (by decide) ?_
      obtain ⟨v6, hv, hf⟩ := mbind hf
      refine r_iald X G I hv d_Mo_fault_33 ?_
      refine lv_iadd hx hb d_Mo_fault_34 ?_
      refine r_aload_n X d_Mo_fault_35 rfl (lv_at hl 0 rfl) ?_
      obtain ⟨v7, hv, hf⟩ := mbind hf
      refine r_getf X G I (mfI_e hv) o_Mo_size k_835 (Or.inl rfl) d_Mo_fault_36 ?_
      refine lv_icmp_eq (tgt := 46) hx hb d_Mo_fault_39 (by decide) (fun hc => ?_) (fun hc => ?_)
      · have hf := mift hf hc
        refine r_aload_n X d_Mo_fault_46 rfl (lv_at hl 0 rfl) ?_
        obtain ⟨v8, hv, hf⟩ := mbind hf
        refine r_getf X G I (mfA_e hv) o_Mo_buffer k_834 (Or.inl rfl) d_Mo_fault_47 ?_
        refine lv_bipush (v := 6) hx hb d_Mo_fault_50 (by decide) ?_
        obtain ⟨v9, hv, hf⟩ := mbind hf
        refine r_iald X G I hv d_Mo_fault_52 ?_
        refine lv_istore_n (i := 1) (lv' := [(1, .int v9), (0, va_rf (some h0))]) hx hb d_Mo_fault_53 rfl hl (by decide) (by simp [mrf_cat]) (fun ls hl => ?_)
        refine r_aload_n X d_Mo_fault_54 rfl (lv_at hl 1 rfl) ?_
        obtain ⟨v10, hv, hf⟩ := mbind hf
        refine r_getf X G I (mfA_e hv) o_Mo_buffer k_834 (Or.inl rfl) d_Mo_fault_55 ?_
        refine lv_iconst (v := 2) hx hb d_Mo_fault_58 (by decide) ?_
        obtain ⟨v11, hv, hf⟩ := mbind hf
        refine r_iald X G I hv d_Mo_fault_59 ?_
        refine lv_iconst (v := 1) hx hb d_Mo_fault_60 (by decide) ?_
        refine lv_icmp_eq (tgt := 78) hx hb d_Mo_fault_61 (by decide) (fun hc => ?_) (fun hc => ?_)
        · have hf := mift hf hc
          exact w_Mo_fault_78 X G I hf (lv_sub hl [1, 0] rfl)
        · have hf := miff hf hc
          refine r_aload_n X d_Mo_fault_64 rfl (lv_at hl 1 rfl) ?_
          obtain ⟨v12, hv, hf⟩ := mbind hf
          refine r_getf X G I (mfA_e hv) o_Mo_buffer k_834 (Or.inl rfl) d_Mo_fault_65 ?_
          refine lv_iconst (v := 2) hx hb d_Mo_fault_68 (by decide) ?_
          obtain ⟨v13, hv, hf⟩ := mbind hf
          refine r_iald X G I hv d_Mo_fault_69 ?_
          refine lv_iconst (v := 2) hx hb d_Mo_fault_70 (by decide) ?_
          refine lv_icmp_eq (tgt := 78) hx hb d_Mo_fault_71 (by decide) (fun hc => ?_) (fun hc => ?_)
          · have hf := mift hf hc
            exact w_Mo_fault_78 X G I hf (lv_sub hl [1, 0] rfl)
          · have hf := miff hf hc
            refine lv_sipush (v := 2002) hx hb d_Mo_fault_74 (by decide) ?_
            obtain rfl := Option.some.inj hf
            exact r_iretR X d_Mo_fault_77
      · have hf := miff hf hc
        exact w_Mo_fault_42 X G I hf hl

set_option maxHeartbeats 4000000 in
set_option maxRecDepth 100000 in
theorem c_Mo_fault {l : Launch} {D : va_G} {cA : Nat → ClassId} {dA z0 : Nat} {μ : mM} {h0 : Nat} {r : Int32} (hf : f_Mo_fault μ h0 = some r) : Met l y_Mo_fault (mW y_Mo_fault b_Mo_fault 4 (some .int)) rm_Mo_fault (va_Pc [.ref h0] (mPr D cA dA z0 μ)) (mQR (some (.int r))) 0 0 (fun _ => False) := by
  refine Met.ofW (cc := b_Mo_fault) (maxL := 4) (ret := (some .int)) (by decide) rfl ?_
  intro p e s m args below meth c s₁ B hml hv
  obtain ⟨rfl, G, hP⟩ := hv
  have X := mX.of B hml
  exact m_entry (lv := [(0, va_rf (some h0))]) (Nat.le_of_ble_eq_true rfl) rfl (fun ls hl => w_Mo_fault X G (mI.start hP) hf hl)

abbrev rm_Mo_parse : Room := { frames := 2, cells := 0, slots := 0, locals := 56 }
theorem h_Mo_parse : mCV y_Mo_parse b_Mo_parse 3 (some .int) 0 := ⟨k_922, k_79, ⟨by decide, by decide, by decide +kernel⟩, k_920, k_921⟩
set_option maxHeartbeats 4000000 in
set_option maxRecDepth 100000 in
theorem w_Mo_parse_61 {h0 : Nat} {r : Int32 × mM} (X : mX p m meth c s args b_Mo_parse 3 (some .int) "ColourLinkerModel") (G : mG D cA dA z0 s) {H : Heap} {locs : List Loc} {μ : mM} {ls : Array Slot}  (I : mI D cA z0 s μ H locs s.heap.size) (hf : f_Mo_parse_61 h0 μ = some r) (hl : lv_has ls 3 [(0, va_rf (some h0))]) : W p l e rm_Mo_parse s m args below meth c H locs 0 0 (MQ below (mQW D cA z0 (some (.int r.1)) r.2) args s 0 0 (mA z0)) (F0 m 61 ls []) := by
  have hx := X.ex
  have hb := X.by_
  unfold f_Mo_parse_61 at hf
  refine r_aload_n X d_Mo_parse_61 rfl (lv_at hl 0 rfl) ?_
  refine lv_dup hx hb d_Mo_parse_62 (mrf_cat _) ?_
  obtain ⟨v9, hv, hf⟩ := mbind hf
  refine r_getf X G I (mfI_e hv) o_Mo_profiles k_837 (Or.inl rfl) d_Mo_parse_63 ?_
  refine lv_iconst (v := 1) hx hb d_Mo_parse_66 (by decide) ?_
  refine lv_iadd hx hb d_Mo_parse_67 ?_
  obtain ⟨m10, hv, hf⟩ := mbind hf
  refine r_put (ty := .int) X G I hv o_Mo_profiles k_837 (Or.inl rfl) (by decide) rfl rfl d_Mo_parse_68 (fun H locs I => ?_)
  refine r_aload_n X d_Mo_parse_71 rfl (lv_at hl 0 rfl) ?_
  obtain ⟨v11, hv, hf⟩ := mbind hf
  refine r_getf X G I (mfI_e hv) o_Mo_profiles k_837 (Or.inl rfl) d_Mo_parse_72 ?_
  refine lv_iconst (v := 1) hx hb d_Mo_parse_75 (by decide) ?_
  refine lv_isub hx hb d_Mo_parse_76 ?_
  obtain rfl := Option.some.inj hf
  exact r_iretW X I d_Mo_parse_77

set_option maxHeartbeats 4000000 in
set_option maxRecDepth 100000 in
theorem w_Mo_parse_26 {h0 : Nat} {r : Int32 × mM} (X : mX p m meth c s args b_Mo_parse 3 (some .int) "ColourLinkerModel") (G : mG D cA dA z0 s) {kx61 : mM → Option (Int32 × mM)} (hkx61 : ∀ (H : Heap) (locs : List Loc) (μ : mM) (ls : Array Slot), mI D cA z0 s μ H locs s.heap.size → kx61 μ = some r → lv_has ls 3 [(0, va_rf (some h0))] → W p l e rm_Mo_parse s m args below meth c H locs 0 0 (MQ below (mQW D cA z0 (some (.int r.1)) r.2) args s 0 0 (mA z0)) (F0 m 61 ls [])) : ∀ (n : Nat) (H : Heap) (locs : List Loc) (μ : mM) (ls : Array Slot) (x2 : Int32), mI D cA z0 s μ H locs s.heap.size → f_Mo_parse_26 h0 kx61 n μ x2 = some r → lv_has ls 3 [(0, va_rf (some h0)), (2, .int x2)] → W p l e rm_Mo_parse s m args below meth c H locs 0 0 (MQ below (mQW D cA z0 (some (.int r.1)) r.2) args s 0 0 (mA z0)) (F0 m 26 ls []) := by
  have hx := X.ex
  have hb := X.by_
  intro n
  induction n with
  | zero => intro H locs μ ls x2 I hf hl; rw [f_Mo_parse_26] at hf; cases hf
  | succ n ih =>
    intro H locs μ ls x2 I hf hl
    rw [f_Mo_parse_26] at hf
    refine lv_iload_n hx hb d_Mo_parse_26 rfl (lv_at hl 1 rfl) ?_
    refine r_aload_n X d_Mo_parse_27 rfl (lv_at hl 0 rfl) ?_
    obtain ⟨v3, hv, hf⟩ := mbind hf
    refine r_getf X G I (mfI_e hv) o_Mo_size k_835 (Or.inl rfl) d_Mo_parse_28 ?_
    refine lv_icmp_ge (tgt := 61) hx hb d_Mo_parse_31 (by decide) (fun hc => ?_) (fun hc => ?_)
    · have hf := mift hf hc
      exact hkx61 _ _ _ _ I hf (lv_sub hl [0] rfl)
    · have hf := miff hf hc
      refine r_aload_n X d_Mo_parse_34 rfl (lv_at hl 0 rfl) ?_
      obtain ⟨v4, hv, hf⟩ := mbind hf
      refine r_getf X G I (mfA_e hv) o_Mo_kept k_836 (Or.inl rfl) d_Mo_parse_35 ?_
      refine lv_sipush (v := 256) hx hb d_Mo_parse_38 (by decide) ?_
      refine r_aload_n X d_Mo_parse_41 rfl (lv_at hl 0 rfl) ?_
      obtain ⟨v5, hv, hf⟩ := mbind hf
      refine r_getf X G I (mfI_e hv) o_Mo_profiles k_837 (Or.inl rfl) d_Mo_parse_42 ?_
      refine lv_imul hx hb d_Mo_parse_45 ?_
      refine lv_iload_n hx hb d_Mo_parse_46 rfl (lv_at hl 1 rfl) ?_
      refine lv_iadd hx hb d_Mo_parse_47 ?_
      refine r_aload_n X d_Mo_parse_48 rfl (lv_at hl 0 rfl) ?_
      obtain ⟨v6, hv, hf⟩ := mbind hf
      refine r_getf X G I (mfA_e hv) o_Mo_buffer k_834 (Or.inl rfl) d_Mo_parse_49 ?_
      refine lv_iload_n hx hb d_Mo_parse_52 rfl (lv_at hl 1 rfl) ?_
      obtain ⟨v7, hv, hf⟩ := mbind hf
      refine r_iald X G I hv d_Mo_parse_53 ?_
      obtain ⟨m8, hv, hf⟩ := mbind hf
      refine r_iast X G I hv d_Mo_parse_54 (fun H locs I => ?_)
      refine lv_iinc (i := 2) (k := 1) (v := (x2 + (1 : Int32))) (lv' := [(2, .int (x2 + (1 : Int32))), (0, va_rf (some h0))]) hx hb d_Mo_parse_55 hl rfl (congrArg (fun t => x2 + t) (by decide : Int32.ofInt (1) = (1 : Int32))) (by decide) rfl (fun ls hl => ?_)
      refine lv_goto (tgt := 26) hx hb d_Mo_parse_58 (by decide) ?_
      exact ih _ _ _ _ _ I hf (lv_sub hl [1, 0] rfl)

set_option maxHeartbeats 4000000 in
set_option maxRecDepth 100000 in
theorem w_Mo_parse {h0 : Nat} {r : Int32 × mM} (X : mX p m meth c s args b_Mo_parse 3 (some .int) "ColourLinkerModel") (G : mG D cA dA z0 s) {H : Heap} {locs : List Loc} {μ : mM} {ls : Array Slot}  (I : mI D cA z0 s μ H locs s.heap.size) (hf : f_Mo_parse h0 μ = some r) (hl : lv_has ls 3 [(0, va_rf (some h0))]) : W p l e rm_Mo_parse s m args below meth c H locs 0 0 (MQ below (mQW D cA z0 (some (.int r.1)) r.2) args s 0 0 (mA z0)) (F0 m 0 ls []) := by
  have hx := X.ex
  have hb := X.by_
  unfold f_Mo_parse at hf
  refine r_aload_n X d_Mo_parse_0 rfl (lv_at hl 0 rfl) ?_
  obtain ⟨v1, hv, hf⟩ := mbind hf
  refine r_getf X G I (mfI_e hv) o_Mo_profiles k_837 (Or.inl rfl) d_Mo_parse_1 ?_
  refine lv_bipush (v := 6) hx hb d_Mo_parse_4 (by decide) ?_
  refine lv_icmp_ne (tgt := 12) hx hb d_Mo_parse_6 (by decide) (fun hc => ?_) (fun hc => ?_)
  · have hf := miff hf hc
    refine r_aload_n X d_Mo_parse_12 rfl (lv_at hl 0 rfl) ?_
    obtain ⟨q2, hv, hf⟩ := mbind hf
    obtain ⟨a, ha, hv⟩ := mbind hv
    obtain ⟨ha, fs, hm⟩ := mrc_e ha
    refine m_caR (m_runV (As := []) (r := some h0) (rest := []) X G I h_Mo_fault k_923 (c_Mo_fault hv) mPr_blind (m_pre G I) hm rfl ha rfl rfl hl.1 (Nat.le_of_ble_eq_true rfl) rfl rfl ⟨Nat.le_of_ble_eq_true rfl, Nat.le_of_ble_eq_true rfl⟩ ⟨Nat.le_refl _, Nat.le_refl _⟩ d_Mo_parse_13) ?_
    refine lv_istore_n (i := 1) (lv' := [(1, .int q2), (0, va_rf (some h0))]) hx hb d_Mo_parse_16 rfl hl (by decide) (by simp [mrf_cat]) (fun ls hl => ?_)
    refine lv_iload_n hx hb d_Mo_parse_17 rfl (lv_at hl 0 rfl) ?_
    refine lv_if_le (tgt := 24) hx hb d_Mo_parse_18 (by decide) (fun hc => ?_) (fun hc => ?_)
    · have hf := mift hf hc
      refine lv_iconst (v := 0) hx hb d_Mo_parse_24 (by decide) ?_
      refine lv_istore_n (i := 2) (lv' := [(2, .int (0 : Int32)), (1, .int q2), (0, va_rf (some h0))]) hx hb d_Mo_parse_25 rfl hl (by decide) rfl (fun ls hl => ?_)
      exact w_Mo_parse_26 X G (fun H locs μ ls I hf hl => w_Mo_parse_61 X G I hf hl) 4096 _ _ _ _ _ I hf (lv_sub hl [2, 0] rfl)
    · have hf := miff hf hc
      refine lv_iload_n hx hb d_Mo_parse_21 rfl (lv_at hl 0 rfl) ?_
      refine lv_ineg hx hb d_Mo_parse_22 ?_
      obtain rfl := Option.some.inj hf
      exact r_iretW X I d_Mo_parse_23
  · have hf := mift hf hc
    refine lv_bipush (v := -8) hx hb d_Mo_parse_9 (by decide) ?_
    obtain rfl := Option.some.inj hf
    exact r_iretW X I d_Mo_parse_11

set_option maxHeartbeats 4000000 in
set_option maxRecDepth 100000 in
theorem c_Mo_parse {l : Launch} {D : va_G} {cA : Nat → ClassId} {dA z0 : Nat} {μ : mM} {h0 : Nat} {r : Int32 × mM} (hf : f_Mo_parse h0 μ = some r) : Met l y_Mo_parse (mW y_Mo_parse b_Mo_parse 3 (some .int)) rm_Mo_parse (va_Pc [.ref h0] (mPr D cA dA z0 μ)) (mQW D cA z0 (some (.int r.1)) r.2) 0 0 (mA z0) := by
  refine Met.ofW (cc := b_Mo_parse) (maxL := 3) (ret := (some .int)) (by decide) rfl ?_
  intro p e s m args below meth c s₁ B hml hv
  obtain ⟨rfl, G, hP⟩ := hv
  have X := mX.of B hml
  exact m_entry (lv := [(0, va_rf (some h0))]) (Nat.le_of_ble_eq_true rfl) rfl (fun ls hl => w_Mo_parse X G (mI.start hP) hf hl)

abbrev rm_CL_profiles : Room := { frames := 0, cells := 0, slots := 0, locals := 0 }
theorem h_CL_profiles : mCV y_CL_profiles b_CL_profiles 1 (some .int) 0 := ⟨k_612, k_75, ⟨by decide, by decide, by decide +kernel⟩, k_610, k_611⟩
set_option maxHeartbeats 4000000 in
set_option maxRecDepth 100000 in
theorem w_CL_profiles {μ : mM} {h0 : Nat} {r : Int32} (X : mX p m meth c s args b_CL_profiles 1 (some .int) "ColourLinker") (G : mG D cA dA z0 s) (I : mI D cA z0 s μ s.heap [] s.heap.size) {ls : Array Slot}  (hf : f_CL_profiles μ h0 = some r) (hl : lv_has ls 1 [(0, va_rf (some h0))]) : W p l e rm_CL_profiles s m args below meth c s.heap [] 0 0 (MQ below (mQR (some (.int r))) args s 0 0 (fun _ => False)) (F0 m 0 ls []) := by
  have hx := X.ex
  have hb := X.by_
  unfold f_CL_profiles at hf
  refine r_aload_n X d_CL_profiles_0 rfl (lv_at hl 0 rfl) ?_
  obtain ⟨v1, hv, hf⟩ := mbind hf
  refine r_getf X G I (mfI_e hv) o_CL_keptCount k_148 (Or.inl rfl) d_CL_profiles_1 ?_
  obtain rfl := Option.some.inj hf
  exact r_iretR X d_CL_profiles_4

set_option maxHeartbeats 4000000 in
set_option maxRecDepth 100000 in
theorem c_CL_profiles {l : Launch} {D : va_G} {cA : Nat → ClassId} {dA z0 : Nat} {μ : mM} {h0 : Nat} {r : Int32} (hf : f_CL_profiles μ h0 = some r) : Met l y_CL_profiles (mW y_CL_profiles b_CL_profiles 1 (some .int)) rm_CL_profiles (va_Pc [.ref h0] (mPr D cA dA z0 μ)) (mQR (some (.int r))) 0 0 (fun _ => False) := by
  refine Met.ofW (cc := b_CL_profiles) (maxL := 1) (ret := (some .int)) (by decide) rfl ?_
  intro p e s m args below meth c s₁ B hml hv
  obtain ⟨rfl, G, hP⟩ := hv
  have X := mX.of B hml
  exact m_entry (lv := [(0, va_rf (some h0))]) (Nat.le_of_ble_eq_true rfl) rfl (fun ls hl => w_CL_profiles X G (mI.start hP) hf hl)

abbrev rm_Mo_profiles : Room := { frames := 0, cells := 0, slots := 0, locals := 0 }
theorem h_Mo_profiles : mCV y_Mo_profiles b_Mo_profiles 1 (some .int) 0 := ⟨k_938, k_79, ⟨by decide, by decide, by decide +kernel⟩, k_936, k_937⟩
set_option maxHeartbeats 4000000 in
set_option maxRecDepth 100000 in
theorem w_Mo_profiles {μ : mM} {h0 : Nat} {r : Int32} (X : mX p m meth c s args b_Mo_profiles 1 (some .int) "ColourLinkerModel") (G : mG D cA dA z0 s) (I : mI D cA z0 s μ s.heap [] s.heap.size) {ls : Array Slot}  (hf : f_Mo_profiles μ h0 = some r) (hl : lv_has ls 1 [(0, va_rf (some h0))]) : W p l e rm_Mo_profiles s m args below meth c s.heap [] 0 0 (MQ below (mQR (some (.int r))) args s 0 0 (fun _ => False)) (F0 m 0 ls []) := by
  have hx := X.ex
  have hb := X.by_
  unfold f_Mo_profiles at hf
  refine r_aload_n X d_Mo_profiles_0 rfl (lv_at hl 0 rfl) ?_
  obtain ⟨v1, hv, hf⟩ := mbind hf
  refine r_getf X G I (mfI_e hv) o_Mo_profiles k_837 (Or.inl rfl) d_Mo_profiles_1 ?_
  obtain rfl := Option.some.inj hf
  exact r_iretR X d_Mo_profiles_4

set_option maxHeartbeats 4000000 in
set_option maxRecDepth 100000 in
theorem c_Mo_profiles {l : Launch} {D : va_G} {cA : Nat → ClassId} {dA z0 : Nat} {μ : mM} {h0 : Nat} {r : Int32} (hf : f_Mo_profiles μ h0 = some r) : Met l y_Mo_profiles (mW y_Mo_profiles b_Mo_profiles 1 (some .int)) rm_Mo_profiles (va_Pc [.ref h0] (mPr D cA dA z0 μ)) (mQR (some (.int r))) 0 0 (fun _ => False) := by
  refine Met.ofW (cc := b_Mo_profiles) (maxL := 1) (ret := (some .int)) (by decide) rfl ?_
  intro p e s m args below meth c s₁ B hml hv
  obtain ⟨rfl, G, hP⟩ := hv
  have X := mX.of B hml
  exact m_entry (lv := [(0, va_rf (some h0))]) (Nat.le_of_ble_eq_true rfl) rfl (fun ls hl => w_Mo_profiles X G (mI.start hP) hf hl)

abbrev rm_CL_profileAt : Room := { frames := 0, cells := 0, slots := 0, locals := 0 }
theorem h_CL_profileAt : mCV y_CL_profileAt b_CL_profileAt 2 (some (.object "ColourLinker$Profile")) 1 := ⟨k_620, k_75, ⟨by decide, by decide, by decide +kernel⟩, k_619, k_19⟩
set_option maxHeartbeats 4000000 in
set_option maxRecDepth 100000 in
theorem w_CL_profileAt_22 {μ : mM} {h0 : Nat} {r : Option Nat} (X : mX p m meth c s args b_CL_profileAt 2 (some (.object "ColourLinker$Profile")) "ColourLinker") (G : mG D cA dA z0 s) (I : mI D cA z0 s μ s.heap [] s.heap.size) {ls : Array Slot} {s0 : Option Nat} (hf : f_CL_profileAt_22 μ h0 s0 = some r) (hl : lv_has ls 2 [(0, va_rf (some h0))]) : W p l e rm_CL_profileAt s m args below meth c s.heap [] 0 0 (MQ below (mQR (some (va_rf r))) args s 0 0 (fun _ => False)) (F0 m 22 ls [va_rf s0]) := by
  have hx := X.ex
  have hb := X.by_
  unfold f_CL_profileAt_22 at hf
  obtain rfl := Option.some.inj hf
  exact r_aretR X (Or.inl ⟨_, rfl⟩) d_CL_profileAt_22

set_option maxHeartbeats 4000000 in
set_option maxRecDepth 100000 in
theorem w_CL_profileAt_21 {μ : mM} {h0 : Nat} {r : Option Nat} (X : mX p m meth c s args b_CL_profileAt 2 (some (.object "ColourLinker$Profile")) "ColourLinker") (G : mG D cA dA z0 s) (I : mI D cA z0 s μ s.heap [] s.heap.size) {ls : Array Slot}  (hf : f_CL_profileAt_21 μ h0 = some r) (hl : lv_has ls 2 [(0, va_rf (some h0))]) : W p l e rm_CL_profileAt s m args below meth c s.heap [] 0 0 (MQ below (mQR (some (va_rf r))) args s 0 0 (fun _ => False)) (F0 m 21 ls []) := by
  have hx := X.ex
  have hb := X.by_
  unfold f_CL_profileAt_21 at hf
  refine r_null X d_CL_profileAt_21 ?_
  exact w_CL_profileAt_22 X G I hf hl

set_option maxHeartbeats 4000000 in
set_option maxRecDepth 100000 in
theorem w_CL_profileAt {μ : mM} {h0 : Nat} {r : Option Nat} (X : mX p m meth c s args b_CL_profileAt 2 (some (.object "ColourLinker$Profile")) "ColourLinker") (G : mG D cA dA z0 s) (I : mI D cA z0 s μ s.heap [] s.heap.size) {ls : Array Slot} {x1 : Int32} (hf : f_CL_profileAt μ h0 x1 = some r) (hl : lv_has ls 2 [(0, va_rf (some h0)), (1, .int x1)]) : W p l e rm_CL_profileAt s m args below meth c s.heap [] 0 0 (MQ below (mQR (some (va_rf r))) args s 0 0 (fun _ => False)) (F0 m 0 ls []) := by
  have hx := X.ex
  have hb := X.by_
  unfold f_CL_profileAt at hf
  refine lv_iload_n hx hb d_CL_profileAt_0 rfl (lv_at hl 1 rfl) ?_
  refine lv_if_lt (tgt := 21) hx hb d_CL_profileAt_1 (by decide) (fun hc => ?_) (fun hc => ?_)
  · have hf := mift hf hc
    exact w_CL_profileAt_21 X G I hf (lv_sub hl [0] rfl)
  · have hf := miff hf hc
    refine lv_iload_n hx hb d_CL_profileAt_4 rfl (lv_at hl 1 rfl) ?_
    refine r_aload_n X d_CL_profileAt_5 rfl (lv_at hl 0 rfl) ?_
    obtain ⟨v1, hv, hf⟩ := mbind hf
    refine r_getf X G I (mfI_e hv) o_CL_keptCount k_148 (Or.inl rfl) d_CL_profileAt_6 ?_
    refine lv_icmp_ge (tgt := 21) hx hb d_CL_profileAt_9 (by decide) (fun hc => ?_) (fun hc => ?_)
    · have hf := mift hf hc
      exact w_CL_profileAt_21 X G I hf (lv_sub hl [0] rfl)
    · have hf := miff hf hc
      refine r_aload_n X d_CL_profileAt_12 rfl (lv_at hl 0 rfl) ?_
      obtain ⟨v2, hv, hf⟩ := mbind hf
      refine r_getf X G I (mfA_e hv) o_CL_kept k_147 (Or.inl rfl) d_CL_profileAt_13 ?_
      refine lv_iload_n hx hb d_CL_profileAt_16 rfl (lv_at hl 1 rfl) ?_
      obtain ⟨v3, hv, hf⟩ := mbind hf
      refine r_aald X G I hv d_CL_profileAt_17 ?_
      refine lv_goto (tgt := 22) hx hb d_CL_profileAt_18 (by decide) ?_
      exact w_CL_profileAt_22 X G I hf (lv_sub hl [0] rfl)

set_option maxHeartbeats 4000000 in
set_option maxRecDepth 100000 in
theorem c_CL_profileAt {l : Launch} {D : va_G} {cA : Nat → ClassId} {dA z0 : Nat} {μ : mM} {h0 : Nat} {x1 : Int32} {r : Option Nat} (hf : f_CL_profileAt μ h0 x1 = some r) : Met l y_CL_profileAt (mW y_CL_profileAt b_CL_profileAt 2 (some (.object "ColourLinker$Profile"))) rm_CL_profileAt (va_Pc [.ref h0, .int x1] (mPr D cA dA z0 μ)) (mQR (some (va_rf r))) 0 0 (fun _ => False) := by
  refine Met.ofW (cc := b_CL_profileAt) (maxL := 2) (ret := (some (.object "ColourLinker$Profile"))) (by decide) rfl ?_
  intro p e s m args below meth c s₁ B hml hv
  obtain ⟨rfl, G, hP⟩ := hv
  have X := mX.of B hml
  exact m_entry (lv := [(0, va_rf (some h0)), (1, .int x1)]) (Nat.le_of_ble_eq_true rfl) rfl (fun ls hl => w_CL_profileAt X G (mI.start hP) hf hl)

abbrev rm_CL_elements : Room := { frames := 1, cells := 0, slots := 0, locals := 21 }
theorem h_CL_elements : mCV y_CL_elements b_CL_elements 3 (some .int) 1 := ⟨k_616, k_75, ⟨by decide, by decide, by decide +kernel⟩, k_614, k_615⟩
set_option maxHeartbeats 4000000 in
set_option maxRecDepth 100000 in
theorem w_CL_elements_18 {μ : mM} {h0 : Nat} {r : Int32} (X : mX p m meth c s args b_CL_elements 3 (some .int) "ColourLinker") (G : mG D cA dA z0 s) (I : mI D cA z0 s μ s.heap [] s.heap.size) {ls : Array Slot} {s0 : Int32} (hf : f_CL_elements_18 μ h0 s0 = some r) (hl : lv_has ls 3 [(0, va_rf (some h0))]) : W p l e rm_CL_elements s m args below meth c s.heap [] 0 0 (MQ below (mQR (some (.int r))) args s 0 0 (fun _ => False)) (F0 m 18 ls [.int s0]) := by
  have hx := X.ex
  have hb := X.by_
  unfold f_CL_elements_18 at hf
  obtain rfl := Option.some.inj hf
  exact r_iretR X d_CL_elements_18

set_option maxHeartbeats 4000000 in
set_option maxRecDepth 100000 in
theorem w_CL_elements {μ : mM} {h0 : Nat} {r : Int32} (X : mX p m meth c s args b_CL_elements 3 (some .int) "ColourLinker") (G : mG D cA dA z0 s) (I : mI D cA z0 s μ s.heap [] s.heap.size) {ls : Array Slot} {x1 : Int32} (hf : f_CL_elements μ h0 x1 = some r) (hl : lv_has ls 3 [(0, va_rf (some h0)), (1, .int x1)]) : W p l e rm_CL_elements s m args below meth c s.heap [] 0 0 (MQ below (mQR (some (.int r))) args s 0 0 (fun _ => False)) (F0 m 0 ls []) := by
  have hx := X.ex
  have hb := X.by_
  unfold f_CL_elements at hf
  refine r_aload_n X d_CL_elements_0 rfl (lv_at hl 0 rfl) ?_
  refine lv_iload_n hx hb d_CL_elements_1 rfl (lv_at hl 1 rfl) ?_
  obtain ⟨q1, hv, hf⟩ := mbind hf
  obtain ⟨a, ha, hv⟩ := mbind hv
  obtain ⟨ha, fs, hm⟩ := mrc_e ha
  refine m_caR (m_runV (As := [.int x1]) (r := some h0) (rest := []) X G I h_CL_profileAt k_617 (c_CL_profileAt hv) mPr_blind (m_pre G I) hm rfl ha rfl rfl hl.1 (Nat.le_of_ble_eq_true rfl) rfl rfl ⟨Nat.le_of_ble_eq_true rfl, Nat.le_of_ble_eq_true rfl⟩ ⟨Nat.le_refl _, Nat.le_refl _⟩ d_CL_elements_2) ?_
  refine r_astore_n (i := 2) (lv' := [(2, va_rf q1), (0, va_rf (some h0)), (1, .int x1)]) X d_CL_elements_5 rfl hl (by decide) rfl (fun ls hl => ?_)
  refine r_aload_n X d_CL_elements_6 rfl (lv_at hl 0 rfl) ?_
  refine r_ifnonnull (tgt := 14) X d_CL_elements_7 (by decide) (fun hc => ?_) (fun hc => ?_)
  · have hf := miff hf hc
    refine r_aload_n X d_CL_elements_14 rfl (lv_at hl 0 rfl) ?_
    obtain ⟨v2, hv, hf⟩ := mbind hf
    refine r_getfN X G I (mfI_e hv) o_Profile_elementCount k_399 (Or.inl rfl) d_CL_elements_15 ?_
    exact w_CL_elements_18 X G I hf (lv_sub hl [1] rfl)
  · have hf := mift hf hc
    refine lv_iconst (v := -1) hx hb d_CL_elements_10 (by decide) ?_
    refine lv_goto (tgt := 18) hx hb d_CL_elements_11 (by decide) ?_
    exact w_CL_elements_18 X G I hf (lv_sub hl [1] rfl)

set_option maxHeartbeats 4000000 in
set_option maxRecDepth 100000 in
theorem c_CL_elements {l : Launch} {D : va_G} {cA : Nat → ClassId} {dA z0 : Nat} {μ : mM} {h0 : Nat} {x1 : Int32} {r : Int32} (hf : f_CL_elements μ h0 x1 = some r) : Met l y_CL_elements (mW y_CL_elements b_CL_elements 3 (some .int)) rm_CL_elements (va_Pc [.ref h0, .int x1] (mPr D cA dA z0 μ)) (mQR (some (.int r))) 0 0 (fun _ => False) := by
  refine Met.ofW (cc := b_CL_elements) (maxL := 3) (ret := (some .int)) (by decide) rfl ?_
  intro p e s m args below meth c s₁ B hml hv
  obtain ⟨rfl, G, hP⟩ := hv
  have X := mX.of B hml
  exact m_entry (lv := [(0, va_rf (some h0)), (1, .int x1)]) (Nat.le_of_ble_eq_true rfl) rfl (fun ls hl => w_CL_elements X G (mI.start hP) hf hl)

abbrev rm_Mo_there : Room := { frames := 0, cells := 0, slots := 0, locals := 0 }
theorem h_Mo_there : mCV y_Mo_there b_Mo_there 2 (some .boolean) 1 := ⟨k_946, k_79, ⟨by decide, by decide, by decide +kernel⟩, k_945, k_30⟩
set_option maxHeartbeats 4000000 in
set_option maxRecDepth 100000 in
theorem w_Mo_there_17 {μ : mM} {h0 : Nat} {r : Int32} (X : mX p m meth c s args b_Mo_there 2 (some .boolean) "ColourLinkerModel") (G : mG D cA dA z0 s) (I : mI D cA z0 s μ s.heap [] s.heap.size) {ls : Array Slot} {s0 : Int32} (hf : f_Mo_there_17 μ h0 s0 = some r) (hl : lv_has ls 2 [(0, va_rf (some h0))]) : W p l e rm_Mo_there s m args below meth c s.heap [] 0 0 (MQ below (mQR (some (.int r))) args s 0 0 (fun _ => False)) (F0 m 17 ls [.int s0]) := by
  have hx := X.ex
  have hb := X.by_
  unfold f_Mo_there_17 at hf
  obtain ⟨v2, hv, hf⟩ := mbind hf
  obtain ⟨hz0, hz⟩ := mz_e hv
  rw [hz0] at hf
  obtain rfl := Option.some.inj hf
  exact r_zretR X hz d_Mo_there_17

set_option maxHeartbeats 4000000 in
set_option maxRecDepth 100000 in
theorem w_Mo_there_16 {μ : mM} {h0 : Nat} {r : Int32} (X : mX p m meth c s args b_Mo_there 2 (some .boolean) "ColourLinkerModel") (G : mG D cA dA z0 s) (I : mI D cA z0 s μ s.heap [] s.heap.size) {ls : Array Slot}  (hf : f_Mo_there_16 μ h0 = some r) (hl : lv_has ls 2 [(0, va_rf (some h0))]) : W p l e rm_Mo_there s m args below meth c s.heap [] 0 0 (MQ below (mQR (some (.int r))) args s 0 0 (fun _ => False)) (F0 m 16 ls []) := by
  have hx := X.ex
  have hb := X.by_
  unfold f_Mo_there_16 at hf
  refine lv_iconst (v := 0) hx hb d_Mo_there_16 (by decide) ?_
  exact w_Mo_there_17 X G I hf hl

set_option maxHeartbeats 4000000 in
set_option maxRecDepth 100000 in
theorem w_Mo_there {μ : mM} {h0 : Nat} {r : Int32} (X : mX p m meth c s args b_Mo_there 2 (some .boolean) "ColourLinkerModel") (G : mG D cA dA z0 s) (I : mI D cA z0 s μ s.heap [] s.heap.size) {ls : Array Slot} {x1 : Int32} (hf : f_Mo_there μ h0 x1 = some r) (hl : lv_has ls 2 [(0, va_rf (some h0)), (1, .int x1)]) : W p l e rm_Mo_there s m args below meth c s.heap [] 0 0 (MQ below (mQR (some (.int r))) args s 0 0 (fun _ => False)) (F0 m 0 ls []) := by
  have hx := X.ex
  have hb := X.by_
  unfold f_Mo_there at hf
  refine lv_iload_n hx hb d_Mo_there_0 rfl (lv_at hl 1 rfl) ?_
  refine lv_if_lt (tgt := 16) hx hb d_Mo_there_1 (by decide) (fun hc => ?_) (fun hc => ?_)
  · have hf := mift hf hc
    exact w_Mo_there_16 X G I hf (lv_sub hl [0] rfl)
  · have hf := miff hf hc
    refine lv_iload_n hx hb d_Mo_there_4 rfl (lv_at hl 1 rfl) ?_
    refine r_aload_n X d_Mo_there_5 rfl (lv_at hl 0 rfl) ?_
    obtain ⟨v1, hv, hf⟩ := mbind hf
    refine r_getf X G I (mfI_e hv) o_Mo_profiles k_837 (Or.inl rfl) d_Mo_there_6 ?_
    refine lv_icmp_ge (tgt := 16) hx hb d_Mo_there_9 (by decide) (fun hc => ?_) (fun hc => ?_)
    · have hf := mift hf hc
      exact w_Mo_there_16 X G I hf (lv_sub hl [0] rfl)
    · have hf := miff hf hc
      refine lv_iconst (v := 1) hx hb d_Mo_there_12 (by decide) ?_
      refine lv_goto (tgt := 17) hx hb d_Mo_there_13 (by decide) ?_
      exact w_Mo_there_17 X G I hf (lv_sub hl [0] rfl)

set_option maxHeartbeats 4000000 in
set_option maxRecDepth 100000 in
theorem c_Mo_there {l : Launch} {D : va_G} {cA : Nat → ClassId} {dA z0 : Nat} {μ : mM} {h0 : Nat} {x1 : Int32} {r : Int32} (hf : f_Mo_there μ h0 x1 = some r) : Met l y_Mo_there (mW y_Mo_there b_Mo_there 2 (some .boolean)) rm_Mo_there (va_Pc [.ref h0, .int x1] (mPr D cA dA z0 μ)) (mQR (some (.int r))) 0 0 (fun _ => False) := by
  refine Met.ofW (cc := b_Mo_there) (maxL := 2) (ret := (some .boolean)) (by decide) rfl ?_
  intro p e s m args below meth c s₁ B hml hv
  obtain ⟨rfl, G, hP⟩ := hv
  have X := mX.of B hml
  exact m_entry (lv := [(0, va_rf (some h0)), (1, .int x1)]) (Nat.le_of_ble_eq_true rfl) rfl (fun ls hl => w_Mo_there X G (mI.start hP) hf hl)

abbrev rm_Mo_part : Room := { frames := 0, cells := 0, slots := 0, locals := 0 }
theorem h_Mo_part : mCV y_Mo_part b_Mo_part 3 (some .int) 2 := ⟨k_958, k_79, ⟨by decide, by decide, by decide +kernel⟩, k_957, k_33⟩
set_option maxHeartbeats 4000000 in
set_option maxRecDepth 100000 in
theorem w_Mo_part {μ : mM} {h0 : Nat} {r : Int32} (X : mX p m meth c s args b_Mo_part 3 (some .int) "ColourLinkerModel") (G : mG D cA dA z0 s) (I : mI D cA z0 s μ s.heap [] s.heap.size) {ls : Array Slot} {x1 : Int32} {x2 : Int32} (hf : f_Mo_part μ h0 x1 x2 = some r) (hl : lv_has ls 3 [(0, va_rf (some h0)), (1, .int x1), (2, .int x2)]) : W p l e rm_Mo_part s m args below meth c s.heap [] 0 0 (MQ below (mQR (some (.int r))) args s 0 0 (fun _ => False)) (F0 m 0 ls []) := by
  have hx := X.ex
  have hb := X.by_
  unfold f_Mo_part at hf
  refine r_aload_n X d_Mo_part_0 rfl (lv_at hl 0 rfl) ?_
  obtain ⟨v1, hv, hf⟩ := mbind hf
  refine r_getf X G I (mfA_e hv) o_Mo_kept k_836 (Or.inl rfl) d_Mo_part_1 ?_
  refine lv_sipush (v := 256) hx hb d_Mo_part_4 (by decide) ?_
  refine lv_iload_n hx hb d_Mo_part_7 rfl (lv_at hl 1 rfl) ?_
  refine lv_imul hx hb d_Mo_part_8 ?_
  refine lv_iload_n hx hb d_Mo_part_9 rfl (lv_at hl 2 rfl) ?_
  refine lv_iadd hx hb d_Mo_part_10 ?_
  obtain ⟨v2, hv, hf⟩ := mbind hf
  refine r_iald X G I hv d_Mo_part_11 ?_
  obtain rfl := Option.some.inj hf
  exact r_iretR X d_Mo_part_12

set_option maxHeartbeats 4000000 in
set_option maxRecDepth 100000 in
theorem c_Mo_part {l : Launch} {D : va_G} {cA : Nat → ClassId} {dA z0 : Nat} {μ : mM} {h0 : Nat} {x1 : Int32} {x2 : Int32} {r : Int32} (hf : f_Mo_part μ h0 x1 x2 = some r) : Met l y_Mo_part (mW y_Mo_part b_Mo_part 3 (some .int)) rm_Mo_part (va_Pc [.ref h0, .int x1, .int x2] (mPr D cA dA z0 μ)) (mQR (some (.int r))) 0 0 (fun _ => False) := by
  refine Met.ofW (cc := b_Mo_part) (maxL := 3) (ret := (some .int)) (by decide) rfl ?_
  intro p e s m args below meth c s₁ B hml hv
  obtain ⟨rfl, G, hP⟩ := hv
  have X := mX.of B hml
  exact m_entry (lv := [(0, va_rf (some h0)), (1, .int x1), (2, .int x2)]) (Nat.le_of_ble_eq_true rfl) rfl (fun ls hl => w_Mo_part X G (mI.start hP) hf hl)

abbrev rm_Mo_entry : Room := { frames := 1, cells := 0, slots := 0, locals := 22 }
theorem h_Mo_entry : mCV y_Mo_entry b_Mo_entry 5 (some .int) 2 := ⟨k_954, k_79, ⟨by decide, by decide, by decide +kernel⟩, k_953, k_32⟩
set_option maxHeartbeats 4000000 in
set_option maxRecDepth 100000 in
theorem w_Mo_entry_53 {μ : mM} {h0 : Nat} {r : Int32} (X : mX p m meth c s args b_Mo_entry 5 (some .int) "ColourLinkerModel") (G : mG D cA dA z0 s) (I : mI D cA z0 s μ s.heap [] s.heap.size) {ls : Array Slot}  (hf : f_Mo_entry_53 μ h0 = some r) (hl : lv_has ls 5 [(0, va_rf (some h0))]) : W p l e rm_Mo_entry s m args below meth c s.heap [] 0 0 (MQ below (mQR (some (.int r))) args s 0 0 (fun _ => False)) (F0 m 53 ls []) := by
  have hx := X.ex
  have hb := X.by_
  unfold f_Mo_entry_53 at hf
  refine lv_iconst (v := -1) hx hb d_Mo_entry_53 (by decide) ?_
  obtain rfl := Option.some.inj hf
  exact r_iretR X d_Mo_entry_54

set_option maxHeartbeats 4000000 in
set_option maxRecDepth 100000 in
theorem w_Mo_entry_11 {μ : mM} {h0 : Nat} {r : Int32} (X : mX p m meth c s args b_Mo_entry 5 (some .int) "ColourLinkerModel") (G : mG D cA dA z0 s) (I : mI D cA z0 s μ s.heap [] s.heap.size) {kx53 : Unit → Option (Int32)} (hkx53 : ∀ (ls : Array Slot), kx53 () = some r → lv_has ls 5 [(0, va_rf (some h0))] → W p l e rm_Mo_entry s m args below meth c s.heap [] 0 0 (MQ below (mQR (some (.int r))) args s 0 0 (fun _ => False)) (F0 m 53 ls [])) : ∀ (n : Nat) (ls : Array Slot) (x1 : Int32) (x2 : Int32) (x3 : Int32) (x4 : Int32), f_Mo_entry_11 μ h0 kx53 n x1 x2 x3 x4 = some r → lv_has ls 5 [(0, va_rf (some h0)), (1, .int x1), (2, .int x2), (3, .int x3), (4, .int x4)] → W p l e rm_Mo_entry s m args below meth c s.heap [] 0 0 (MQ below (mQR (some (.int r))) args s 0 0 (fun _ => False)) (F0 m 11 ls []) := by
  have hx := X.ex
  have hb := X.by_
  intro n
  induction n with
  | zero => intro ls x1 x2 x3 x4 hf hl; rw [f_Mo_entry_11] at hf; cases hf
  | succ n ih =>
    intro ls x1 x2 x3 x4 hf hl
    rw [f_Mo_entry_11] at hf
    refine lv_iload hx hb d_Mo_entry_11 (lv_at hl 4 rfl) ?_
    refine lv_iload_n hx hb d_Mo_entry_13 rfl (lv_at hl 3 rfl) ?_
    refine lv_icmp_ge (tgt := 53) hx hb d_Mo_entry_14 (by decide) (fun hc => ?_) (fun hc => ?_)
    · have hf := mift hf hc
      exact hkx53 _ hf (lv_sub hl [0] rfl)
    · have hf := miff hf hc
      refine r_aload_n X d_Mo_entry_17 rfl (lv_at hl 0 rfl) ?_
      obtain ⟨v2, hv, hf⟩ := mbind hf
      refine r_getf X G I (mfA_e hv) o_Mo_kept k_836 (Or.inl rfl) d_Mo_entry_18 ?_
      refine lv_sipush (v := 256) hx hb d_Mo_entry_21 (by decide) ?_
      refine lv_iload_n hx hb d_Mo_entry_24 rfl (lv_at hl 1 rfl) ?_
      refine lv_imul hx hb d_Mo_entry_25 ?_
      refine lv_bipush (v := 8) hx hb d_Mo_entry_26 (by decide) ?_
      refine lv_iadd hx hb d_Mo_entry_28 ?_
      refine lv_iconst (v := 4) hx hb d_Mo_entry_29 (by decide) ?_
      refine lv_iload hx hb d_Mo_entry_30 (lv_at hl 4 rfl) ?_
      refine lv_imul hx hb d_Mo_entry_32 ?_
      refine lv_iadd hx hb d_Mo_entry_33 ?_
      obtain ⟨v3, hv, hf⟩ := mbind hf
      refine r_iald X G I hv d_Mo_entry_34 ?_
      refine lv_iload_n hx hb d_Mo_entry_35 rfl (lv_at hl 2 rfl) ?_
      refine lv_icmp_ne (tgt := 47) hx hb d_Mo_entry_36 (by decide) (fun hc => ?_) (fun hc => ?_)
      · have hf := miff hf hc
        refine lv_iinc (i := 4) (k := 4) (v := (x4 + (1 : Int32))) (lv' := [(4, .int (x4 + (1 : Int32))), (0, va_rf (some h0)), (1, .int x1), (2, .int x2), (3, .int x3)]) hx hb d_Mo_entry_47 hl rfl (congrArg (fun t => x4 + t) (by decide : Int32.ofInt (1) = (1 : Int32))) (by decide) rfl (fun ls hl => ?_)
        refine lv_goto (tgt := 11) hx hb d_Mo_entry_50 (by decide) ?_
        exact ih _ _ _ _ _ hf (lv_sub hl [1, 2, 3, 4, 0] rfl)
      · have hf := mift hf hc
        refine lv_bipush (v := 8) hx hb d_Mo_entry_39 (by decide) ?_
        refine lv_iconst (v := 4) hx hb d_Mo_entry_41 (by decide) ?_
        refine lv_iload hx hb d_Mo_entry_42 (lv_at hl 4 rfl) ?_
        refine lv_imul hx hb d_Mo_entry_44 ?_
        refine lv_iadd hx hb d_Mo_entry_45 ?_
        obtain rfl := Option.some.inj hf
        exact r_iretR X d_Mo_entry_46

set_option maxHeartbeats 4000000 in
set_option maxRecDepth 100000 in
theorem w_Mo_entry {μ : mM} {h0 : Nat} {r : Int32} (X : mX p m meth c s args b_Mo_entry 5 (some .int) "ColourLinkerModel") (G : mG D cA dA z0 s) (I : mI D cA z0 s μ s.heap [] s.heap.size) {ls : Array Slot} {x1 : Int32} {x2 : Int32} (hf : f_Mo_entry μ h0 x1 x2 = some r) (hl : lv_has ls 5 [(0, va_rf (some h0)), (1, .int x1), (2, .int x2)]) : W p l e rm_Mo_entry s m args below meth c s.heap [] 0 0 (MQ below (mQR (some (.int r))) args s 0 0 (fun _ => False)) (F0 m 0 ls []) := by
  have hx := X.ex
  have hb := X.by_
  unfold f_Mo_entry at hf
  refine r_aload_n X d_Mo_entry_0 rfl (lv_at hl 0 rfl) ?_
  refine lv_iload_n hx hb d_Mo_entry_1 rfl (lv_at hl 1 rfl) ?_
  refine lv_bipush (v := 6) hx hb d_Mo_entry_2 (by decide) ?_
  obtain ⟨q1, hv, hf⟩ := mbind hf
  obtain ⟨a, ha, hv⟩ := mbind hv
  obtain ⟨ha, fs, hm⟩ := mrc_e ha
  refine m_caR (m_runV (As := [.int x1, .int (6 : Int32)]) (r := some h0) (rest := []) X G I h_Mo_part k_955 (c_Mo_part hv) mPr_blind (m_pre G I) hm rfl ha rfl rfl hl.1 (Nat.le_of_ble_eq_true rfl) rfl rfl ⟨Nat.le_of_ble_eq_true rfl, Nat.le_of_ble_eq_true rfl⟩ ⟨Nat.le_refl _, Nat.le_refl _⟩ d_Mo_entry_4) ?_
  refine lv_istore_n (i := 3) (lv' := [(3, .int q1), (0, va_rf (some h0)), (1, .int x1), (2, .int x2)]) hx hb d_Mo_entry_7 rfl hl (by decide) rfl (fun ls hl => ?_)
  refine lv_iconst (v := 0) hx hb d_Mo_entry_8 (by decide) ?_
  refine lv_istore (i := 4) (lv' := [(4, .int (0 : Int32)), (3, .int q1), (0, va_rf (some h0)), (1, .int x1), (2, .int x2)]) hx hb d_Mo_entry_9 hl (by decide) rfl (fun ls hl => ?_)
  exact w_Mo_entry_11 X G I (fun ls hf hl => w_Mo_entry_53 X G I hf hl) 4096 _ _ _ _ _ hf (lv_sub hl [2, 3, 4, 1, 0] rfl)

set_option maxHeartbeats 4000000 in
set_option maxRecDepth 100000 in
theorem c_Mo_entry {l : Launch} {D : va_G} {cA : Nat → ClassId} {dA z0 : Nat} {μ : mM} {h0 : Nat} {x1 : Int32} {x2 : Int32} {r : Int32} (hf : f_Mo_entry μ h0 x1 x2 = some r) : Met l y_Mo_entry (mW y_Mo_entry b_Mo_entry 5 (some .int)) rm_Mo_entry (va_Pc [.ref h0, .int x1, .int x2] (mPr D cA dA z0 μ)) (mQR (some (.int r))) 0 0 (fun _ => False) := by
  refine Met.ofW (cc := b_Mo_entry) (maxL := 5) (ret := (some .int)) (by decide) rfl ?_
  intro p e s m args below meth c s₁ B hml hv
  obtain ⟨rfl, G, hP⟩ := hv
  have X := mX.of B hml
  exact m_entry (lv := [(0, va_rf (some h0)), (1, .int x1), (2, .int x2)]) (Nat.le_of_ble_eq_true rfl) rfl (fun ls hl => w_Mo_entry X G (mI.start hP) hf hl)

abbrev rm_Mo_data : Room := { frames := 2, cells := 0, slots := 0, locals := 46 }
theorem h_Mo_data : mCV y_Mo_data b_Mo_data 4 (some .int) 2 := ⟨k_950, k_79, ⟨by decide, by decide, by decide +kernel⟩, k_949, k_31⟩
set_option maxHeartbeats 4000000 in
set_option maxRecDepth 100000 in
theorem w_Mo_data_23 {μ : mM} {h0 : Nat} {r : Int32} (X : mX p m meth c s args b_Mo_data 4 (some .int) "ColourLinkerModel") (G : mG D cA dA z0 s) (I : mI D cA z0 s μ s.heap [] s.heap.size) {ls : Array Slot} {s0 : Int32} (hf : f_Mo_data_23 μ h0 s0 = some r) (hl : lv_has ls 4 [(0, va_rf (some h0))]) : W p l e rm_Mo_data s m args below meth c s.heap [] 0 0 (MQ below (mQR (some (.int r))) args s 0 0 (fun _ => False)) (F0 m 23 ls [.int s0]) := by
  have hx := X.ex
  have hb := X.by_
  unfold f_Mo_data_23 at hf
  obtain rfl := Option.some.inj hf
  exact r_iretR X d_Mo_data_23

set_option maxHeartbeats 4000000 in
set_option maxRecDepth 100000 in
theorem w_Mo_data {μ : mM} {h0 : Nat} {r : Int32} (X : mX p m meth c s args b_Mo_data 4 (some .int) "ColourLinkerModel") (G : mG D cA dA z0 s) (I : mI D cA z0 s μ s.heap [] s.heap.size) {ls : Array Slot} {x1 : Int32} {x2 : Int32} (hf : f_Mo_data μ h0 x1 x2 = some r) (hl : lv_has ls 4 [(0, va_rf (some h0)), (1, .int x1), (2, .int x2)]) : W p l e rm_Mo_data s m args below meth c s.heap [] 0 0 (MQ below (mQR (some (.int r))) args s 0 0 (fun _ => False)) (F0 m 0 ls []) := by
  have hx := X.ex
  have hb := X.by_
  unfold f_Mo_data at hf
  refine r_aload_n X d_Mo_data_0 rfl (lv_at hl 0 rfl) ?_
  refine lv_iload_n hx hb d_Mo_data_1 rfl (lv_at hl 1 rfl) ?_
  refine lv_iload_n hx hb d_Mo_data_2 rfl (lv_at hl 2 rfl) ?_
  obtain ⟨q1, hv, hf⟩ := mbind hf
  obtain ⟨a, ha, hv⟩ := mbind hv
  obtain ⟨ha, fs, hm⟩ := mrc_e ha
  refine m_caR (m_runV (As := [.int x1, .int x2]) (r := some h0) (rest := []) X G I h_Mo_entry k_951 (c_Mo_entry hv) mPr_blind (m_pre G I) hm rfl ha rfl rfl hl.1 (Nat.le_of_ble_eq_true rfl) rfl rfl ⟨Nat.le_of_ble_eq_true rfl, Nat.le_of_ble_eq_true rfl⟩ ⟨Nat.le_refl _, Nat.le_refl _⟩ d_Mo_data_3) ?_
  refine lv_istore_n (i := 3) (lv' := [(3, .int q1), (0, va_rf (some h0)), (1, .int x1), (2, .int x2)]) hx hb d_Mo_data_6 rfl hl (by decide) rfl (fun ls hl => ?_)
  refine lv_iload_n hx hb d_Mo_data_7 rfl (lv_at hl 0 rfl) ?_
  refine lv_if_ge (tgt := 15) hx hb d_Mo_data_8 (by decide) (fun hc => ?_) (fun hc => ?_)
  · have hf := mift hf hc
    refine r_aload_n X d_Mo_data_15 rfl (lv_at hl 1 rfl) ?_
    refine lv_iload_n hx hb d_Mo_data_16 rfl (lv_at hl 2 rfl) ?_
    refine lv_iload_n hx hb d_Mo_data_17 rfl (lv_at hl 0 rfl) ?_
    refine lv_iconst (v := 1) hx hb d_Mo_data_18 (by decide) ?_
    refine lv_iadd hx hb d_Mo_data_19 ?_
    obtain ⟨q2, hv, hf⟩ := mbind hf
    obtain ⟨a, ha, hv⟩ := mbind hv
    obtain ⟨ha, fs, hm⟩ := mrc_e ha
    refine m_caR (m_runV (As := [.int x1, .int (q1 + (1 : Int32))]) (r := some h0) (rest := []) X G I h_Mo_part k_955 (c_Mo_part hv) mPr_blind (m_pre G I) hm rfl ha rfl rfl hl.1 (Nat.le_of_ble_eq_true rfl) rfl rfl ⟨Nat.le_of_ble_eq_true rfl, Nat.le_of_ble_eq_true rfl⟩ ⟨Nat.le_refl _, Nat.le_refl _⟩ d_Mo_data_20) ?_
    exact w_Mo_data_23 X G I hf (lv_sub hl [1] rfl)
  · have hf := miff hf hc
    refine lv_iconst (v := -1) hx hb d_Mo_data_11 (by decide) ?_
    refine lv_goto (tgt := 23) hx hb d_Mo_data_12 (by decide) ?_
    exact w_Mo_data_23 X G I hf (lv_sub hl [1] rfl)

set_option maxHeartbeats 4000000 in
set_option maxRecDepth 100000 in
theorem c_Mo_data {l : Launch} {D : va_G} {cA : Nat → ClassId} {dA z0 : Nat} {μ : mM} {h0 : Nat} {x1 : Int32} {x2 : Int32} {r : Int32} (hf : f_Mo_data μ h0 x1 x2 = some r) : Met l y_Mo_data (mW y_Mo_data b_Mo_data 4 (some .int)) rm_Mo_data (va_Pc [.ref h0, .int x1, .int x2] (mPr D cA dA z0 μ)) (mQR (some (.int r))) 0 0 (fun _ => False) := by
  refine Met.ofW (cc := b_Mo_data) (maxL := 4) (ret := (some .int)) (by decide) rfl ?_
  intro p e s m args below meth c s₁ B hml hv
  obtain ⟨rfl, G, hP⟩ := hv
  have X := mX.of B hml
  exact m_entry (lv := [(0, va_rf (some h0)), (1, .int x1), (2, .int x2)]) (Nat.le_of_ble_eq_true rfl) rfl (fun ls hl => w_Mo_data X G (mI.start hP) hf hl)

end WK
