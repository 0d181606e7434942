section WK
variable {p : Program} {l : Launch} {e : Env} {s : State} {m : MethodId} {args : Array Value} {below : List Frame} {meth : Method} {c : Code} {D : va_G} {cA : Nat → ClassId} {dA z0 : Nat}
abbrev rm_Mo_write : Room := { frames := 3, cells := 0, slots := 0, locals := 76 }
theorem h_Mo_write : mCV y_Mo_write b_Mo_write 10 (some .int) 1 := ⟨k_970, k_79, ⟨by decide, by decide, by decide +kernel⟩, k_968, k_969⟩
set_option maxHeartbeats 4000000 in
set_option maxRecDepth 100000 in
theorem w_Mo_write_234 {h0 : Nat} {r : Int32 × mM} (X : mX p m meth c s args b_Mo_write 10 (some .int) "ColourLinkerModel") (G : mG D cA dA z0 s) {H : Heap} {locs : List Loc} {μ : mM} {ls : Array Slot} {x4 : Int32} (I : mI D cA z0 s μ H locs s.heap.size) (hf : f_Mo_write_234 h0 μ x4 = some r) (hl : lv_has ls 10 [(0, va_rf (some h0)), (4, .int x4)]) : W p l e rm_Mo_write s m args below meth c H locs 0 0 (MQ below (mQW D cA z0 (some (.int r.1)) r.2) args s 0 0 (mA z0)) (F0 m 234 ls []) := by
  have hx := X.ex
  have hb := X.by_
  unfold f_Mo_write_234 at hf
  refine r_aload_n X d_Mo_write_234 rfl (lv_at hl 0 rfl) ?_
  obtain ⟨v19, hv, hf⟩ := mbind hf
  refine r_getf X G I (mfA_e hv) o_Mo_buffer k_834 (Or.inl rfl) d_Mo_write_235 ?_
  refine lv_iconst (v := 0) hx hb d_Mo_write_238 (by decide) ?_
  refine lv_iload hx hb d_Mo_write_239 (lv_at hl 1 rfl) ?_
  refine lv_sipush (v := 256) hx hb d_Mo_write_241 (by decide) ?_
  refine lv_idiv hx hb d_Mo_write_244 (by decide) ?_
  obtain ⟨m20, hv, hf⟩ := mbind hf
  refine r_iast X G I hv d_Mo_write_245 (fun H locs I => ?_)
  refine r_aload_n X d_Mo_write_246 rfl (lv_at hl 0 rfl) ?_
  obtain ⟨v21, hv, hf⟩ := mbind hf
  refine r_getf X G I (mfA_e hv) o_Mo_buffer k_834 (Or.inl rfl) d_Mo_write_247 ?_
  refine lv_iconst (v := 1) hx hb d_Mo_write_250 (by decide) ?_
  refine lv_iload hx hb d_Mo_write_251 (lv_at hl 1 rfl) ?_
  refine lv_sipush (v := 256) hx hb d_Mo_write_253 (by decide) ?_
  refine lv_irem hx hb d_Mo_write_256 (by decide) ?_
  obtain ⟨m22, hv, hf⟩ := mbind hf
  refine r_iast X G I hv d_Mo_write_257 (fun H locs I => ?_)
  refine r_aload_n X d_Mo_write_258 rfl (lv_at hl 0 rfl) ?_
  refine lv_iload hx hb d_Mo_write_259 (lv_at hl 1 rfl) ?_
  obtain ⟨m23, hv, hf⟩ := mbind hf
  refine r_put (ty := .int) X G I hv o_Mo_size k_835 (Or.inl rfl) (by decide) rfl rfl d_Mo_write_261 (fun H locs I => ?_)
  refine r_aload_n X d_Mo_write_264 rfl (lv_at hl 0 rfl) ?_
  obtain ⟨v24, hv, hf⟩ := mbind hf
  refine r_getf X G I (mfI_e hv) o_Mo_size k_835 (Or.inl rfl) d_Mo_write_265 ?_
  obtain rfl := Option.some.inj hf
  exact r_iretW X I d_Mo_write_268

set_option maxHeartbeats 4000000 in
set_option maxRecDepth 100000 in
theorem w_Mo_write_228 {h0 : Nat} {r : Int32 × mM} (X : mX p m meth c s args b_Mo_write 10 (some .int) "ColourLinkerModel") (G : mG D cA dA z0 s) {k : mM → Int32 → Int32 → Int32 → Int32 → Option (Int32 × mM)} {kx234 : mM → Int32 → Option (Int32 × mM)} (hk : ∀ (H : Heap) (locs : List Loc) (μ : mM) (ls : Array Slot) (x1 : Int32) (x3 : Int32) (x4 : Int32) (x5 : Int32), mI D cA z0 s μ H locs s.heap.size → k μ x1 x3 x4 x5 = some r → lv_has ls 10 [(0, va_rf (some h0)), (1, .int x1), (3, .int x3), (4, .int x4), (5, .int x5)] → W p l e rm_Mo_write s m args below meth c H locs 0 0 (MQ below (mQW D cA z0 (some (.int r.1)) r.2) args s 0 0 (mA z0)) (F0 m 74 ls [])) (hkx234 : ∀ (H : Heap) (locs : List Loc) (μ : mM) (ls : Array Slot) (x4 : Int32), mI D cA z0 s μ H locs s.heap.size → kx234 μ x4 = some r → lv_has ls 10 [(0, va_rf (some h0)), (4, .int x4)] → W p l e rm_Mo_write s m args below meth c H locs 0 0 (MQ below (mQW D cA z0 (some (.int r.1)) r.2) args s 0 0 (mA z0)) (F0 m 234 ls [])) {H : Heap} {locs : List Loc} {μ : mM} {ls : Array Slot} {x1 : Int32} {x3 : Int32} {x4 : Int32} {x5 : Int32} (I : mI D cA z0 s μ H locs s.heap.size) (hf : f_Mo_write_228 h0 k kx234 μ x1 x3 x4 x5 = some r) (hl : lv_has ls 10 [(0, va_rf (some h0)), (1, .int x1), (3, .int x3), (4, .int x4), (5, .int x5)]) : W p l e rm_Mo_write s m args below meth c H locs 0 0 (MQ below (mQW D cA z0 (some (.int r.1)) r.2) args s 0 0 (mA z0)) (F0 m 228 ls []) := by
  have hx := X.ex
  have hb := X.by_
  unfold f_Mo_write_228 at hf
  refine lv_iinc (i := 5) (k := 4) (v := (x5 + (1 : Int32))) (lv' := [(5, .int (x5 + (1 : Int32))), (0, va_rf (some h0)), (1, .int x1), (3, .int x3), (4, .int x4)]) hx hb d_Mo_write_228 hl rfl (congrArg (fun t => x5 + t) (by decide : Int32.ofInt (1) = (1 : Int32))) (by decide) rfl (fun ls hl => ?_)
  refine lv_goto (tgt := 74) hx hb d_Mo_write_231 (by decide) ?_
  exact hk _ _ _ _ _ _ _ _ I hf (lv_sub hl [1, 2, 3, 4, 0] rfl)

set_option maxHeartbeats 4000000 in
set_option maxRecDepth 100000 in
theorem w_Mo_write_223 {h0 : Nat} {r : Int32 × mM} (X : mX p m meth c s args b_Mo_write 10 (some .int) "ColourLinkerModel") (G : mG D cA dA z0 s) {k : mM → Int32 → Int32 → Int32 → Int32 → Option (Int32 × mM)} {kx234 : mM → Int32 → Option (Int32 × mM)} (hk : ∀ (H : Heap) (locs : List Loc) (μ : mM) (ls : Array Slot) (x1 : Int32) (x3 : Int32) (x4 : Int32) (x5 : Int32), mI D cA z0 s μ H locs s.heap.size → k μ x1 x3 x4 x5 = some r → lv_has ls 10 [(0, va_rf (some h0)), (1, .int x1), (3, .int x3), (4, .int x4), (5, .int x5)] → W p l e rm_Mo_write s m args below meth c H locs 0 0 (MQ below (mQW D cA z0 (some (.int r.1)) r.2) args s 0 0 (mA z0)) (F0 m 74 ls [])) (hkx234 : ∀ (H : Heap) (locs : List Loc) (μ : mM) (ls : Array Slot) (x4 : Int32), mI D cA z0 s μ H locs s.heap.size → kx234 μ x4 = some r → lv_has ls 10 [(0, va_rf (some h0)), (4, .int x4)] → W p l e rm_Mo_write s m args below meth c H locs 0 0 (MQ below (mQW D cA z0 (some (.int r.1)) r.2) args s 0 0 (mA z0)) (F0 m 234 ls [])) {H : Heap} {locs : List Loc} {μ : mM} {ls : Array Slot} {x1 : Int32} {x3 : Int32} {x5 : Int32} {s0 : Int32} (I : mI D cA z0 s μ H locs s.heap.size) (hf : f_Mo_write_223 h0 k kx234 μ x1 x3 x5 s0 = some r) (hl : lv_has ls 10 [(0, va_rf (some h0)), (1, .int x1), (3, .int x3), (5, .int x5)]) : W p l e rm_Mo_write s m args below meth c H locs 0 0 (MQ below (mQW D cA z0 (some (.int r.1)) r.2) args s 0 0 (mA z0)) (F0 m 223 ls [.int s0]) := by
  have hx := X.ex
  have hb := X.by_
  unfold f_Mo_write_223 at hf
  refine lv_istore (i := 4) (lv' := [(4, .int s0), (0, va_rf (some h0)), (1, .int x1), (3, .int x3), (5, .int x5)]) hx hb d_Mo_write_223 hl (by decide) rfl (fun ls hl => ?_)
  refine lv_iinc (i := 3) (k := 3) (v := (x3 + (4 : Int32))) (lv' := [(3, .int (x3 + (4 : Int32))), (4, .int s0), (0, va_rf (some h0)), (1, .int x1), (5, .int x5)]) hx hb d_Mo_write_225 hl rfl (congrArg (fun t => x3 + t) (by decide : Int32.ofInt (4) = (4 : Int32))) (by decide) rfl (fun ls hl => ?_)
  exact w_Mo_write_228 X G hk hkx234 I hf (lv_sub hl [2, 3, 0, 1, 4] rfl)

set_option maxHeartbeats 4000000 in
set_option maxRecDepth 100000 in
theorem w_Mo_write_202 {h0 : Nat} {r : Int32 × mM} (X : mX p m meth c s args b_Mo_write 10 (some .int) "ColourLinkerModel") (G : mG D cA dA z0 s) {k : mM → Int32 → Int32 → Int32 → Int32 → Option (Int32 × mM)} {kx234 : mM → Int32 → Option (Int32 × mM)} (hk : ∀ (H : Heap) (locs : List Loc) (μ : mM) (ls : Array Slot) (x1 : Int32) (x3 : Int32) (x4 : Int32) (x5 : Int32), mI D cA z0 s μ H locs s.heap.size → k μ x1 x3 x4 x5 = some r → lv_has ls 10 [(0, va_rf (some h0)), (1, .int x1), (3, .int x3), (4, .int x4), (5, .int x5)] → W p l e rm_Mo_write s m args below meth c H locs 0 0 (MQ below (mQW D cA z0 (some (.int r.1)) r.2) args s 0 0 (mA z0)) (F0 m 74 ls [])) (hkx234 : ∀ (H : Heap) (locs : List Loc) (μ : mM) (ls : Array Slot) (x4 : Int32), mI D cA z0 s μ H locs s.heap.size → kx234 μ x4 = some r → lv_has ls 10 [(0, va_rf (some h0)), (4, .int x4)] → W p l e rm_Mo_write s m args below meth c H locs 0 0 (MQ below (mQW D cA z0 (some (.int r.1)) r.2) args s 0 0 (mA z0)) (F0 m 234 ls [])) {H : Heap} {locs : List Loc} {μ : mM} {ls : Array Slot} {x1 : Int32} {x3 : Int32} {x4 : Int32} {x5 : Int32} {x7 : Int32} {x8 : Int32} (I : mI D cA z0 s μ H locs s.heap.size) (hf : f_Mo_write_202 h0 k kx234 μ x1 x3 x4 x5 x7 x8 = some r) (hl : lv_has ls 10 [(0, va_rf (some h0)), (1, .int x1), (3, .int x3), (4, .int x4), (5, .int x5), (7, .int x7), (8, .int x8)]) : W p l e rm_Mo_write s m args below meth c H locs 0 0 (MQ below (mQW D cA z0 (some (.int r.1)) r.2) args s 0 0 (mA z0)) (F0 m 202 ls []) := by
  have hx := X.ex
  have hb := X.by_
  unfold f_Mo_write_202 at hf
  refine lv_iload hx hb d_Mo_write_202 (lv_at hl 5 rfl) ?_
  refine lv_if_ge (tgt := 221) hx hb d_Mo_write_204 (by decide) (fun hc => ?_) (fun hc => ?_)
  · have hf := mift hf hc
    refine lv_iload hx hb d_Mo_write_221 (lv_at hl 3 rfl) ?_
    exact w_Mo_write_223 X G hk hkx234 I hf (lv_sub hl [0, 1, 2, 4] rfl)
  · have hf := miff hf hc
    refine lv_iload hx hb d_Mo_write_207 (lv_at hl 3 rfl) ?_
    refine lv_iload hx hb d_Mo_write_209 (lv_at hl 6 rfl) ?_
    refine lv_iadd hx hb d_Mo_write_211 ?_
    refine lv_iconst (v := 3) hx hb d_Mo_write_212 (by decide) ?_
    refine lv_iadd hx hb d_Mo_write_213 ?_
    refine lv_iconst (v := 4) hx hb d_Mo_write_214 (by decide) ?_
    refine lv_idiv hx hb d_Mo_write_215 (by decide) ?_
    refine lv_iconst (v := 4) hx hb d_Mo_write_216 (by decide) ?_
    refine lv_imul hx hb d_Mo_write_217 ?_
    refine lv_goto (tgt := 223) hx hb d_Mo_write_218 (by decide) ?_
    exact w_Mo_write_223 X G hk hkx234 I hf (lv_sub hl [0, 1, 2, 4] rfl)

set_option maxHeartbeats 4000000 in
set_option maxRecDepth 100000 in
theorem w_Mo_write_157 {h0 : Nat} {r : Int32 × mM} (X : mX p m meth c s args b_Mo_write 10 (some .int) "ColourLinkerModel") (G : mG D cA dA z0 s) {kx202 : mM → Int32 → Int32 → Int32 → Int32 → Int32 → Int32 → Option (Int32 × mM)} (hkx202 : ∀ (H : Heap) (locs : List Loc) (μ : mM) (ls : Array Slot) (x1 : Int32) (x3 : Int32) (x4 : Int32) (x5 : Int32) (x7 : Int32) (x8 : Int32), mI D cA z0 s μ H locs s.heap.size → kx202 μ x1 x3 x4 x5 x7 x8 = some r → lv_has ls 10 [(0, va_rf (some h0)), (1, .int x1), (3, .int x3), (4, .int x4), (5, .int x5), (7, .int x7), (8, .int x8)] → W p l e rm_Mo_write s m args below meth c H locs 0 0 (MQ below (mQW D cA z0 (some (.int r.1)) r.2) args s 0 0 (mA z0)) (F0 m 202 ls [])) : ∀ (n : Nat) (H : Heap) (locs : List Loc) (μ : mM) (ls : Array Slot) (x1 : Int32) (x3 : Int32) (x4 : Int32) (x5 : Int32) (x6 : Int32) (x7 : Int32) (x8 : Int32) (x9 : Int32), mI D cA z0 s μ H locs s.heap.size → f_Mo_write_157 h0 kx202 n μ x1 x3 x4 x5 x6 x7 x8 x9 = some r → lv_has ls 10 [(0, va_rf (some h0)), (1, .int x1), (3, .int x3), (4, .int x4), (5, .int x5), (6, .int x6), (7, .int x7), (8, .int x8), (9, .int x9)] → W p l e rm_Mo_write s m args below meth c H locs 0 0 (MQ below (mQW D cA z0 (some (.int r.1)) r.2) args s 0 0 (mA z0)) (F0 m 157 ls []) := by
  have hx := X.ex
  have hb := X.by_
  intro n
  induction n with
  | zero => intro H locs μ ls x1 x3 x4 x5 x6 x7 x8 x9 I hf hl; rw [f_Mo_write_157] at hf; cases hf
  | succ n ih =>
    intro H locs μ ls x1 x3 x4 x5 x6 x7 x8 x9 I hf hl
    rw [f_Mo_write_157] at hf
    refine lv_iload hx hb d_Mo_write_157 (lv_at hl 8 rfl) ?_
    refine lv_iload hx hb d_Mo_write_159 (lv_at hl 7 rfl) ?_
    refine lv_icmp_ge (tgt := 202) hx hb d_Mo_write_161 (by decide) (fun hc => ?_) (fun hc => ?_)
    · have hf := mift hf hc
      exact hkx202 _ _ _ _ _ _ _ _ _ _ I hf (lv_sub hl [0, 1, 2, 3, 4, 6, 7] rfl)
    · have hf := miff hf hc
      refine lv_iload hx hb d_Mo_write_164 (lv_at hl 6 rfl) ?_
      refine lv_if_ge (tgt := 202) hx hb d_Mo_write_166 (by decide) (fun hc => ?_) (fun hc => ?_)
      · have hf := mift hf hc
        exact hkx202 _ _ _ _ _ _ _ _ _ _ I hf (lv_sub hl [0, 1, 2, 3, 4, 6, 7] rfl)
      · have hf := miff hf hc
        refine r_aload_n X d_Mo_write_169 rfl (lv_at hl 0 rfl) ?_
        obtain ⟨v15, hv, hf⟩ := mbind hf
        refine r_getf X G I (mfA_e hv) o_Mo_buffer k_834 (Or.inl rfl) d_Mo_write_170 ?_
        refine lv_iload hx hb d_Mo_write_173 (lv_at hl 3 rfl) ?_
        refine lv_iload hx hb d_Mo_write_175 (lv_at hl 8 rfl) ?_
        refine lv_iadd hx hb d_Mo_write_177 ?_
        refine r_aload_n X d_Mo_write_178 rfl (lv_at hl 0 rfl) ?_
        refine lv_iload_n hx hb d_Mo_write_179 rfl (lv_at hl 1 rfl) ?_
        refine r_aload_n X d_Mo_write_180 rfl (lv_at hl 0 rfl) ?_
        refine lv_iload_n hx hb d_Mo_write_181 rfl (lv_at hl 1 rfl) ?_
        refine lv_iload hx hb d_Mo_write_182 (lv_at hl 5 rfl) ?_
        refine lv_iconst (v := 1) hx hb d_Mo_write_184 (by decide) ?_
        refine lv_iadd hx hb d_Mo_write_185 ?_
        obtain ⟨q16, hv, hf⟩ := mbind hf
        obtain ⟨a, ha, hv⟩ := mbind hv
        obtain ⟨ha, fs, hm⟩ := mrc_e ha
        refine m_caR (m_runV (As := [.int x1, .int (x6 + (1 : Int32))]) (r := some h0) (rest := [.int x1, va_rf (some h0), .int (x4 + x9), va_rf v15]) X G I h_Mo_part k_955 (c_Mo_part hv) mPr_blind (m_pre G I) hm rfl ha rfl rfl hl.1 (Nat.le_of_ble_eq_true rfl) rfl rfl ⟨Nat.le_of_ble_eq_true rfl, Nat.le_of_ble_eq_true rfl⟩ ⟨Nat.le_refl _, Nat.le_refl _⟩ d_Mo_write_186) ?_
        refine lv_iload hx hb d_Mo_write_189 (lv_at hl 8 rfl) ?_
        refine lv_iadd hx hb d_Mo_write_191 ?_
        obtain ⟨q17, hv, hf⟩ := mbind hf
        obtain ⟨a, ha, hv⟩ := mbind hv
        obtain ⟨ha, fs, hm⟩ := mrc_e ha
        refine m_caR (m_runV (As := [.int x1, .int (q16 + x9)]) (r := some h0) (rest := [.int (x4 + x9), va_rf v15]) X G I h_Mo_part k_955 (c_Mo_part hv) mPr_blind (m_pre G I) hm rfl ha rfl rfl hl.1 (Nat.le_of_ble_eq_true rfl) rfl rfl ⟨Nat.le_of_ble_eq_true rfl, Nat.le_of_ble_eq_true rfl⟩ ⟨Nat.le_refl _, Nat.le_refl _⟩ d_Mo_write_192) ?_
        obtain ⟨m18, hv, hf⟩ := mbind hf
        refine r_iast X G I hv d_Mo_write_195 (fun H locs I => ?_)
        refine lv_iinc (i := 9) (k := 8) (v := (x9 + (1 : Int32))) (lv' := [(9, .int (x9 + (1 : Int32))), (0, va_rf (some h0)), (1, .int x1), (3, .int x3), (4, .int x4), (5, .int x5), (6, .int x6), (7, .int x7), (8, .int x8)]) hx hb d_Mo_write_196 hl rfl (congrArg (fun t => x9 + t) (by decide : Int32.ofInt (1) = (1 : Int32))) (by decide) rfl (fun ls hl => ?_)
        refine lv_goto (tgt := 157) hx hb d_Mo_write_199 (by decide) ?_
        exact ih _ _ _ _ _ _ _ _ _ _ _ _ I hf (lv_sub hl [1, 2, 3, 4, 5, 6, 7, 8, 0] rfl)

set_option maxHeartbeats 4000000 in
set_option maxRecDepth 100000 in
theorem w_Mo_write_143 {h0 : Nat} {r : Int32 × mM} (X : mX p m meth c s args b_Mo_write 10 (some .int) "ColourLinkerModel") (G : mG D cA dA z0 s) {k : mM → Int32 → Int32 → Int32 → Int32 → Option (Int32 × mM)} {kx234 : mM → Int32 → Option (Int32 × mM)} (hk : ∀ (H : Heap) (locs : List Loc) (μ : mM) (ls : Array Slot) (x1 : Int32) (x3 : Int32) (x4 : Int32) (x5 : Int32), mI D cA z0 s μ H locs s.heap.size → k μ x1 x3 x4 x5 = some r → lv_has ls 10 [(0, va_rf (some h0)), (1, .int x1), (3, .int x3), (4, .int x4), (5, .int x5)] → W p l e rm_Mo_write s m args below meth c H locs 0 0 (MQ below (mQW D cA z0 (some (.int r.1)) r.2) args s 0 0 (mA z0)) (F0 m 74 ls [])) (hkx234 : ∀ (H : Heap) (locs : List Loc) (μ : mM) (ls : Array Slot) (x4 : Int32), mI D cA z0 s μ H locs s.heap.size → kx234 μ x4 = some r → lv_has ls 10 [(0, va_rf (some h0)), (4, .int x4)] → W p l e rm_Mo_write s m args below meth c H locs 0 0 (MQ below (mQW D cA z0 (some (.int r.1)) r.2) args s 0 0 (mA z0)) (F0 m 234 ls [])) {H : Heap} {locs : List Loc} {μ : mM} {ls : Array Slot} {x1 : Int32} {x3 : Int32} {x4 : Int32} {x5 : Int32} {x6 : Int32} {x7 : Int32} {x8 : Int32} {s0 : Option Nat} {s1 : Int32} {s2 : Int32} (I : mI D cA z0 s μ H locs s.heap.size) (hf : f_Mo_write_143 h0 k kx234 μ x1 x3 x4 x5 x6 x7 x8 s0 s1 s2 = some r) (hl : lv_has ls 10 [(0, va_rf (some h0)), (1, .int x1), (3, .int x3), (4, .int x4), (5, .int x5), (6, .int x6), (7, .int x7), (8, .int x8)]) : W p l e rm_Mo_write s m args below meth c H locs 0 0 (MQ below (mQW D cA z0 (some (.int r.1)) r.2) args s 0 0 (mA z0)) (F0 m 143 ls [.int s2, .int s1, va_rf s0]) := by
  have hx := X.ex
  have hb := X.by_
  unfold f_Mo_write_143 at hf
  obtain ⟨m12, hv, hf⟩ := mbind hf
  refine r_iast X G I hv d_Mo_write_143 (fun H locs I => ?_)
  refine r_aload_n X d_Mo_write_144 rfl (lv_at hl 0 rfl) ?_
  obtain ⟨v13, hv, hf⟩ := mbind hf
  refine r_getf X G I (mfA_e hv) o_Mo_buffer k_834 (Or.inl rfl) d_Mo_write_145 ?_
  refine lv_iload_n hx hb d_Mo_write_148 rfl (lv_at hl 2 rfl) ?_
  refine lv_iconst (v := 2) hx hb d_Mo_write_149 (by decide) ?_
  refine lv_iadd hx hb d_Mo_write_150 ?_
  refine lv_iload hx hb d_Mo_write_151 (lv_at hl 7 rfl) ?_
  obtain ⟨m14, hv, hf⟩ := mbind hf
  refine r_iast X G I hv d_Mo_write_153 (fun H locs I => ?_)
  refine lv_iconst (v := 0) hx hb d_Mo_write_154 (by decide) ?_
  refine lv_istore (i := 9) (lv' := [(9, .int (0 : Int32)), (0, va_rf (some h0)), (1, .int x1), (3, .int x3), (4, .int x4), (5, .int x5), (6, .int x6), (7, .int x7), (8, .int x8)]) hx hb d_Mo_write_155 hl (by decide) rfl (fun ls hl => ?_)
  exact w_Mo_write_157 X G (fun H locs μ ls x1 x3 x4 x5 x7 x8 I hf hl => w_Mo_write_202 X G hk hkx234 I hf hl) 4096 _ _ _ _ _ _ _ _ _ _ _ _ I hf (lv_sub hl [1, 2, 3, 4, 5, 6, 7, 8, 0] rfl)

set_option maxHeartbeats 4000000 in
set_option maxRecDepth 100000 in
theorem w_Mo_write_74 {h0 : Nat} {r : Int32 × mM} (X : mX p m meth c s args b_Mo_write 10 (some .int) "ColourLinkerModel") (G : mG D cA dA z0 s) {kx234 : mM → Int32 → Option (Int32 × mM)} (hkx234 : ∀ (H : Heap) (locs : List Loc) (μ : mM) (ls : Array Slot) (x4 : Int32), mI D cA z0 s μ H locs s.heap.size → kx234 μ x4 = some r → lv_has ls 10 [(0, va_rf (some h0)), (4, .int x4)] → W p l e rm_Mo_write s m args below meth c H locs 0 0 (MQ below (mQW D cA z0 (some (.int r.1)) r.2) args s 0 0 (mA z0)) (F0 m 234 ls [])) : ∀ (n : Nat) (H : Heap) (locs : List Loc) (μ : mM) (ls : Array Slot) (x1 : Int32) (x3 : Int32) (x4 : Int32) (x5 : Int32), mI D cA z0 s μ H locs s.heap.size → f_Mo_write_74 h0 kx234 n μ x1 x3 x4 x5 = some r → lv_has ls 10 [(0, va_rf (some h0)), (1, .int x1), (3, .int x3), (4, .int x4), (5, .int x5)] → W p l e rm_Mo_write s m args below meth c H locs 0 0 (MQ below (mQW D cA z0 (some (.int r.1)) r.2) args s 0 0 (mA z0)) (F0 m 74 ls []) := by
  have hx := X.ex
  have hb := X.by_
  intro n
  induction n with
  | zero => intro H locs μ ls x1 x3 x4 x5 I hf hl; rw [f_Mo_write_74] at hf; cases hf
  | succ n ih =>
    intro H locs μ ls x1 x3 x4 x5 I hf hl
    rw [f_Mo_write_74] at hf
    refine lv_iload hx hb d_Mo_write_74 (lv_at hl 4 rfl) ?_
    refine lv_bipush (v := 12) hx hb d_Mo_write_76 (by decide) ?_
    refine lv_icmp_gt (tgt := 234) hx hb d_Mo_write_78 (by decide) (fun hc => ?_) (fun hc => ?_)
    · have hf := mift hf hc
      exact hkx234 _ _ _ _ _ I hf (lv_sub hl [0, 3] rfl)
    · have hf := miff hf hc
      refine r_aload_n X d_Mo_write_81 rfl (lv_at hl 0 rfl) ?_
      refine lv_iload_n hx hb d_Mo_write_82 rfl (lv_at hl 1 rfl) ?_
      refine lv_iload hx hb d_Mo_write_83 (lv_at hl 4 rfl) ?_
      obtain ⟨q6, hv, hf⟩ := mbind hf
      obtain ⟨a, ha, hv⟩ := mbind hv
      obtain ⟨ha, fs, hm⟩ := mrc_e ha
      refine m_caR (m_runV (As := [.int x1, .int x5]) (r := some h0) (rest := []) X G I h_Mo_entry k_951 (c_Mo_entry hv) mPr_blind (m_pre G I) hm rfl ha rfl rfl hl.1 (Nat.le_of_ble_eq_true rfl) rfl rfl ⟨Nat.le_of_ble_eq_true rfl, Nat.le_of_ble_eq_true rfl⟩ ⟨Nat.le_refl _, Nat.le_refl _⟩ d_Mo_write_85) ?_
      refine lv_istore (i := 6) (lv' := [(6, .int q6), (0, va_rf (some h0)), (1, .int x1), (3, .int x3), (4, .int x4), (5, .int x5)]) hx hb d_Mo_write_88 hl (by decide) rfl (fun ls hl => ?_)
      refine lv_iload hx hb d_Mo_write_90 (lv_at hl 0 rfl) ?_
      refine lv_if_le (tgt := 228) hx hb d_Mo_write_92 (by decide) (fun hc => ?_) (fun hc => ?_)
      · have hf := mift hf hc
        exact w_Mo_write_228 X G ih hkx234 I hf (lv_sub hl [1, 2, 3, 4, 5] rfl)
      · have hf := miff hf hc
        refine r_aload_n X d_Mo_write_95 rfl (lv_at hl 1 rfl) ?_
        refine lv_iload_n hx hb d_Mo_write_96 rfl (lv_at hl 2 rfl) ?_
        refine lv_iload hx hb d_Mo_write_97 (lv_at hl 0 rfl) ?_
        refine lv_iload_n hx hb d_Mo_write_99 rfl (lv_at hl 3 rfl) ?_
        obtain ⟨q7, hv, hf⟩ := mbind hf
        obtain ⟨a, ha, hv⟩ := mbind hv
        obtain ⟨ha, fs, hm⟩ := mrc_e ha
        refine m_caR (m_runV (As := [.int x1, .int q6, .int x3]) (r := some h0) (rest := []) X G I h_Mo_written k_971 (c_Mo_written hv) mPr_blind (m_pre G I) hm rfl ha rfl rfl hl.1 (Nat.le_of_ble_eq_true rfl) rfl rfl ⟨Nat.le_of_ble_eq_true rfl, Nat.le_of_ble_eq_true rfl⟩ ⟨Nat.le_refl _, Nat.le_refl _⟩ d_Mo_write_100) ?_
        refine lv_istore (i := 7) (lv' := [(7, .int q7), (6, .int q6), (0, va_rf (some h0)), (1, .int x1), (3, .int x3), (4, .int x4), (5, .int x5)]) hx hb d_Mo_write_103 hl (by decide) rfl (fun ls hl => ?_)
        refine r_aload_n X d_Mo_write_105 rfl (lv_at hl 2 rfl) ?_
        refine lv_iload_n hx hb d_Mo_write_106 rfl (lv_at hl 3 rfl) ?_
        refine lv_iload hx hb d_Mo_write_107 (lv_at hl 1 rfl) ?_
        refine lv_iconst (v := 2) hx hb d_Mo_write_109 (by decide) ?_
        refine lv_iadd hx hb d_Mo_write_110 ?_
        obtain ⟨q8, hv, hf⟩ := mbind hf
        obtain ⟨a, ha, hv⟩ := mbind hv
        obtain ⟨ha, fs, hm⟩ := mrc_e ha
        refine m_caR (m_runV (As := [.int x1, .int (q6 + (2 : Int32))]) (r := some h0) (rest := []) X G I h_Mo_part k_955 (c_Mo_part hv) mPr_blind (m_pre G I) hm rfl ha rfl rfl hl.1 (Nat.le_of_ble_eq_true rfl) rfl rfl ⟨Nat.le_of_ble_eq_true rfl, Nat.le_of_ble_eq_true rfl⟩ ⟨Nat.le_refl _, Nat.le_refl _⟩ d_Mo_write_111) ?_
        refine lv_istore (i := 8) (lv' := [(8, .int q8), (7, .int q7), (6, .int q6), (0, va_rf (some h0)), (1, .int x1), (3, .int x3), (4, .int x4), (5, .int x5)]) hx hb d_Mo_write_114 hl (by decide) rfl (fun ls hl => ?_)
        refine r_aload_n X d_Mo_write_116 rfl (lv_at hl 3 rfl) ?_
        obtain ⟨v9, hv, hf⟩ := mbind hf
        refine r_getf X G I (mfA_e hv) o_Mo_buffer k_834 (Or.inl rfl) d_Mo_write_117 ?_
        refine lv_iload_n hx hb d_Mo_write_120 rfl (lv_at hl 5 rfl) ?_
        refine lv_iload hx hb d_Mo_write_121 (lv_at hl 7 rfl) ?_
        obtain ⟨m10, hv, hf⟩ := mbind hf
        refine r_iast X G I hv d_Mo_write_123 (fun H locs I => ?_)
        refine r_aload_n X d_Mo_write_124 rfl (lv_at hl 3 rfl) ?_
        obtain ⟨v11, hv, hf⟩ := mbind hf
        refine r_getf X G I (mfA_e hv) o_Mo_buffer k_834 (Or.inl rfl) d_Mo_write_125 ?_
        refine lv_iload_n hx hb d_Mo_write_128 rfl (lv_at hl 5 rfl) ?_
        refine lv_iconst (v := 1) hx hb d_Mo_write_129 (by decide) ?_
        refine lv_iadd hx hb d_Mo_write_130 ?_
        refine lv_iload hx hb d_Mo_write_131 (lv_at hl 1 rfl) ?_
        refine lv_if_ge (tgt := 141) hx hb d_Mo_write_133 (by decide) (fun hc => ?_) (fun hc => ?_)
        · have hf := mift hf hc
          refine lv_iload hx hb d_Mo_write_141 (lv_at hl 1 rfl) ?_
          exact w_Mo_write_143 X G ih hkx234 I hf (lv_sub hl [3, 4, 5, 6, 7, 2, 1, 0] rfl)
        · have hf := miff hf hc
          refine lv_iload hx hb d_Mo_write_136 (lv_at hl 6 rfl) ?_
          refine lv_goto (tgt := 143) hx hb d_Mo_write_138 (by decide) ?_
          exact w_Mo_write_143 X G ih hkx234 I hf (lv_sub hl [3, 4, 5, 6, 7, 2, 1, 0] rfl)

set_option maxHeartbeats 4000000 in
set_option maxRecDepth 100000 in
theorem w_Mo_write_60 {h0 : Nat} {r : Int32 × mM} (X : mX p m meth c s args b_Mo_write 10 (some .int) "ColourLinkerModel") (G : mG D cA dA z0 s) {H : Heap} {locs : List Loc} {μ : mM} {ls : Array Slot} {x1 : Int32} {x2 : Int32} (I : mI D cA z0 s μ H locs s.heap.size) (hf : f_Mo_write_60 h0 μ x1 x2 = some r) (hl : lv_has ls 10 [(0, va_rf (some h0)), (1, .int x1), (2, .int x2)]) : W p l e rm_Mo_write s m args below meth c H locs 0 0 (MQ below (mQW D cA z0 (some (.int r.1)) r.2) args s 0 0 (mA z0)) (F0 m 60 ls []) := by
  have hx := X.ex
  have hb := X.by_
  unfold f_Mo_write_60 at hf
  refine lv_bipush (v := 8) hx hb d_Mo_write_60 (by decide) ?_
  refine lv_istore_n (i := 3) (lv' := [(3, .int (8 : Int32)), (0, va_rf (some h0)), (1, .int x1), (2, .int x2)]) hx hb d_Mo_write_62 rfl hl (by decide) rfl (fun ls hl => ?_)
  refine lv_bipush (v := 8) hx hb d_Mo_write_63 (by decide) ?_
  refine lv_iconst (v := 4) hx hb d_Mo_write_65 (by decide) ?_
  refine lv_iload_n hx hb d_Mo_write_66 rfl (lv_at hl 3 rfl) ?_
  refine lv_imul hx hb d_Mo_write_67 ?_
  refine lv_iadd hx hb d_Mo_write_68 ?_
  refine lv_istore (i := 4) (lv' := [(4, .int ((8 : Int32) + ((4 : Int32) * x2))), (3, .int (8 : Int32)), (0, va_rf (some h0)), (1, .int x1), (2, .int x2)]) hx hb d_Mo_write_69 hl (by decide) rfl (fun ls hl => ?_)
  refine lv_iconst (v := 1) hx hb d_Mo_write_71 (by decide) ?_
  refine lv_istore (i := 5) (lv' := [(5, .int (1 : Int32)), (4, .int ((8 : Int32) + ((4 : Int32) * x2))), (3, .int (8 : Int32)), (0, va_rf (some h0)), (1, .int x1), (2, .int x2)]) hx hb d_Mo_write_72 hl (by decide) rfl (fun ls hl => ?_)
  exact w_Mo_write_74 X G (fun H locs μ ls x4 I hf hl => w_Mo_write_234 X G I hf hl) 4096 _ _ _ _ _ _ _ _ I hf (lv_sub hl [3, 4, 2, 1, 0] rfl)

set_option maxHeartbeats 4000000 in
set_option maxRecDepth 100000 in
theorem w_Mo_write_53 {h0 : Nat} {r : Int32 × mM} (X : mX p m meth c s args b_Mo_write 10 (some .int) "ColourLinkerModel") (G : mG D cA dA z0 s) {k : mM → Int32 → Int32 → Int32 → Option (Int32 × mM)} {kx60 : mM → Int32 → Int32 → Option (Int32 × mM)} (hk : ∀ (H : Heap) (locs : List Loc) (μ : mM) (ls : Array Slot) (x1 : Int32) (x2 : Int32) (x3 : Int32), mI D cA z0 s μ H locs s.heap.size → k μ x1 x2 x3 = some r → lv_has ls 10 [(0, va_rf (some h0)), (1, .int x1), (2, .int x2), (3, .int x3)] → W p l e rm_Mo_write s m args below meth c H locs 0 0 (MQ below (mQW D cA z0 (some (.int r.1)) r.2) args s 0 0 (mA z0)) (F0 m 20 ls [])) (hkx60 : ∀ (H : Heap) (locs : List Loc) (μ : mM) (ls : Array Slot) (x1 : Int32) (x2 : Int32), mI D cA z0 s μ H locs s.heap.size → kx60 μ x1 x2 = some r → lv_has ls 10 [(0, va_rf (some h0)), (1, .int x1), (2, .int x2)] → W p l e rm_Mo_write s m args below meth c H locs 0 0 (MQ below (mQW D cA z0 (some (.int r.1)) r.2) args s 0 0 (mA z0)) (F0 m 60 ls [])) {H : Heap} {locs : List Loc} {μ : mM} {ls : Array Slot} {x1 : Int32} {x2 : Int32} {x3 : Int32} {s0 : Option Nat} {s1 : Int32} {s2 : Int32} (I : mI D cA z0 s μ H locs s.heap.size) (hf : f_Mo_write_53 h0 k kx60 μ x1 x2 x3 s0 s1 s2 = some r) (hl : lv_has ls 10 [(0, va_rf (some h0)), (1, .int x1), (2, .int x2), (3, .int x3)]) : W p l e rm_Mo_write s m args below meth c H locs 0 0 (MQ below (mQW D cA z0 (some (.int r.1)) r.2) args s 0 0 (mA z0)) (F0 m 53 ls [.int s2, .int s1, va_rf s0]) := by
  have hx := X.ex
  have hb := X.by_
  unfold f_Mo_write_53 at hf
  obtain ⟨m5, hv, hf⟩ := mbind hf
  refine r_iast X G I hv d_Mo_write_53 (fun H locs I => ?_)
  refine lv_iinc (i := 3) (k := 3) (v := (x3 + (1 : Int32))) (lv' := [(3, .int (x3 + (1 : Int32))), (0, va_rf (some h0)), (1, .int x1), (2, .int x2)]) hx hb d_Mo_write_54 hl rfl (congrArg (fun t => x3 + t) (by decide : Int32.ofInt (1) = (1 : Int32))) (by decide) rfl (fun ls hl => ?_)
  refine lv_goto (tgt := 20) hx hb d_Mo_write_57 (by decide) ?_
  exact hk _ _ _ _ _ _ _ I hf (lv_sub hl [1, 2, 3, 0] rfl)

set_option maxHeartbeats 4000000 in
set_option maxRecDepth 100000 in
theorem w_Mo_write_52 {h0 : Nat} {r : Int32 × mM} (X : mX p m meth c s args b_Mo_write 10 (some .int) "ColourLinkerModel") (G : mG D cA dA z0 s) {k : mM → Int32 → Int32 → Int32 → Option (Int32 × mM)} {kx60 : mM → Int32 → Int32 → Option (Int32 × mM)} (hk : ∀ (H : Heap) (locs : List Loc) (μ : mM) (ls : Array Slot) (x1 : Int32) (x2 : Int32) (x3 : Int32), mI D cA z0 s μ H locs s.heap.size → k μ x1 x2 x3 = some r → lv_has ls 10 [(0, va_rf (some h0)), (1, .int x1), (2, .int x2), (3, .int x3)] → W p l e rm_Mo_write s m args below meth c H locs 0 0 (MQ below (mQW D cA z0 (some (.int r.1)) r.2) args s 0 0 (mA z0)) (F0 m 20 ls [])) (hkx60 : ∀ (H : Heap) (locs : List Loc) (μ : mM) (ls : Array Slot) (x1 : Int32) (x2 : Int32), mI D cA z0 s μ H locs s.heap.size → kx60 μ x1 x2 = some r → lv_has ls 10 [(0, va_rf (some h0)), (1, .int x1), (2, .int x2)] → W p l e rm_Mo_write s m args below meth c H locs 0 0 (MQ below (mQW D cA z0 (some (.int r.1)) r.2) args s 0 0 (mA z0)) (F0 m 60 ls [])) {H : Heap} {locs : List Loc} {μ : mM} {ls : Array Slot} {x1 : Int32} {x2 : Int32} {x3 : Int32} {s0 : Option Nat} {s1 : Int32} (I : mI D cA z0 s μ H locs s.heap.size) (hf : f_Mo_write_52 h0 k kx60 μ x1 x2 x3 s0 s1 = some r) (hl : lv_has ls 10 [(0, va_rf (some h0)), (1, .int x1), (2, .int x2), (3, .int x3)]) : W p l e rm_Mo_write s m args below meth c H locs 0 0 (MQ below (mQW D cA z0 (some (.int r.1)) r.2) args s 0 0 (mA z0)) (F0 m 52 ls [.int s1, va_rf s0]) := by
  have hx := X.ex
  have hb := X.by_
  unfold f_Mo_write_52 at hf
  refine lv_iconst (v := 0) hx hb d_Mo_write_52 (by decide) ?_
  exact w_Mo_write_53 X G hk hkx60 I hf hl

set_option maxHeartbeats 4000000 in
set_option maxRecDepth 100000 in
theorem w_Mo_write_20 {h0 : Nat} {r : Int32 × mM} (X : mX p m meth c s args b_Mo_write 10 (some .int) "ColourLinkerModel") (G : mG D cA dA z0 s) {kx60 : mM → Int32 → Int32 → Option (Int32 × mM)} (hkx60 : ∀ (H : Heap) (locs : List Loc) (μ : mM) (ls : Array Slot) (x1 : Int32) (x2 : Int32), mI D cA z0 s μ H locs s.heap.size → kx60 μ x1 x2 = some r → lv_has ls 10 [(0, va_rf (some h0)), (1, .int x1), (2, .int x2)] → W p l e rm_Mo_write s m args below meth c H locs 0 0 (MQ below (mQW D cA z0 (some (.int r.1)) r.2) args s 0 0 (mA z0)) (F0 m 60 ls [])) : ∀ (n : Nat) (H : Heap) (locs : List Loc) (μ : mM) (ls : Array Slot) (x1 : Int32) (x2 : Int32) (x3 : Int32), mI D cA z0 s μ H locs s.heap.size → f_Mo_write_20 h0 kx60 n μ x1 x2 x3 = some r → lv_has ls 10 [(0, va_rf (some h0)), (1, .int x1), (2, .int x2), (3, .int x3)] → W p l e rm_Mo_write s m args below meth c H locs 0 0 (MQ below (mQW D cA z0 (some (.int r.1)) r.2) args s 0 0 (mA z0)) (F0 m 20 ls []) := by
  have hx := X.ex
  have hb := X.by_
  intro n
  induction n with
  | zero => intro H locs μ ls x1 x2 x3 I hf hl; rw [f_Mo_write_20] at hf; cases hf
  | succ n ih =>
    intro H locs μ ls x1 x2 x3 I hf hl
    rw [f_Mo_write_20] at hf
    refine lv_iload_n hx hb d_Mo_write_20 rfl (lv_at hl 3 rfl) ?_
    refine lv_sipush (v := 256) hx hb d_Mo_write_21 (by decide) ?_
    refine lv_icmp_ge (tgt := 60) hx hb d_Mo_write_24 (by decide) (fun hc => ?_) (fun hc => ?_)
    · have hf := mift hf hc
      exact hkx60 _ _ _ _ _ _ I hf (lv_sub hl [0, 1, 2] rfl)
    · have hf := miff hf hc
      refine r_aload_n X d_Mo_write_27 rfl (lv_at hl 0 rfl) ?_
      obtain ⟨v3, hv, hf⟩ := mbind hf
      refine r_getf X G I (mfA_e hv) o_Mo_buffer k_834 (Or.inl rfl) d_Mo_write_28 ?_
      refine lv_iload_n hx hb d_Mo_write_31 rfl (lv_at hl 3 rfl) ?_
      refine lv_iload_n hx hb d_Mo_write_32 rfl (lv_at hl 3 rfl) ?_
      refine lv_iconst (v := 2) hx hb d_Mo_write_33 (by decide) ?_
      refine lv_icmp_lt (tgt := 52) hx hb d_Mo_write_34 (by decide) (fun hc => ?_) (fun hc => ?_)
      · have hf := mift hf hc
        exact w_Mo_write_52 X G ih hkx60 I hf hl
      · have hf := miff hf hc
        refine lv_iload_n hx hb d_Mo_write_37 rfl (lv_at hl 3 rfl) ?_
        refine lv_bipush (v := 8) hx hb d_Mo_write_38 (by decide) ?_
        refine lv_icmp_ge (tgt := 52) hx hb d_Mo_write_40 (by decide) (fun hc => ?_) (fun hc => ?_)
        · have hf := mift hf hc
          exact w_Mo_write_52 X G ih hkx60 I hf hl
        · have hf := miff hf hc
          refine r_aload_n X d_Mo_write_43 rfl (lv_at hl 0 rfl) ?_
          refine lv_iload_n hx hb d_Mo_write_44 rfl (lv_at hl 1 rfl) ?_
          refine lv_iload_n hx hb d_Mo_write_45 rfl (lv_at hl 3 rfl) ?_
          obtain ⟨q4, hv, hf⟩ := mbind hf
          obtain ⟨a, ha, hv⟩ := mbind hv
          obtain ⟨ha, fs, hm⟩ := mrc_e ha
          refine m_caR (m_runV (As := [.int x1, .int x3]) (r := some h0) (rest := [.int x3, va_rf v3]) X G I h_Mo_part k_955 (c_Mo_part hv) mPr_blind (m_pre G I) hm rfl ha rfl rfl hl.1 (Nat.le_of_ble_eq_true rfl) rfl rfl ⟨Nat.le_of_ble_eq_true rfl, Nat.le_of_ble_eq_true rfl⟩ ⟨Nat.le_refl _, Nat.le_refl _⟩ d_Mo_write_46) ?_
          refine lv_goto (tgt := 53) hx hb d_Mo_write_49 (by decide) ?_
          exact w_Mo_write_53 X G ih hkx60 I hf hl

set_option maxHeartbeats 4000000 in
set_option maxRecDepth 100000 in
theorem w_Mo_write {h0 : Nat} {r : Int32 × mM} (X : mX p m meth c s args b_Mo_write 10 (some .int) "ColourLinkerModel") (G : mG D cA dA z0 s) {H : Heap} {locs : List Loc} {μ : mM} {ls : Array Slot} {x1 : Int32} (I : mI D cA z0 s μ H locs s.heap.size) (hf : f_Mo_write h0 μ x1 = some r) (hl : lv_has ls 10 [(0, va_rf (some h0)), (1, .int x1)]) : W p l e rm_Mo_write s m args below meth c H locs 0 0 (MQ below (mQW D cA z0 (some (.int r.1)) r.2) args s 0 0 (mA z0)) (F0 m 0 ls []) := by
  have hx := X.ex
  have hb := X.by_
  unfold f_Mo_write at hf
  refine r_aload_n X d_Mo_write_0 rfl (lv_at hl 0 rfl) ?_
  refine lv_iload_n hx hb d_Mo_write_1 rfl (lv_at hl 1 rfl) ?_
  obtain ⟨q1, hv, hf⟩ := mbind hf
  obtain ⟨a, ha, hv⟩ := mbind hv
  obtain ⟨ha, fs, hm⟩ := mrc_e ha
  refine m_caR (m_runV (As := [.int x1]) (r := some h0) (rest := []) X G I h_Mo_there k_943 (c_Mo_there hv) mPr_blind (m_pre G I) hm rfl ha rfl rfl hl.1 (Nat.le_of_ble_eq_true rfl) rfl rfl ⟨Nat.le_of_ble_eq_true rfl, Nat.le_of_ble_eq_true rfl⟩ ⟨Nat.le_refl _, Nat.le_refl _⟩ d_Mo_write_2) ?_
  refine lv_if_ne (tgt := 10) hx hb d_Mo_write_5 (by decide) (fun hc => ?_) (fun hc => ?_)
  · have hf := miff hf hc
    refine r_aload_n X d_Mo_write_10 rfl (lv_at hl 0 rfl) ?_
    refine lv_iload_n hx hb d_Mo_write_11 rfl (lv_at hl 1 rfl) ?_
    refine lv_bipush (v := 6) hx hb d_Mo_write_12 (by decide) ?_
    obtain ⟨q2, hv, hf⟩ := mbind hf
    obtain ⟨a, ha, hv⟩ := mbind hv
    obtain ⟨ha, fs, hm⟩ := mrc_e ha
    refine m_caR (m_runV (As := [.int x1, .int (6 : Int32)]) (r := some h0) (rest := []) X G I h_Mo_part k_955 (c_Mo_part hv) mPr_blind (m_pre G I) hm rfl ha rfl rfl hl.1 (Nat.le_of_ble_eq_true rfl) rfl rfl ⟨Nat.le_of_ble_eq_true rfl, Nat.le_of_ble_eq_true rfl⟩ ⟨Nat.le_refl _, Nat.le_refl _⟩ d_Mo_write_14) ?_
    refine lv_istore_n (i := 2) (lv' := [(2, .int q2), (0, va_rf (some h0)), (1, .int x1)]) hx hb d_Mo_write_17 rfl hl (by decide) rfl (fun ls hl => ?_)
    refine lv_iconst (v := 0) hx hb d_Mo_write_18 (by decide) ?_
    refine lv_istore_n (i := 3) (lv' := [(3, .int (0 : Int32)), (2, .int q2), (0, va_rf (some h0)), (1, .int x1)]) hx hb d_Mo_write_19 rfl hl (by decide) rfl (fun ls hl => ?_)
    exact w_Mo_write_20 X G (fun H locs μ ls x1 x2 I hf hl => w_Mo_write_60 X G I hf hl) 4096 _ _ _ _ _ _ _ I hf (lv_sub hl [2, 3, 1, 0] rfl)
  · have hf := mift hf hc
    refine lv_iconst (v := -1) hx hb d_Mo_write_8 (by decide) ?_
    obtain rfl := Option.some.inj hf
    exact r_iretW X I d_Mo_write_9

set_option maxHeartbeats 4000000 in
set_option maxRecDepth 100000 in
theorem c_Mo_write {l : Launch} {D : va_G} {cA : Nat → ClassId} {dA z0 : Nat} {μ : mM} {h0 : Nat} {x1 : Int32} {r : Int32 × mM} (hf : f_Mo_write h0 μ x1 = some r) : Met l y_Mo_write (mW y_Mo_write b_Mo_write 10 (some .int)) rm_Mo_write (va_Pc [.ref h0, .int x1] (mPr D cA dA z0 μ)) (mQW D cA z0 (some (.int r.1)) r.2) 0 0 (mA z0) := by
  refine Met.ofW (cc := b_Mo_write) (maxL := 10) (ret := (some .int)) (by decide) rfl ?_
  intro p e s m args below meth c s₁ B hml hv
  obtain ⟨rfl, G, hP⟩ := hv
  have X := mX.of B hml
  exact m_entry (lv := [(0, va_rf (some h0)), (1, .int x1)]) (Nat.le_of_ble_eq_true rfl) rfl (fun ls hl => w_Mo_write X G (mI.start hP) hf hl)

abbrev rm_CL_isLevel : Room := { frames := 0, cells := 0, slots := 0, locals := 0 }
theorem h_CL_isLevel : mCS y_CL_isLevel b_CL_isLevel 1 (some .boolean) 1 := ⟨k_644, k_75, ⟨by decide, by decide, by decide +kernel⟩, k_643⟩
set_option maxHeartbeats 4000000 in
set_option maxRecDepth 100000 in
theorem w_CL_isLevel_15 {μ : mM} {r : Int32} (X : mX p m meth c s args b_CL_isLevel 1 (some .boolean) "ColourLinker") (G : mG D cA dA z0 s) (I : mI D cA z0 s μ s.heap [] s.heap.size) {ls : Array Slot} {s0 : Int32} (hf : f_CL_isLevel_15 μ s0 = some r) (hl : lv_has ls 1 []) : W p l e rm_CL_isLevel s m args below meth c s.heap [] 0 0 (MQ below (mQR (some (.int r))) args s 0 0 (fun _ => False)) (F0 m 15 ls [.int s0]) := by
  have hx := X.ex
  have hb := X.by_
  unfold f_CL_isLevel_15 at hf
  obtain ⟨v1, hv, hf⟩ := mbind hf
  obtain ⟨hz0, hz⟩ := mz_e hv
  rw [hz0] at hf
  obtain rfl := Option.some.inj hf
  exact r_zretR X hz d_CL_isLevel_15

set_option maxHeartbeats 4000000 in
set_option maxRecDepth 100000 in
theorem w_CL_isLevel_14 {μ : mM} {r : Int32} (X : mX p m meth c s args b_CL_isLevel 1 (some .boolean) "ColourLinker") (G : mG D cA dA z0 s) (I : mI D cA z0 s μ s.heap [] s.heap.size) {ls : Array Slot}  (hf : f_CL_isLevel_14 μ = some r) (hl : lv_has ls 1 []) : W p l e rm_CL_isLevel s m args below meth c s.heap [] 0 0 (MQ below (mQR (some (.int r))) args s 0 0 (fun _ => False)) (F0 m 14 ls []) := by
  have hx := X.ex
  have hb := X.by_
  unfold f_CL_isLevel_14 at hf
  refine lv_iconst (v := 0) hx hb d_CL_isLevel_14 (by decide) ?_
  exact w_CL_isLevel_15 X G I hf hl

set_option maxHeartbeats 4000000 in
set_option maxRecDepth 100000 in
theorem w_CL_isLevel {μ : mM} {r : Int32} (X : mX p m meth c s args b_CL_isLevel 1 (some .boolean) "ColourLinker") (G : mG D cA dA z0 s) (I : mI D cA z0 s μ s.heap [] s.heap.size) {ls : Array Slot} {x0 : Int32} (hf : f_CL_isLevel μ x0 = some r) (hl : lv_has ls 1 [(0, .int x0)]) : W p l e rm_CL_isLevel s m args below meth c s.heap [] 0 0 (MQ below (mQR (some (.int r))) args s 0 0 (fun _ => False)) (F0 m 0 ls []) := by
  have hx := X.ex
  have hb := X.by_
  unfold f_CL_isLevel at hf
  refine lv_iload_n hx hb d_CL_isLevel_0 rfl (lv_at hl 0 rfl) ?_
  refine lv_if_lt (tgt := 14) hx hb d_CL_isLevel_1 (by decide) (fun hc => ?_) (fun hc => ?_)
  · have hf := mift hf hc
    exact w_CL_isLevel_14 X G I hf (lv_sub hl [] rfl)
  · have hf := miff hf hc
    refine lv_iload_n hx hb d_CL_isLevel_4 rfl (lv_at hl 0 rfl) ?_
    refine lv_ldc (v := 65535) hx hb X.ow (X.w k_645) d_CL_isLevel_5 ?_
    refine lv_icmp_gt (tgt := 14) hx hb d_CL_isLevel_7 (by decide) (fun hc => ?_) (fun hc => ?_)
    · have hf := mift hf hc
      exact w_CL_isLevel_14 X G I hf (lv_sub hl [] rfl)
    · have hf := miff hf hc
      refine lv_iconst (v := 1) hx hb d_CL_isLevel_10 (by decide) ?_
      refine lv_goto (tgt := 15) hx hb d_CL_isLevel_11 (by decide) ?_
      exact w_CL_isLevel_15 X G I hf (lv_sub hl [] rfl)

set_option maxHeartbeats 4000000 in
set_option maxRecDepth 100000 in
theorem c_CL_isLevel {l : Launch} {D : va_G} {cA : Nat → ClassId} {dA z0 : Nat} {μ : mM} {x0 : Int32} {r : Int32} (hf : f_CL_isLevel μ x0 = some r) : Met l y_CL_isLevel (mW y_CL_isLevel b_CL_isLevel 1 (some .boolean)) rm_CL_isLevel (va_Pc [.int x0] (mPr D cA dA z0 μ)) (mQR (some (.int r))) 0 0 (fun _ => False) := by
  refine Met.ofW (cc := b_CL_isLevel) (maxL := 1) (ret := (some .boolean)) (by decide) rfl ?_
  intro p e s m args below meth c s₁ B hml hv
  obtain ⟨rfl, G, hP⟩ := hv
  have X := mX.of B hml
  exact m_entry (lv := [(0, .int x0)]) (Nat.le_of_ble_eq_true rfl) rfl (fun ls hl => w_CL_isLevel X G (mI.start hP) hf hl)

abbrev rm_Curve_isRising : Room := { frames := 3, cells := 0, slots := 0, locals := 76 }
theorem h_Curve_isRising : mCV y_Curve_isRising b_Curve_isRising 2 (some .boolean) 0 := ⟨k_650, k_84, ⟨by decide, by decide, by decide +kernel⟩, k_648, k_649⟩
set_option maxHeartbeats 4000000 in
set_option maxRecDepth 100000 in
theorem w_Curve_isRising_83 {μ : mM} {h0 : Nat} {r : Int32} (X : mX p m meth c s args b_Curve_isRising 2 (some .boolean) "ColourLinker$Curve") (G : mG D cA dA z0 s) (I : mI D cA z0 s μ s.heap [] s.heap.size) {ls : Array Slot}  (hf : f_Curve_isRising_83 μ h0 = some r) (hl : lv_has ls 2 [(0, va_rf (some h0))]) : W p l e rm_Curve_isRising s m args below meth c s.heap [] 0 0 (MQ below (mQR (some (.int r))) args s 0 0 (fun _ => False)) (F0 m 83 ls []) := by
  have hx := X.ex
  have hb := X.by_
  unfold f_Curve_isRising_83 at hf
  refine lv_iconst (v := 1) hx hb d_Curve_isRising_83 (by decide) ?_
  obtain rfl := Option.some.inj hf
  exact r_zretR X (Or.inr rfl) d_Curve_isRising_84

set_option maxHeartbeats 4000000 in
set_option maxRecDepth 100000 in
theorem w_Curve_isRising_49 {μ : mM} {h0 : Nat} {r : Int32} (X : mX p m meth c s args b_Curve_isRising 2 (some .boolean) "ColourLinker$Curve") (G : mG D cA dA z0 s) (I : mI D cA z0 s μ s.heap [] s.heap.size) {kx83 : Unit → Option (Int32)} (hkx83 : ∀ (ls : Array Slot), kx83 () = some r → lv_has ls 2 [(0, va_rf (some h0))] → W p l e rm_Curve_isRising s m args below meth c s.heap [] 0 0 (MQ below (mQR (some (.int r))) args s 0 0 (fun _ => False)) (F0 m 83 ls [])) : ∀ (n : Nat) (ls : Array Slot) (x1 : Int32), f_Curve_isRising_49 μ h0 kx83 n x1 = some r → lv_has ls 2 [(0, va_rf (some h0)), (1, .int x1)] → W p l e rm_Curve_isRising s m args below meth c s.heap [] 0 0 (MQ below (mQR (some (.int r))) args s 0 0 (fun _ => False)) (F0 m 49 ls []) := by
  have hx := X.ex
  have hb := X.by_
  intro n
  induction n with
  | zero => intro ls x1 hf hl; rw [f_Curve_isRising_49] at hf; cases hf
  | succ n ih =>
    intro ls x1 hf hl
    rw [f_Curve_isRising_49] at hf
    refine lv_iload_n hx hb d_Curve_isRising_49 rfl (lv_at hl 1 rfl) ?_
    refine r_aload_n X d_Curve_isRising_50 rfl (lv_at hl 0 rfl) ?_
    obtain ⟨v11, hv, hf⟩ := mbind hf
    refine r_getf X G I (mfA_e hv) o_Curve_words k_301 (Or.inl rfl) d_Curve_isRising_51 ?_
    obtain ⟨v12, hv, hf⟩ := mbind hf
    refine r_alen X G I hv d_Curve_isRising_54 ?_
    refine lv_icmp_ge (tgt := 83) hx hb d_Curve_isRising_55 (by decide) (fun hc => ?_) (fun hc => ?_)
    · have hf := mift hf hc
      exact hkx83 _ hf (lv_sub hl [0] rfl)
    · have hf := miff hf hc
      refine r_aload_n X d_Curve_isRising_58 rfl (lv_at hl 0 rfl) ?_
      obtain ⟨v13, hv, hf⟩ := mbind hf
      refine r_getf X G I (mfA_e hv) o_Curve_words k_301 (Or.inl rfl) d_Curve_isRising_59 ?_
      refine lv_iload_n hx hb d_Curve_isRising_62 rfl (lv_at hl 1 rfl) ?_
      obtain ⟨v14, hv, hf⟩ := mbind hf
      refine r_iald X G I hv d_Curve_isRising_63 ?_
      refine r_aload_n X d_Curve_isRising_64 rfl (lv_at hl 0 rfl) ?_
      obtain ⟨v15, hv, hf⟩ := mbind hf
      refine r_getf X G I (mfA_e hv) o_Curve_words k_301 (Or.inl rfl) d_Curve_isRising_65 ?_
      refine lv_iload_n hx hb d_Curve_isRising_68 rfl (lv_at hl 1 rfl) ?_
      refine lv_iconst (v := 1) hx hb d_Curve_isRising_69 (by decide) ?_
      refine lv_isub hx hb d_Curve_isRising_70 ?_
      obtain ⟨v16, hv, hf⟩ := mbind hf
      refine r_iald X G I hv d_Curve_isRising_71 ?_
      refine lv_icmp_gt (tgt := 77) hx hb d_Curve_isRising_72 (by decide) (fun hc => ?_) (fun hc => ?_)
      · have hf := mift hf hc
        refine lv_iinc (i := 1) (k := 1) (v := (x1 + (1 : Int32))) (lv' := [(1, .int (x1 + (1 : Int32))), (0, va_rf (some h0))]) hx hb d_Curve_isRising_77 hl rfl (congrArg (fun t => x1 + t) (by decide : Int32.ofInt (1) = (1 : Int32))) (by decide) (by simp [mrf_cat]) (fun ls hl => ?_)
        refine lv_goto (tgt := 49) hx hb d_Curve_isRising_80 (by decide) ?_
        exact ih _ _ hf (lv_sub hl [1, 0] rfl)
      · have hf := miff hf hc
        refine lv_iconst (v := 0) hx hb d_Curve_isRising_75 (by decide) ?_
        obtain rfl := Option.some.inj hf
        exact r_zretR X (Or.inl rfl) d_Curve_isRising_76

set_option maxHeartbeats 4000000 in
set_option maxRecDepth 100000 in
theorem w_Curve_isRising_46 {μ : mM} {h0 : Nat} {r : Int32} (X : mX p m meth c s args b_Curve_isRising 2 (some .boolean) "ColourLinker$Curve") (G : mG D cA dA z0 s) (I : mI D cA z0 s μ s.heap [] s.heap.size) {ls : Array Slot} {s0 : Int32} (hf : f_Curve_isRising_46 μ h0 s0 = some r) (hl : lv_has ls 2 [(0, va_rf (some h0))]) : W p l e rm_Curve_isRising s m args below meth c s.heap [] 0 0 (MQ below (mQR (some (.int r))) args s 0 0 (fun _ => False)) (F0 m 46 ls [.int s0]) := by
  have hx := X.ex
  have hb := X.by_
  unfold f_Curve_isRising_46 at hf
  obtain ⟨v10, hv, hf⟩ := mbind hf
  obtain ⟨hz0, hz⟩ := mz_e hv
  rw [hz0] at hf
  obtain rfl := Option.some.inj hf
  exact r_zretR X hz d_Curve_isRising_46

set_option maxHeartbeats 4000000 in
set_option maxRecDepth 100000 in
theorem w_Curve_isRising_41 {μ : mM} {h0 : Nat} {r : Int32} (X : mX p m meth c s args b_Curve_isRising 2 (some .boolean) "ColourLinker$Curve") (G : mG D cA dA z0 s) (I : mI D cA z0 s μ s.heap [] s.heap.size) {ls : Array Slot}  (hf : f_Curve_isRising_41 μ h0 = some r) (hl : lv_has ls 2 [(0, va_rf (some h0))]) : W p l e rm_Curve_isRising s m args below meth c s.heap [] 0 0 (MQ below (mQR (some (.int r))) args s 0 0 (fun _ => False)) (F0 m 41 ls []) := by
  have hx := X.ex
  have hb := X.by_
  unfold f_Curve_isRising_41 at hf
  refine lv_iconst (v := 1) hx hb d_Curve_isRising_41 (by decide) ?_
  refine lv_goto (tgt := 46) hx hb d_Curve_isRising_42 (by decide) ?_
  exact w_Curve_isRising_46 X G I hf hl

set_option maxHeartbeats 4000000 in
set_option maxRecDepth 100000 in
theorem w_Curve_isRising {μ : mM} {h0 : Nat} {r : Int32} (X : mX p m meth c s args b_Curve_isRising 2 (some .boolean) "ColourLinker$Curve") (G : mG D cA dA z0 s) (I : mI D cA z0 s μ s.heap [] s.heap.size) {ls : Array Slot}  (hf : f_Curve_isRising μ h0 = some r) (hl : lv_has ls 2 [(0, va_rf (some h0))]) : W p l e rm_Curve_isRising s m args below meth c s.heap [] 0 0 (MQ below (mQR (some (.int r))) args s 0 0 (fun _ => False)) (F0 m 0 ls []) := by
  have hx := X.ex
  have hb := X.by_
  unfold f_Curve_isRising at hf
  refine r_aload_n X d_Curve_isRising_0 rfl (lv_at hl 0 rfl) ?_
  obtain ⟨v1, hv, hf⟩ := mbind hf
  refine r_getf X G I (mfI_e hv) o_Curve_power k_300 (Or.inl rfl) d_Curve_isRising_1 ?_
  refine lv_if_le (tgt := 47) hx hb d_Curve_isRising_4 (by decide) (fun hc => ?_) (fun hc => ?_)
  · have hf := mift hf hc
    refine lv_iconst (v := 1) hx hb d_Curve_isRising_47 (by decide) ?_
    refine lv_istore_n (i := 1) (lv' := [(1, .int (1 : Int32)), (0, va_rf (some h0))]) hx hb d_Curve_isRising_48 rfl hl (by decide) (by simp [mrf_cat]) (fun ls hl => ?_)
    exact w_Curve_isRising_49 X G I (fun ls hf hl => w_Curve_isRising_83 X G I hf hl) 4096 _ _ hf (lv_sub hl [1, 0] rfl)
  · have hf := miff hf hc
    refine r_aload_n X d_Curve_isRising_7 rfl (lv_at hl 0 rfl) ?_
    obtain ⟨v2, hv, hf⟩ := mbind hf
    refine r_getf X G I (mfA_e hv) o_Curve_words k_301 (Or.inl rfl) d_Curve_isRising_8 ?_
    refine lv_iconst (v := 1) hx hb d_Curve_isRising_11 (by decide) ?_
    obtain ⟨v3, hv, hf⟩ := mbind hf
    refine r_iald X G I hv d_Curve_isRising_12 ?_
    refine lv_if_eq (tgt := 41) hx hb d_Curve_isRising_13 (by decide) (fun hc => ?_) (fun hc => ?_)
    · have hf := mift hf hc
      exact w_Curve_isRising_41 X G I hf hl
    · have hf := miff hf hc
      refine r_aload_n X d_Curve_isRising_16 rfl (lv_at hl 0 rfl) ?_
      refine r_aload_n X d_Curve_isRising_17 rfl (lv_at hl 0 rfl) ?_
      obtain ⟨v4, hv, hf⟩ := mbind hf
      refine r_getf X G I (mfA_e hv) o_Curve_words k_301 (Or.inl rfl) d_Curve_isRising_18 ?_
      refine lv_iconst (v := 1) hx hb d_Curve_isRising_21 (by decide) ?_
      obtain ⟨v5, hv, hf⟩ := mbind hf
      refine r_iald X G I hv d_Curve_isRising_22 ?_
      refine lv_iconst (v := 1) hx hb d_Curve_isRising_23 (by decide) ?_
      refine lv_isub hx hb d_Curve_isRising_24 ?_
      obtain ⟨q6, hv, hf⟩ := mbind hf
      obtain ⟨a, ha, hv⟩ := mbind hv
      obtain ⟨ha, fs, hm⟩ := mrc_e ha
      refine m_caR (m_runV (As := [.int (v5 - (1 : Int32))]) (r := some h0) (rest := []) X G I h_Curve_lineAt k_494 (c_Curve_lineAt hv) mPr_blind (m_pre G I) hm rfl ha rfl rfl hl.1 (Nat.le_of_ble_eq_true rfl) rfl rfl ⟨Nat.le_of_ble_eq_true rfl, Nat.le_of_ble_eq_true rfl⟩ ⟨Nat.le_refl _, Nat.le_refl _⟩ d_Curve_isRising_25) ?_
      refine r_aload_n X d_Curve_isRising_28 rfl (lv_at hl 0 rfl) ?_
      refine r_aload_n X d_Curve_isRising_29 rfl (lv_at hl 0 rfl) ?_
      obtain ⟨v7, hv, hf⟩ := mbind hf
      refine r_getf X G I (mfA_e hv) o_Curve_words k_301 (Or.inl rfl) d_Curve_isRising_30 ?_
      refine lv_iconst (v := 1) hx hb d_Curve_isRising_33 (by decide) ?_
      obtain ⟨v8, hv, hf⟩ := mbind hf
      refine r_iald X G I hv d_Curve_isRising_34 ?_
      obtain ⟨q9, hv, hf⟩ := mbind hf
      obtain ⟨a, ha, hv⟩ := mbind hv
      obtain ⟨ha, fs, hm⟩ := mrc_e ha
      refine m_caR (m_runV (As := [.int v8]) (r := some h0) (rest := [.int q6]) X G I h_Curve_powerAt k_501 (c_Curve_powerAt hv) mPr_blind (m_pre G I) hm rfl ha rfl rfl hl.1 (Nat.le_of_ble_eq_true rfl) rfl rfl ⟨Nat.le_of_ble_eq_true rfl, Nat.le_of_ble_eq_true rfl⟩ ⟨Nat.le_refl _, Nat.le_refl _⟩ d_Curve_isRising_35) ?_
      refine lv_icmp_gt (tgt := 45) hx hb d_Curve_isRising_38 (by decide) (fun hc => ?_) (fun hc => ?_)
      · have hf := mift hf hc
        refine lv_iconst (v := 0) hx hb d_Curve_isRising_45 (by decide) ?_
        exact w_Curve_isRising_46 X G I hf hl
      · have hf := miff hf hc
        exact w_Curve_isRising_41 X G I hf hl

set_option maxHeartbeats 4000000 in
set_option maxRecDepth 100000 in
theorem c_Curve_isRising {l : Launch} {D : va_G} {cA : Nat → ClassId} {dA z0 : Nat} {μ : mM} {h0 : Nat} {r : Int32} (hf : f_Curve_isRising μ h0 = some r) : Met l y_Curve_isRising (mW y_Curve_isRising b_Curve_isRising 2 (some .boolean)) rm_Curve_isRising (va_Pc [.ref h0] (mPr D cA dA z0 μ)) (mQR (some (.int r))) 0 0 (fun _ => False) := by
  refine Met.ofW (cc := b_Curve_isRising) (maxL := 2) (ret := (some .boolean)) (by decide) rfl ?_
  intro p e s m args below meth c s₁ B hml hv
  obtain ⟨rfl, G, hP⟩ := hv
  have X := mX.of B hml
  exact m_entry (lv := [(0, va_rf (some h0))]) (Nat.le_of_ble_eq_true rfl) rfl (fun ls hl => w_Curve_isRising X G (mI.start hP) hf hl)

abbrev rm_CL_curve : Room := { frames := 5, cells := 0, slots := 0, locals := 121 }
theorem h_CL_curve : mCV y_CL_curve b_CL_curve 7 (some .int) 4 := ⟨k_641, k_75, ⟨by decide, by decide, by decide +kernel⟩, k_639, k_640⟩
set_option maxHeartbeats 4000000 in
set_option maxRecDepth 100000 in
theorem w_CL_curve_77 {μ : mM} {h0 : Nat} {r : Int32} (X : mX p m meth c s args b_CL_curve 7 (some .int) "ColourLinker") (G : mG D cA dA z0 s) (I : mI D cA z0 s μ s.heap [] s.heap.size) {ls : Array Slot} {s0 : Int32} (hf : f_CL_curve_77 μ h0 s0 = some r) (hl : lv_has ls 7 [(0, va_rf (some h0))]) : W p l e rm_CL_curve s m args below meth c s.heap [] 0 0 (MQ below (mQR (some (.int r))) args s 0 0 (fun _ => False)) (F0 m 77 ls [.int s0]) := by
  have hx := X.ex
  have hb := X.by_
  unfold f_CL_curve_77 at hf
  obtain rfl := Option.some.inj hf
  exact r_iretR X d_CL_curve_77

set_option maxHeartbeats 4000000 in
set_option maxRecDepth 100000 in
theorem w_CL_curve_29 {μ : mM} {h0 : Nat} {r : Int32} (X : mX p m meth c s args b_CL_curve 7 (some .int) "ColourLinker") (G : mG D cA dA z0 s) (I : mI D cA z0 s μ s.heap [] s.heap.size) {ls : Array Slot}  (hf : f_CL_curve_29 μ h0 = some r) (hl : lv_has ls 7 [(0, va_rf (some h0))]) : W p l e rm_CL_curve s m args below meth c s.heap [] 0 0 (MQ below (mQR (some (.int r))) args s 0 0 (fun _ => False)) (F0 m 29 ls []) := by
  have hx := X.ex
  have hb := X.by_
  unfold f_CL_curve_29 at hf
  refine lv_iconst (v := -1) hx hb d_CL_curve_29 (by decide) ?_
  obtain rfl := Option.some.inj hf
  exact r_iretR X d_CL_curve_30

set_option maxHeartbeats 4000000 in
set_option maxRecDepth 100000 in
theorem w_CL_curve {μ : mM} {h0 : Nat} {r : Int32} (X : mX p m meth c s args b_CL_curve 7 (some .int) "ColourLinker") (G : mG D cA dA z0 s) (I : mI D cA z0 s μ s.heap [] s.heap.size) {ls : Array Slot} {x1 : Int32} {x2 : Int32} {x3 : Int32} {x4 : Int32} (hf : f_CL_curve μ h0 x1 x2 x3 x4 = some r) (hl : lv_has ls 7 [(0, va_rf (some h0)), (1, .int x1), (2, .int x2), (3, .int x3), (4, .int x4)]) : W p l e rm_CL_curve s m args below meth c s.heap [] 0 0 (MQ below (mQR (some (.int r))) args s 0 0 (fun _ => False)) (F0 m 0 ls []) := by
  have hx := X.ex
  have hb := X.by_
  unfold f_CL_curve at hf
  refine r_aload_n X d_CL_curve_0 rfl (lv_at hl 0 rfl) ?_
  refine lv_iload_n hx hb d_CL_curve_1 rfl (lv_at hl 1 rfl) ?_
  obtain ⟨q1, hv, hf⟩ := mbind hf
  obtain ⟨a, ha, hv⟩ := mbind hv
  obtain ⟨ha, fs, hm⟩ := mrc_e ha
  refine m_caR (m_runV (As := [.int x1]) (r := some h0) (rest := []) X G I h_CL_profileAt k_617 (c_CL_profileAt hv) mPr_blind (m_pre G I) hm rfl ha rfl rfl hl.1 (Nat.le_of_ble_eq_true rfl) rfl rfl ⟨Nat.le_of_ble_eq_true rfl, Nat.le_of_ble_eq_true rfl⟩ ⟨Nat.le_refl _, Nat.le_refl _⟩ d_CL_curve_2) ?_
  refine r_astore (i := 5) (lv' := [(5, va_rf q1), (0, va_rf (some h0)), (1, .int x1), (2, .int x2), (3, .int x3), (4, .int x4)]) X d_CL_curve_5 hl (by decide) rfl (fun ls hl => ?_)
  refine r_aload X d_CL_curve_7 (lv_at hl 0 rfl) ?_
  refine r_ifnull (tgt := 29) X d_CL_curve_9 (by decide) (fun hc => ?_) (fun hc => ?_)
  · have hf := mift hf hc
    exact w_CL_curve_29 X G I hf (lv_sub hl [1] rfl)
  · have hf := miff hf hc
    refine lv_iload_n hx hb d_CL_curve_12 rfl (lv_at hl 3 rfl) ?_
    refine lv_iconst (v := 1) hx hb d_CL_curve_13 (by decide) ?_
    refine lv_icmp_lt (tgt := 29) hx hb d_CL_curve_14 (by decide) (fun hc => ?_) (fun hc => ?_)
    · have hf := mift hf hc
      exact w_CL_curve_29 X G I hf (lv_sub hl [1] rfl)
    · have hf := miff hf hc
      refine lv_iload_n hx hb d_CL_curve_17 rfl (lv_at hl 3 rfl) ?_
      refine lv_iconst (v := 4) hx hb d_CL_curve_18 (by decide) ?_
      refine lv_icmp_gt (tgt := 29) hx hb d_CL_curve_19 (by decide) (fun hc => ?_) (fun hc => ?_)
      · have hf := mift hf hc
        exact w_CL_curve_29 X G I hf (lv_sub hl [1] rfl)
      · have hf := miff hf hc
        refine lv_iload_n hx hb d_CL_curve_22 rfl (lv_at hl 4 rfl) ?_
        obtain ⟨q2, hv, hf⟩ := mbind hf
        refine m_caR (m_runS (As := [.int x3]) (rest := []) X h_CL_isLevel k_642 (c_CL_isLevel hv) mPr_blind (m_pre G I) rfl rfl hl.1 (Nat.le_of_ble_eq_true rfl) rfl rfl ⟨Nat.le_of_ble_eq_true rfl, Nat.le_of_ble_eq_true rfl⟩ ⟨Nat.le_refl _, Nat.le_refl _⟩ d_CL_curve_23) ?_
        refine lv_if_ne (tgt := 31) hx hb d_CL_curve_26 (by decide) (fun hc => ?_) (fun hc => ?_)
        · have hf := miff hf hc
          refine r_aload X d_CL_curve_31 (lv_at hl 0 rfl) ?_
          obtain ⟨v3, hv, hf⟩ := mbind hf
          refine r_getfN X G I (mfA_e hv) o_Profile_curves k_402 (Or.inl rfl) d_CL_curve_33 ?_
          refine lv_iload_n hx hb d_CL_curve_36 rfl (lv_at hl 3 rfl) ?_
          obtain ⟨v4, hv, hf⟩ := mbind hf
          refine r_aald X G I hv d_CL_curve_37 ?_
          refine r_astore (i := 6) (lv' := [(6, va_rf v4), (5, va_rf q1), (0, va_rf (some h0)), (1, .int x1), (2, .int x2), (3, .int x3), (4, .int x4)]) X d_CL_curve_38 hl (by decide) (by simp [mrf_cat]) (fun ls hl => ?_)
          refine r_aload X d_CL_curve_40 (lv_at hl 0 rfl) ?_
          refine r_ifnonnull (tgt := 47) X d_CL_curve_42 (by decide) (fun hc => ?_) (fun hc => ?_)
          · have hf := miff hf hc
            refine lv_iload hx hb d_CL_curve_47 (lv_at hl 6 rfl) ?_
            refine lv_if_ne (tgt := 59) hx hb d_CL_curve_49 (by decide) (fun hc => ?_) (fun hc => ?_)
            · have hf := miff hf hc
              refine r_aload X d_CL_curve_59 (lv_at hl 0 rfl) ?_
              obtain ⟨q5, hv, hf⟩ := mbind hf
              obtain ⟨a, ha, hv⟩ := mbind hv
              obtain ⟨ha, fs, hm⟩ := mrc_e ha
              refine m_caR (m_runV (As := []) (r := v4) (rest := []) X G I h_Curve_isRising k_647 (c_Curve_isRising hv) mPr_blind (m_pre G I) hm rfl ha rfl rfl hl.1 (Nat.le_of_ble_eq_true rfl) rfl rfl ⟨Nat.le_of_ble_eq_true rfl, Nat.le_of_ble_eq_true rfl⟩ ⟨Nat.le_refl _, Nat.le_refl _⟩ d_CL_curve_61) ?_
              refine lv_if_eq (tgt := 76) hx hb d_CL_curve_64 (by decide) (fun hc => ?_) (fun hc => ?_)
              · have hf := mift hf hc
                refine lv_iconst (v := -1) hx hb d_CL_curve_76 (by decide) ?_
                exact w_CL_curve_77 X G I hf (lv_sub hl [2] rfl)
              · have hf := miff hf hc
                refine r_aload X d_CL_curve_67 (lv_at hl 0 rfl) ?_
                refine lv_iload_n hx hb d_CL_curve_69 rfl (lv_at hl 5 rfl) ?_
                obtain ⟨q6, hv, hf⟩ := mbind hf
                obtain ⟨a, ha, hv⟩ := mbind hv
                obtain ⟨ha, fs, hm⟩ := mrc_e ha
                refine m_caR (m_runV (As := [.int x3]) (r := v4) (rest := []) X G I h_Curve_inverseAt k_651 (c_Curve_inverseAt hv) mPr_blind (m_pre G I) hm rfl ha rfl rfl hl.1 (Nat.le_of_ble_eq_true rfl) rfl rfl ⟨Nat.le_of_ble_eq_true rfl, Nat.le_of_ble_eq_true rfl⟩ ⟨Nat.le_refl _, Nat.le_refl _⟩ d_CL_curve_70) ?_
                refine lv_goto (tgt := 77) hx hb d_CL_curve_73 (by decide) ?_
                exact w_CL_curve_77 X G I hf (lv_sub hl [2] rfl)
            · have hf := mift hf hc
              refine r_aload X d_CL_curve_52 (lv_at hl 0 rfl) ?_
              refine lv_iload_n hx hb d_CL_curve_54 rfl (lv_at hl 5 rfl) ?_
              obtain ⟨q7, hv, hf⟩ := mbind hf
              obtain ⟨a, ha, hv⟩ := mbind hv
              obtain ⟨ha, fs, hm⟩ := mrc_e ha
              refine m_caR (m_runV (As := [.int x3]) (r := v4) (rest := []) X G I h_Curve_valueAt k_646 (c_Curve_valueAt hv) mPr_blind (m_pre G I) hm rfl ha rfl rfl hl.1 (Nat.le_of_ble_eq_true rfl) rfl rfl ⟨Nat.le_of_ble_eq_true rfl, Nat.le_of_ble_eq_true rfl⟩ ⟨Nat.le_refl _, Nat.le_refl _⟩ d_CL_curve_55) ?_
              obtain rfl := Option.some.inj hf
              exact r_iretR X d_CL_curve_58
          · have hf := mift hf hc
            refine lv_iconst (v := -1) hx hb d_CL_curve_45 (by decide) ?_
            obtain rfl := Option.some.inj hf
            exact r_iretR X d_CL_curve_46
        · have hf := mift hf hc
          exact w_CL_curve_29 X G I hf (lv_sub hl [1] rfl)

set_option maxHeartbeats 4000000 in
set_option maxRecDepth 100000 in
theorem c_CL_curve {l : Launch} {D : va_G} {cA : Nat → ClassId} {dA z0 : Nat} {μ : mM} {h0 : Nat} {x1 : Int32} {x2 : Int32} {x3 : Int32} {x4 : Int32} {r : Int32} (hf : f_CL_curve μ h0 x1 x2 x3 x4 = some r) : Met l y_CL_curve (mW y_CL_curve b_CL_curve 7 (some .int)) rm_CL_curve (va_Pc [.ref h0, .int x1, .int x2, .int x3, .int x4] (mPr D cA dA z0 μ)) (mQR (some (.int r))) 0 0 (fun _ => False) := by
  refine Met.ofW (cc := b_CL_curve) (maxL := 7) (ret := (some .int)) (by decide) rfl ?_
  intro p e s m args below meth c s₁ B hml hv
  obtain ⟨rfl, G, hP⟩ := hv
  have X := mX.of B hml
  exact m_entry (lv := [(0, va_rf (some h0)), (1, .int x1), (2, .int x2), (3, .int x3), (4, .int x4)]) (Nat.le_of_ble_eq_true rfl) rfl (fun ls hl => w_CL_curve X G (mI.start hP) hf hl)

abbrev rm_Mo_word : Room := { frames := 0, cells := 0, slots := 0, locals := 0 }
theorem h_Mo_word : mCV y_Mo_word b_Mo_word 3 (some .int) 2 := ⟨k_987, k_79, ⟨by decide, by decide, by decide +kernel⟩, k_986, k_37⟩
set_option maxHeartbeats 4000000 in
set_option maxRecDepth 100000 in
theorem w_Mo_word {μ : mM} {h0 : Nat} {r : Int32} (X : mX p m meth c s args b_Mo_word 3 (some .int) "ColourLinkerModel") (G : mG D cA dA z0 s) (I : mI D cA z0 s μ s.heap [] s.heap.size) {ls : Array Slot} {x1 : Int32} {x2 : Int32} (hf : f_Mo_word μ h0 x1 x2 = some r) (hl : lv_has ls 3 [(0, va_rf (some h0)), (1, .int x1), (2, .int x2)]) : W p l e rm_Mo_word s m args below meth c s.heap [] 0 0 (MQ below (mQR (some (.int r))) args s 0 0 (fun _ => False)) (F0 m 0 ls []) := by
  have hx := X.ex
  have hb := X.by_
  unfold f_Mo_word at hf
  refine lv_sipush (v := 256) hx hb d_Mo_word_0 (by decide) ?_
  refine r_aload_n X d_Mo_word_3 rfl (lv_at hl 0 rfl) ?_
  obtain ⟨v1, hv, hf⟩ := mbind hf
  refine r_getf X G I (mfA_e hv) o_Mo_kept k_836 (Or.inl rfl) d_Mo_word_4 ?_
  refine lv_sipush (v := 256) hx hb d_Mo_word_7 (by decide) ?_
  refine lv_iload_n hx hb d_Mo_word_10 rfl (lv_at hl 1 rfl) ?_
  refine lv_imul hx hb d_Mo_word_11 ?_
  refine lv_iload_n hx hb d_Mo_word_12 rfl (lv_at hl 2 rfl) ?_
  refine lv_iadd hx hb d_Mo_word_13 ?_
  obtain ⟨v2, hv, hf⟩ := mbind hf
  refine r_iald X G I hv d_Mo_word_14 ?_
  refine lv_imul hx hb d_Mo_word_15 ?_
  refine r_aload_n X d_Mo_word_16 rfl (lv_at hl 0 rfl) ?_
  obtain ⟨v3, hv, hf⟩ := mbind hf
  refine r_getf X G I (mfA_e hv) o_Mo_kept k_836 (Or.inl rfl) d_Mo_word_17 ?_
  refine lv_sipush (v := 256) hx hb d_Mo_word_20 (by decide) ?_
  refine lv_iload_n hx hb d_Mo_word_23 rfl (lv_at hl 1 rfl) ?_
  refine lv_imul hx hb d_Mo_word_24 ?_
  refine lv_iload_n hx hb d_Mo_word_25 rfl (lv_at hl 2 rfl) ?_
  refine lv_iadd hx hb d_Mo_word_26 ?_
  refine lv_iconst (v := 1) hx hb d_Mo_word_27 (by decide) ?_
  refine lv_iadd hx hb d_Mo_word_28 ?_
  obtain ⟨v4, hv, hf⟩ := mbind hf
  refine r_iald X G I hv d_Mo_word_29 ?_
  refine lv_iadd hx hb d_Mo_word_30 ?_
  obtain rfl := Option.some.inj hf
  exact r_iretR X d_Mo_word_31

set_option maxHeartbeats 4000000 in
set_option maxRecDepth 100000 in
theorem c_Mo_word {l : Launch} {D : va_G} {cA : Nat → ClassId} {dA z0 : Nat} {μ : mM} {h0 : Nat} {x1 : Int32} {x2 : Int32} {r : Int32} (hf : f_Mo_word μ h0 x1 x2 = some r) : Met l y_Mo_word (mW y_Mo_word b_Mo_word 3 (some .int)) rm_Mo_word (va_Pc [.ref h0, .int x1, .int x2] (mPr D cA dA z0 μ)) (mQR (some (.int r))) 0 0 (fun _ => False) := by
  refine Met.ofW (cc := b_Mo_word) (maxL := 3) (ret := (some .int)) (by decide) rfl ?_
  intro p e s m args below meth c s₁ B hml hv
  obtain ⟨rfl, G, hP⟩ := hv
  have X := mX.of B hml
  exact m_entry (lv := [(0, va_rf (some h0)), (1, .int x1), (2, .int x2)]) (Nat.le_of_ble_eq_true rfl) rfl (fun ls hl => w_Mo_word X G (mI.start hP) hf hl)

abbrev rm_Mo_near : Room := { frames := 0, cells := 0, slots := 0, locals := 0 }
theorem h_Mo_near : mCS y_Mo_near b_Mo_near 8 (some .long) 2 := ⟨k_995, k_79, ⟨by decide, by decide, by decide +kernel⟩, k_994⟩
set_option maxHeartbeats 4000000 in
set_option maxRecDepth 100000 in
theorem w_Mo_near_41 {μ : mM} {r : Int64} (X : mX p m meth c s args b_Mo_near 8 (some .long) "ColourLinkerModel") (G : mG D cA dA z0 s) (I : mI D cA z0 s μ s.heap [] s.heap.size) {ls : Array Slot} {s0 : Int64} (hf : f_Mo_near_41 μ s0 = some r) (hl : lv_has ls 8 []) : W p l e rm_Mo_near s m args below meth c s.heap [] 0 0 (MQ below (mQR (some (.long r))) args s 0 0 (fun _ => False)) (F0 m 41 ls [.long s0]) := by
  have hx := X.ex
  have hb := X.by_
  unfold f_Mo_near_41 at hf
  obtain rfl := Option.some.inj hf
  exact r_lretR X d_Mo_near_41

set_option maxHeartbeats 4000000 in
set_option maxRecDepth 100000 in
theorem w_Mo_near {μ : mM} {r : Int64} (X : mX p m meth c s args b_Mo_near 8 (some .long) "ColourLinkerModel") (G : mG D cA dA z0 s) (I : mI D cA z0 s μ s.heap [] s.heap.size) {ls : Array Slot} {x0 : Int64} {x2 : Int64} (hf : f_Mo_near μ x0 x2 = some r) (hl : lv_has ls 8 [(0, .long x0), (2, .long x2)]) : W p l e rm_Mo_near s m args below meth c s.heap [] 0 0 (MQ below (mQR (some (.long r))) args s 0 0 (fun _ => False)) (F0 m 0 ls []) := by
  have hx := X.ex
  have hb := X.by_
  unfold f_Mo_near at hf
  refine lv_ldc2 (v := 2) hx hb X.ow (X.w k_996) d_Mo_near_0 ?_
  refine lv_lload_n hx hb d_Mo_near_3 rfl (lv_at hl 0 rfl) ?_
  refine lv_lmul hx hb d_Mo_near_4 ?_
  refine lv_lload_n hx hb d_Mo_near_5 rfl (lv_at hl 1 rfl) ?_
  refine lv_ladd hx hb d_Mo_near_6 ?_
  refine lv_lstore (i := 4) (lv' := [(4, .long (((2 : Int64) * x0) + x2)), (0, .long x0), (2, .long x2)]) hx hb d_Mo_near_7 hl (by decide) rfl (fun ls hl => ?_)
  refine lv_lload hx hb d_Mo_near_9 (lv_at hl 0 rfl) ?_
  refine lv_ldc2 (v := 2) hx hb X.ow (X.w k_996) d_Mo_near_11 ?_
  refine lv_lload_n hx hb d_Mo_near_14 rfl (lv_at hl 2 rfl) ?_
  refine lv_lmul hx hb d_Mo_near_15 ?_
  by_cases hc : ((2 : Int64) * x2) = 0
  · exact absurd (mift hf hc) (by simp)
  have hf := miff hf hc
  refine lv_ldiv hx hb d_Mo_near_16 hc ?_
  refine lv_lstore (i := 6) (lv' := [(6, .long ((((2 : Int64) * x0) + x2) / ((2 : Int64) * x2))), (4, .long (((2 : Int64) * x0) + x2)), (0, .long x0), (2, .long x2)]) hx hb d_Mo_near_17 hl (by decide) rfl (fun ls hl => ?_)
  refine lv_lload hx hb d_Mo_near_19 (lv_at hl 1 rfl) ?_
  refine lv_ldc2 (v := 2) hx hb X.ow (X.w k_996) d_Mo_near_21 ?_
  refine lv_lload_n hx hb d_Mo_near_24 rfl (lv_at hl 3 rfl) ?_
  refine lv_lmul hx hb d_Mo_near_25 ?_
  by_cases hc : ((2 : Int64) * x2) = 0
  · exact absurd (mift hf hc) (by simp)
  have hf := miff hf hc
  refine lv_lrem hx hb d_Mo_near_26 hc ?_
  refine lv_lconst (v := 0) hx hb d_Mo_near_27 (by decide) ?_
  refine r_lcge (tgt := 39) X d_Mo_near_28 d_Mo_near_29 (by decide) (fun hc => ?_) (fun hc => ?_)
  · have hf := mift hf hc
    refine lv_lload hx hb d_Mo_near_39 (lv_at hl 0 rfl) ?_
    exact w_Mo_near_41 X G I hf (lv_sub hl [] rfl)
  · have hf := miff hf hc
    refine lv_lload hx hb d_Mo_near_32 (lv_at hl 0 rfl) ?_
    refine lv_lconst (v := 1) hx hb d_Mo_near_34 (by decide) ?_
    refine lv_lsub hx hb d_Mo_near_35 ?_
    refine lv_goto (tgt := 41) hx hb d_Mo_near_36 (by decide) ?_
    exact w_Mo_near_41 X G I hf (lv_sub hl [] rfl)

set_option maxHeartbeats 4000000 in
set_option maxRecDepth 100000 in
theorem c_Mo_near {l : Launch} {D : va_G} {cA : Nat → ClassId} {dA z0 : Nat} {μ : mM} {x0 : Int64} {x2 : Int64} {r : Int64} (hf : f_Mo_near μ x0 x2 = some r) : Met l y_Mo_near (mW y_Mo_near b_Mo_near 8 (some .long)) rm_Mo_near (va_Pc [.long x0, .long x2] (mPr D cA dA z0 μ)) (mQR (some (.long r))) 0 0 (fun _ => False) := by
  refine Met.ofW (cc := b_Mo_near) (maxL := 8) (ret := (some .long)) (by decide) rfl ?_
  intro p e s m args below meth c s₁ B hml hv
  obtain ⟨rfl, G, hP⟩ := hv
  have X := mX.of B hml
  exact m_entry (lv := [(0, .long x0), (2, .long x2)]) (Nat.le_of_ble_eq_true rfl) rfl (fun ls hl => w_Mo_near X G (mI.start hP) hf hl)

abbrev rm_Mo_clip : Room := { frames := 0, cells := 0, slots := 0, locals := 0 }
theorem h_Mo_clip : mCS y_Mo_clip b_Mo_clip 2 (some .long) 1 := ⟨k_1003, k_79, ⟨by decide, by decide, by decide +kernel⟩, k_1002⟩
set_option maxHeartbeats 4000000 in
set_option maxRecDepth 100000 in
theorem w_Mo_clip_25 {μ : mM} {r : Int64} (X : mX p m meth c s args b_Mo_clip 2 (some .long) "ColourLinkerModel") (G : mG D cA dA z0 s) (I : mI D cA z0 s μ s.heap [] s.heap.size) {ls : Array Slot} {s0 : Int64} (hf : f_Mo_clip_25 μ s0 = some r) (hl : lv_has ls 2 []) : W p l e rm_Mo_clip s m args below meth c s.heap [] 0 0 (MQ below (mQR (some (.long r))) args s 0 0 (fun _ => False)) (F0 m 25 ls [.long s0]) := by
  have hx := X.ex
  have hb := X.by_
  unfold f_Mo_clip_25 at hf
  obtain rfl := Option.some.inj hf
  exact r_lretR X d_Mo_clip_25

set_option maxHeartbeats 4000000 in
set_option maxRecDepth 100000 in
theorem w_Mo_clip {μ : mM} {r : Int64} (X : mX p m meth c s args b_Mo_clip 2 (some .long) "ColourLinkerModel") (G : mG D cA dA z0 s) (I : mI D cA z0 s μ s.heap [] s.heap.size) {ls : Array Slot} {x0 : Int64} (hf : f_Mo_clip μ x0 = some r) (hl : lv_has ls 2 [(0, .long x0)]) : W p l e rm_Mo_clip s m args below meth c s.heap [] 0 0 (MQ below (mQR (some (.long r))) args s 0 0 (fun _ => False)) (F0 m 0 ls []) := by
  have hx := X.ex
  have hb := X.by_
  unfold f_Mo_clip at hf
  refine lv_lload_n hx hb d_Mo_clip_0 rfl (lv_at hl 0 rfl) ?_
  refine lv_lconst (v := 0) hx hb d_Mo_clip_1 (by decide) ?_
  refine r_lcge (tgt := 10) X d_Mo_clip_2 d_Mo_clip_3 (by decide) (fun hc => ?_) (fun hc => ?_)
  · have hf := mift hf hc
    refine lv_lload_n hx hb d_Mo_clip_10 rfl (lv_at hl 0 rfl) ?_
    refine lv_ldc2 (v := 65535) hx hb X.ow (X.w k_992) d_Mo_clip_11 ?_
    refine r_lcle (tgt := 24) X d_Mo_clip_14 d_Mo_clip_15 (by decide) (fun hc => ?_) (fun hc => ?_)
    · have hf := mift hf hc
      refine lv_lload_n hx hb d_Mo_clip_24 rfl (lv_at hl 0 rfl) ?_
      exact w_Mo_clip_25 X G I hf (lv_sub hl [] rfl)
    · have hf := miff hf hc
      refine lv_ldc2 (v := 65535) hx hb X.ow (X.w k_992) d_Mo_clip_18 ?_
      refine lv_goto (tgt := 25) hx hb d_Mo_clip_21 (by decide) ?_
      exact w_Mo_clip_25 X G I hf (lv_sub hl [] rfl)
  · have hf := miff hf hc
    refine lv_lconst (v := 0) hx hb d_Mo_clip_6 (by decide) ?_
    refine lv_goto (tgt := 25) hx hb d_Mo_clip_7 (by decide) ?_
    exact w_Mo_clip_25 X G I hf (lv_sub hl [] rfl)

set_option maxHeartbeats 4000000 in
set_option maxRecDepth 100000 in
theorem c_Mo_clip {l : Launch} {D : va_G} {cA : Nat → ClassId} {dA z0 : Nat} {μ : mM} {x0 : Int64} {r : Int64} (hf : f_Mo_clip μ x0 = some r) : Met l y_Mo_clip (mW y_Mo_clip b_Mo_clip 2 (some .long)) rm_Mo_clip (va_Pc [.long x0] (mPr D cA dA z0 μ)) (mQR (some (.long r))) 0 0 (fun _ => False) := by
  refine Met.ofW (cc := b_Mo_clip) (maxL := 2) (ret := (some .long)) (by decide) rfl ?_
  intro p e s m args below meth c s₁ B hml hv
  obtain ⟨rfl, G, hP⟩ := hv
  have X := mX.of B hml
  exact m_entry (lv := [(0, .long x0)]) (Nat.le_of_ble_eq_true rfl) rfl (fun ls hl => w_Mo_clip X G (mI.start hP) hf hl)

abbrev rm_Mo_clipNear : Room := { frames := 1, cells := 0, slots := 0, locals := 27 }
theorem h_Mo_clipNear : mCS y_Mo_clipNear b_Mo_clipNear 6 (some .long) 2 := ⟨k_1000, k_79, ⟨by decide, by decide, by decide +kernel⟩, k_999⟩
set_option maxHeartbeats 4000000 in
set_option maxRecDepth 100000 in
theorem w_Mo_clipNear {μ : mM} {r : Int64} (X : mX p m meth c s args b_Mo_clipNear 6 (some .long) "ColourLinkerModel") (G : mG D cA dA z0 s) (I : mI D cA z0 s μ s.heap [] s.heap.size) {ls : Array Slot} {x0 : Int64} {x2 : Int64} (hf : f_Mo_clipNear μ x0 x2 = some r) (hl : lv_has ls 6 [(0, .long x0), (2, .long x2)]) : W p l e rm_Mo_clipNear s m args below meth c s.heap [] 0 0 (MQ below (mQR (some (.long r))) args s 0 0 (fun _ => False)) (F0 m 0 ls []) := by
  have hx := X.ex
  have hb := X.by_
  unfold f_Mo_clipNear at hf
  refine lv_lload_n hx hb d_Mo_clipNear_0 rfl (lv_at hl 0 rfl) ?_
  refine lv_lload_n hx hb d_Mo_clipNear_1 rfl (lv_at hl 1 rfl) ?_
  obtain ⟨q1, hv, hf⟩ := mbind hf
  refine m_caR (m_runS (As := [.long x0, .long x2]) (rest := []) X h_Mo_near k_993 (c_Mo_near hv) mPr_blind (m_pre G I) rfl rfl hl.1 (Nat.le_of_ble_eq_true rfl) rfl rfl ⟨Nat.le_of_ble_eq_true rfl, Nat.le_of_ble_eq_true rfl⟩ ⟨Nat.le_refl _, Nat.le_refl _⟩ d_Mo_clipNear_2) ?_
  refine lv_lstore (i := 4) (lv' := [(4, .long q1), (0, .long x0), (2, .long x2)]) hx hb d_Mo_clipNear_5 hl (by decide) rfl (fun ls hl => ?_)
  refine lv_lload hx hb d_Mo_clipNear_7 (lv_at hl 0 rfl) ?_
  obtain ⟨q2, hv, hf⟩ := mbind hf
  refine m_caR (m_runS (As := [.long q1]) (rest := []) X h_Mo_clip k_1001 (c_Mo_clip hv) mPr_blind (m_pre G I) rfl rfl hl.1 (Nat.le_of_ble_eq_true rfl) rfl rfl ⟨Nat.le_of_ble_eq_true rfl, Nat.le_of_ble_eq_true rfl⟩ ⟨Nat.le_refl _, Nat.le_refl _⟩ d_Mo_clipNear_9) ?_
  obtain rfl := Option.some.inj hf
  exact r_lretR X d_Mo_clipNear_12

set_option maxHeartbeats 4000000 in
set_option maxRecDepth 100000 in
theorem c_Mo_clipNear {l : Launch} {D : va_G} {cA : Nat → ClassId} {dA z0 : Nat} {μ : mM} {x0 : Int64} {x2 : Int64} {r : Int64} (hf : f_Mo_clipNear μ x0 x2 = some r) : Met l y_Mo_clipNear (mW y_Mo_clipNear b_Mo_clipNear 6 (some .long)) rm_Mo_clipNear (va_Pc [.long x0, .long x2] (mPr D cA dA z0 μ)) (mQR (some (.long r))) 0 0 (fun _ => False) := by
  refine Met.ofW (cc := b_Mo_clipNear) (maxL := 6) (ret := (some .long)) (by decide) rfl ?_
  intro p e s m args below meth c s₁ B hml hv
  obtain ⟨rfl, G, hP⟩ := hv
  have X := mX.of B hml
  exact m_entry (lv := [(0, .long x0), (2, .long x2)]) (Nat.le_of_ble_eq_true rfl) rfl (fun ls hl => w_Mo_clipNear X G (mI.start hP) hf hl)

end WK
