section WK
variable {p : Program} {l : Launch} {e : Env} {s : State} {m : MethodId} {args : Array Value} {below : List Frame} {meth : Method} {c : Code} {D : va_G} {cA : Nat → ClassId} {dA z0 : Nat}
abbrev rm_Buffer_plainForm (k n : Nat) : Room := { frames := 2, cells := k, slots := n, locals := 48 }
theorem h_Buffer_plainForm : mCV y_Buffer_plainForm b_Buffer_plainForm 9 (some (.array .int)) 0 := ⟨k_260, k_76, ⟨by decide, by decide, by decide +kernel⟩, k_258, k_259⟩
set_option maxHeartbeats 4000000 in
set_option maxRecDepth 100000 in
theorem w_Buffer_plainForm_197 {h0 : Nat} {ws : Nat} {r : (Option Nat) × mM × Nat × Nat} (X : mX p m meth c s args b_Buffer_plainForm 9 (some (.array .int)) "ColourLinker$Buffer") (G : mG D cA dA z0 s) {H : Heap} {locs : List Loc} {μ : mM} {z w : Nat} {ls : Array Slot} {x2 : Option Nat} {x4 : Int32} (hq : mq ws w z r.2.2.1 r.2.2.2) (I : mI D cA z0 s μ H locs z) (hf : f_Buffer_plainForm_197 h0 μ z w x2 x4 = some r) (hl : lv_has ls 9 [(0, va_rf (some h0)), (2, va_rf x2), (4, .int x4)]) : W p l e (rm_Buffer_plainForm (r.2.2.1 - s.heap.size) (r.2.2.2 - ws)) s m args below meth c H locs (z - s.heap.size) (w - ws) (MQ below (mQN D cA z0 (some (va_rf r.1)) r.2.1 r.2.2.1) args s (r.2.2.1 - s.heap.size) (r.2.2.2 - ws) (mA z0)) (F0 m 197 ls []) := by
  have hx := X.ex
  have hb := X.by_
  unfold f_Buffer_plainForm_197 at hf
  refine r_aload_n X d_Buffer_plainForm_197 rfl (lv_at hl 1 rfl) ?_
  refine lv_iconst (v := 0) hx hb d_Buffer_plainForm_198 (by decide) ?_
  refine lv_iload hx hb d_Buffer_plainForm_199 (lv_at hl 2 rfl) ?_
  refine lv_sipush (v := 256) hx hb d_Buffer_plainForm_201 (by decide) ?_
  refine lv_idiv hx hb d_Buffer_plainForm_204 (by decide) ?_
  obtain ⟨m25, hv, hf⟩ := mbind hf
  refine r_iast X G I hv d_Buffer_plainForm_205 (fun H locs I => ?_)
  refine r_aload_n X d_Buffer_plainForm_206 rfl (lv_at hl 1 rfl) ?_
  refine lv_iconst (v := 1) hx hb d_Buffer_plainForm_207 (by decide) ?_
  refine lv_iload hx hb d_Buffer_plainForm_208 (lv_at hl 2 rfl) ?_
  refine lv_sipush (v := 256) hx hb d_Buffer_plainForm_210 (by decide) ?_
  refine lv_irem hx hb d_Buffer_plainForm_213 (by decide) ?_
  obtain ⟨m26, hv, hf⟩ := mbind hf
  refine r_iast X G I hv d_Buffer_plainForm_214 (fun H locs I => ?_)
  refine r_aload_n X d_Buffer_plainForm_215 rfl (lv_at hl 1 rfl) ?_
  refine lv_iload hx hb d_Buffer_plainForm_216 (lv_at hl 2 rfl) ?_
  obtain ⟨q27, hv, hf⟩ := mbind hf
  obtain ⟨hz1, hw1, hz2, hw2, hf⟩ := mmT_e hf
  have hrn := hq.rmN I hz1 hw1 hz2 hw2
  refine m_caN (m_runS (As := [va_rf x2, .int x4]) (rest := []) X h_Arrays_copyOf k_268 (c_Arrays_copyOf hv) mPn_blind (m_preN G I) rfl rfl hl.1 (Nat.le_of_ble_eq_true rfl) rfl rfl ⟨Nat.le_of_ble_eq_true rfl, Nat.le_of_ble_eq_true rfl⟩ hrn d_Buffer_plainForm_218) I hq.1 hz1 hw1 (fun H locs I => ?_)
  have hq := hq.up hw1 hz2 hw2
  obtain rfl := Option.some.inj hf
  exact r_aretN X I (Or.inr ⟨_, rfl⟩) d_Buffer_plainForm_221

set_option maxHeartbeats 4000000 in
set_option maxRecDepth 100000 in
theorem w_Buffer_plainForm_191 {h0 : Nat} {ws : Nat} {r : (Option Nat) × mM × Nat × Nat} (X : mX p m meth c s args b_Buffer_plainForm 9 (some (.array .int)) "ColourLinker$Buffer") (G : mG D cA dA z0 s) {k : mM → Nat → Nat → (Option Nat) → (Option Nat) → Int32 → Int32 → Int32 → Option ((Option Nat) × mM × Nat × Nat)} {kx197 : mM → Nat → Nat → (Option Nat) → Int32 → Option ((Option Nat) × mM × Nat × Nat)} (hk : ∀ (H : Heap) (locs : List Loc) (μ : mM) (z w : Nat) (ls : Array Slot) (x1 : Option Nat) (x2 : Option Nat) (x3 : Int32) (x4 : Int32) (x5 : Int32), mq ws w z r.2.2.1 r.2.2.2 → mI D cA z0 s μ H locs z → k μ z w x1 x2 x3 x4 x5 = some r → lv_has ls 9 [(0, va_rf (some h0)), (1, va_rf x1), (2, va_rf x2), (3, .int x3), (4, .int x4), (5, .int x5)] → W p l e (rm_Buffer_plainForm (r.2.2.1 - s.heap.size) (r.2.2.2 - ws)) s m args below meth c H locs (z - s.heap.size) (w - ws) (MQ below (mQN D cA z0 (some (va_rf r.1)) r.2.1 r.2.2.1) args s (r.2.2.1 - s.heap.size) (r.2.2.2 - ws) (mA z0)) (F0 m 81 ls [])) (hkx197 : ∀ (H : Heap) (locs : List Loc) (μ : mM) (z w : Nat) (ls : Array Slot) (x2 : Option Nat) (x4 : Int32), mq ws w z r.2.2.1 r.2.2.2 → mI D cA z0 s μ H locs z → kx197 μ z w x2 x4 = some r → lv_has ls 9 [(0, va_rf (some h0)), (2, va_rf x2), (4, .int x4)] → W p l e (rm_Buffer_plainForm (r.2.2.1 - s.heap.size) (r.2.2.2 - ws)) s m args below meth c H locs (z - s.heap.size) (w - ws) (MQ below (mQN D cA z0 (some (va_rf r.1)) r.2.1 r.2.2.1) args s (r.2.2.1 - s.heap.size) (r.2.2.2 - ws) (mA z0)) (F0 m 197 ls [])) {H : Heap} {locs : List Loc} {μ : mM} {z w : Nat} {ls : Array Slot} {x1 : Option Nat} {x2 : Option Nat} {x3 : Int32} {x4 : Int32} {x5 : Int32} (hq : mq ws w z r.2.2.1 r.2.2.2) (I : mI D cA z0 s μ H locs z) (hf : f_Buffer_plainForm_191 h0 k kx197 μ z w x1 x2 x3 x4 x5 = some r) (hl : lv_has ls 9 [(0, va_rf (some h0)), (1, va_rf x1), (2, va_rf x2), (3, .int x3), (4, .int x4), (5, .int x5)]) : W p l e (rm_Buffer_plainForm (r.2.2.1 - s.heap.size) (r.2.2.2 - ws)) s m args below meth c H locs (z - s.heap.size) (w - ws) (MQ below (mQN D cA z0 (some (va_rf r.1)) r.2.1 r.2.2.1) args s (r.2.2.1 - s.heap.size) (r.2.2.2 - ws) (mA z0)) (F0 m 191 ls []) := by
  have hx := X.ex
  have hb := X.by_
  unfold f_Buffer_plainForm_191 at hf
  refine lv_iinc (i := 5) (k := 5) (v := (x5 + (1 : Int32))) (lv' := [(5, .int (x5 + (1 : Int32))), (0, va_rf (some h0)), (1, va_rf x1), (2, va_rf x2), (3, .int x3), (4, .int x4)]) hx hb d_Buffer_plainForm_191 hl rfl (congrArg (fun t => x5 + t) (by decide : Int32.ofInt (1) = (1 : Int32))) (by decide) rfl (fun ls hl => ?_)
  refine lv_goto (tgt := 81) hx hb d_Buffer_plainForm_194 (by decide) ?_
  exact hk _ _ _ _ _ _ _ _ _ _ _ hq I hf (lv_sub hl [1, 2, 3, 4, 5, 0] rfl)

set_option maxHeartbeats 4000000 in
set_option maxRecDepth 100000 in
theorem w_Buffer_plainForm_169 {h0 : Nat} {ws : Nat} {r : (Option Nat) × mM × Nat × Nat} (X : mX p m meth c s args b_Buffer_plainForm 9 (some (.array .int)) "ColourLinker$Buffer") (G : mG D cA dA z0 s) {k : mM → Nat → Nat → (Option Nat) → (Option Nat) → Int32 → Int32 → Int32 → Option ((Option Nat) × mM × Nat × Nat)} {kx197 : mM → Nat → Nat → (Option Nat) → Int32 → Option ((Option Nat) × mM × Nat × Nat)} (hk : ∀ (H : Heap) (locs : List Loc) (μ : mM) (z w : Nat) (ls : Array Slot) (x1 : Option Nat) (x2 : Option Nat) (x3 : Int32) (x4 : Int32) (x5 : Int32), mq ws w z r.2.2.1 r.2.2.2 → mI D cA z0 s μ H locs z → k μ z w x1 x2 x3 x4 x5 = some r → lv_has ls 9 [(0, va_rf (some h0)), (1, va_rf x1), (2, va_rf x2), (3, .int x3), (4, .int x4), (5, .int x5)] → W p l e (rm_Buffer_plainForm (r.2.2.1 - s.heap.size) (r.2.2.2 - ws)) s m args below meth c H locs (z - s.heap.size) (w - ws) (MQ below (mQN D cA z0 (some (va_rf r.1)) r.2.1 r.2.2.1) args s (r.2.2.1 - s.heap.size) (r.2.2.2 - ws) (mA z0)) (F0 m 81 ls [])) (hkx197 : ∀ (H : Heap) (locs : List Loc) (μ : mM) (z w : Nat) (ls : Array Slot) (x2 : Option Nat) (x4 : Int32), mq ws w z r.2.2.1 r.2.2.2 → mI D cA z0 s μ H locs z → kx197 μ z w x2 x4 = some r → lv_has ls 9 [(0, va_rf (some h0)), (2, va_rf x2), (4, .int x4)] → W p l e (rm_Buffer_plainForm (r.2.2.1 - s.heap.size) (r.2.2.2 - ws)) s m args below meth c H locs (z - s.heap.size) (w - ws) (MQ below (mQN D cA z0 (some (va_rf r.1)) r.2.1 r.2.2.1) args s (r.2.2.1 - s.heap.size) (r.2.2.2 - ws) (mA z0)) (F0 m 197 ls [])) {H : Heap} {locs : List Loc} {μ : mM} {z w : Nat} {ls : Array Slot} {x1 : Option Nat} {x2 : Option Nat} {x3 : Int32} {x4 : Int32} {x5 : Int32} {x7 : Int32} {x8 : Int32} (hq : mq ws w z r.2.2.1 r.2.2.2) (I : mI D cA z0 s μ H locs z) (hf : f_Buffer_plainForm_169 h0 k kx197 μ z w x1 x2 x3 x4 x5 x7 x8 = some r) (hl : lv_has ls 9 [(0, va_rf (some h0)), (1, va_rf x1), (2, va_rf x2), (3, .int x3), (4, .int x4), (5, .int x5), (7, .int x7), (8, .int x8)]) : W p l e (rm_Buffer_plainForm (r.2.2.1 - s.heap.size) (r.2.2.2 - ws)) s m args below meth c H locs (z - s.heap.size) (w - ws) (MQ below (mQN D cA z0 (some (va_rf r.1)) r.2.1 r.2.2.1) args s (r.2.2.1 - s.heap.size) (r.2.2.2 - ws) (mA z0)) (F0 m 169 ls []) := by
  have hx := X.ex
  have hb := X.by_
  unfold f_Buffer_plainForm_169 at hf
  refine r_aload_n X d_Buffer_plainForm_169 rfl (lv_at hl 2 rfl) ?_
  refine lv_iload_n hx hb d_Buffer_plainForm_170 rfl (lv_at hl 3 rfl) ?_
  refine lv_iload hx hb d_Buffer_plainForm_171 (lv_at hl 5 rfl) ?_
  obtain ⟨m22, hv, hf⟩ := mbind hf
  refine r_iast X G I hv d_Buffer_plainForm_173 (fun H locs I => ?_)
  refine r_aload_n X d_Buffer_plainForm_174 rfl (lv_at hl 2 rfl) ?_
  refine lv_iload_n hx hb d_Buffer_plainForm_175 rfl (lv_at hl 3 rfl) ?_
  refine lv_iconst (v := 1) hx hb d_Buffer_plainForm_176 (by decide) ?_
  refine lv_iadd hx hb d_Buffer_plainForm_177 ?_
  refine lv_iload hx hb d_Buffer_plainForm_178 (lv_at hl 7 rfl) ?_
  obtain ⟨m23, hv, hf⟩ := mbind hf
  refine r_iast X G I hv d_Buffer_plainForm_180 (fun H locs I => ?_)
  refine r_aload_n X d_Buffer_plainForm_181 rfl (lv_at hl 2 rfl) ?_
  refine lv_iload_n hx hb d_Buffer_plainForm_182 rfl (lv_at hl 3 rfl) ?_
  refine lv_iconst (v := 2) hx hb d_Buffer_plainForm_183 (by decide) ?_
  refine lv_iadd hx hb d_Buffer_plainForm_184 ?_
  refine lv_iload hx hb d_Buffer_plainForm_185 (lv_at hl 6 rfl) ?_
  obtain ⟨m24, hv, hf⟩ := mbind hf
  refine r_iast X G I hv d_Buffer_plainForm_187 (fun H locs I => ?_)
  refine lv_iinc (i := 3) (k := 3) (v := (x3 + (4 : Int32))) (lv' := [(3, .int (x3 + (4 : Int32))), (0, va_rf (some h0)), (1, va_rf x1), (2, va_rf x2), (4, .int x4), (5, .int x5), (7, .int x7), (8, .int x8)]) hx hb d_Buffer_plainForm_188 hl rfl (congrArg (fun t => x3 + t) (by decide : Int32.ofInt (4) = (4 : Int32))) (by decide) (by simp [mrf_cat]) (fun ls hl => ?_)
  exact w_Buffer_plainForm_191 X G hk hkx197 hq I hf (lv_sub hl [1, 2, 3, 0, 4, 5] rfl)

set_option maxHeartbeats 4000000 in
set_option maxRecDepth 100000 in
theorem w_Buffer_plainForm_81 {h0 : Nat} {ws : Nat} {r : (Option Nat) × mM × Nat × Nat} (X : mX p m meth c s args b_Buffer_plainForm 9 (some (.array .int)) "ColourLinker$Buffer") (G : mG D cA dA z0 s) {kx197 : mM → Nat → Nat → (Option Nat) → Int32 → Option ((Option Nat) × mM × Nat × Nat)} (hkx197 : ∀ (H : Heap) (locs : List Loc) (μ : mM) (z w : Nat) (ls : Array Slot) (x2 : Option Nat) (x4 : Int32), mq ws w z r.2.2.1 r.2.2.2 → mI D cA z0 s μ H locs z → kx197 μ z w x2 x4 = some r → lv_has ls 9 [(0, va_rf (some h0)), (2, va_rf x2), (4, .int x4)] → W p l e (rm_Buffer_plainForm (r.2.2.1 - s.heap.size) (r.2.2.2 - ws)) s m args below meth c H locs (z - s.heap.size) (w - ws) (MQ below (mQN D cA z0 (some (va_rf r.1)) r.2.1 r.2.2.1) args s (r.2.2.1 - s.heap.size) (r.2.2.2 - ws) (mA z0)) (F0 m 197 ls [])) : ∀ (n : Nat) (H : Heap) (locs : List Loc) (μ : mM) (z w : Nat) (ls : Array Slot) (x1 : Option Nat) (x2 : Option Nat) (x3 : Int32) (x4 : Int32) (x5 : Int32), mq ws w z r.2.2.1 r.2.2.2 → mI D cA z0 s μ H locs z → f_Buffer_plainForm_81 h0 kx197 n μ z w x1 x2 x3 x4 x5 = some r → lv_has ls 9 [(0, va_rf (some h0)), (1, va_rf x1), (2, va_rf x2), (3, .int x3), (4, .int x4), (5, .int x5)] → W p l e (rm_Buffer_plainForm (r.2.2.1 - s.heap.size) (r.2.2.2 - ws)) s m args below meth c H locs (z - s.heap.size) (w - ws) (MQ below (mQN D cA z0 (some (va_rf r.1)) r.2.1 r.2.2.1) args s (r.2.2.1 - s.heap.size) (r.2.2.2 - ws) (mA z0)) (F0 m 81 ls []) := by
  have hx := X.ex
  have hb := X.by_
  intro n
  induction n with
  | zero => intro H locs μ z w ls x1 x2 x3 x4 x5 hq I hf hl; rw [f_Buffer_plainForm_81] at hf; cases hf
  | succ n ih =>
    intro H locs μ z w ls x1 x2 x3 x4 x5 hq I hf hl
    rw [f_Buffer_plainForm_81] at hf
    refine lv_iload hx hb d_Buffer_plainForm_81 (lv_at hl 5 rfl) ?_
    refine lv_bipush (v := 12) hx hb d_Buffer_plainForm_83 (by decide) ?_
    refine lv_icmp_gt (tgt := 197) hx hb d_Buffer_plainForm_85 (by decide) (fun hc => ?_) (fun hc => ?_)
    · have hf := mift hf hc
      exact hkx197 _ _ _ _ _ _ _ _ hq I hf (lv_sub hl [0, 2, 4] rfl)
    · have hf := miff hf hc
      refine r_aload_n X d_Buffer_plainForm_88 rfl (lv_at hl 1 rfl) ?_
      refine lv_iload hx hb d_Buffer_plainForm_89 (lv_at hl 5 rfl) ?_
      obtain ⟨v12, hv, hf⟩ := mbind hf
      refine r_iald X G I hv d_Buffer_plainForm_91 ?_
      refine lv_if_eq (tgt := 191) hx hb d_Buffer_plainForm_92 (by decide) (fun hc => ?_) (fun hc => ?_)
      · have hf := mift hf hc
        exact w_Buffer_plainForm_191 X G ih hkx197 hq I hf hl
      · have hf := miff hf hc
        refine r_aload_n X d_Buffer_plainForm_95 rfl (lv_at hl 0 rfl) ?_
        obtain ⟨v13, hv, hf⟩ := mbind hf
        refine r_getf X G I (mfA_e hv) o_Buffer_row k_105 (Or.inl rfl) d_Buffer_plainForm_96 ?_
        refine r_aload_n X d_Buffer_plainForm_99 rfl (lv_at hl 1 rfl) ?_
        refine lv_iload hx hb d_Buffer_plainForm_100 (lv_at hl 5 rfl) ?_
        obtain ⟨v14, hv, hf⟩ := mbind hf
        refine r_iald X G I hv d_Buffer_plainForm_102 ?_
        refine lv_iconst (v := 1) hx hb d_Buffer_plainForm_103 (by decide) ?_
        refine lv_iadd hx hb d_Buffer_plainForm_104 ?_
        obtain ⟨v15, hv, hf⟩ := mbind hf
        refine r_iald X G I hv d_Buffer_plainForm_105 ?_
        refine lv_istore (i := 6) (lv' := [(6, .int v15), (0, va_rf (some h0)), (1, va_rf x1), (2, va_rf x2), (3, .int x3), (4, .int x4), (5, .int x5)]) hx hb d_Buffer_plainForm_106 hl (by decide) rfl (fun ls hl => ?_)
        refine r_aload_n X d_Buffer_plainForm_108 rfl (lv_at hl 1 rfl) ?_
        obtain ⟨v16, hv, hf⟩ := mbind hf
        refine r_getf X G I (mfA_e hv) o_Buffer_row k_105 (Or.inl rfl) d_Buffer_plainForm_109 ?_
        refine r_aload_n X d_Buffer_plainForm_112 rfl (lv_at hl 2 rfl) ?_
        refine lv_iload hx hb d_Buffer_plainForm_113 (lv_at hl 6 rfl) ?_
        obtain ⟨v17, hv, hf⟩ := mbind hf
        refine r_iald X G I hv d_Buffer_plainForm_115 ?_
        refine lv_iconst (v := 2) hx hb d_Buffer_plainForm_116 (by decide) ?_
        refine lv_iadd hx hb d_Buffer_plainForm_117 ?_
        obtain ⟨v18, hv, hf⟩ := mbind hf
        refine r_iald X G I hv d_Buffer_plainForm_118 ?_
        refine lv_istore (i := 7) (lv' := [(7, .int v18), (6, .int v15), (0, va_rf (some h0)), (1, va_rf x1), (2, va_rf x2), (3, .int x3), (4, .int x4), (5, .int x5)]) hx hb d_Buffer_plainForm_119 hl (by decide) rfl (fun ls hl => ?_)
        refine r_aload_n X d_Buffer_plainForm_121 rfl (lv_at hl 2 rfl) ?_
        refine r_aload_n X d_Buffer_plainForm_122 rfl (lv_at hl 4 rfl) ?_
        refine lv_iload_n hx hb d_Buffer_plainForm_123 rfl (lv_at hl 5 rfl) ?_
        refine lv_iload hx hb d_Buffer_plainForm_124 (lv_at hl 1 rfl) ?_
        refine lv_iload hx hb d_Buffer_plainForm_126 (lv_at hl 0 rfl) ?_
        obtain ⟨q19, hv, hf⟩ := mbind hf
        obtain ⟨a, ha, hv⟩ := mbind hv
        obtain ⟨ha, fs, hm⟩ := mrc_e ha
        refine m_caR (m_runV (As := [va_rf x2, .int x3, .int v15, .int v18]) (r := some h0) (rest := []) X G I h_Buffer_findData k_264 (c_Buffer_findData hv) mPr_blind (m_pre G I) hm rfl ha rfl rfl hl.1 (Nat.le_of_ble_eq_true rfl) rfl rfl ⟨Nat.le_of_ble_eq_true rfl, Nat.le_of_ble_eq_true rfl⟩ hq.rm d_Buffer_plainForm_128) ?_
        refine lv_istore (i := 8) (lv' := [(8, .int q19), (7, .int v18), (6, .int v15), (0, va_rf (some h0)), (1, va_rf x1), (2, va_rf x2), (3, .int x3), (4, .int x4), (5, .int x5)]) hx hb d_Buffer_plainForm_131 hl (by decide) rfl (fun ls hl => ?_)
        refine lv_iload hx hb d_Buffer_plainForm_133 (lv_at hl 0 rfl) ?_
        refine lv_if_ne (tgt := 169) hx hb d_Buffer_plainForm_135 (by decide) (fun hc => ?_) (fun hc => ?_)
        · have hf := miff hf hc
          exact w_Buffer_plainForm_169 X G ih hkx197 hq I hf (lv_sub hl [3, 4, 5, 6, 7, 8, 1, 0] rfl)
        · have hf := mift hf hc
          refine lv_iload hx hb d_Buffer_plainForm_138 (lv_at hl 7 rfl) ?_
          refine lv_istore (i := 8) (lv' := [(8, .int x4), (7, .int v18), (6, .int v15), (0, va_rf (some h0)), (1, va_rf x1), (2, va_rf x2), (3, .int x3), (4, .int x4), (5, .int x5)]) hx hb d_Buffer_plainForm_140 hl (by decide) rfl (fun ls hl => ?_)
          refine r_aload_n X d_Buffer_plainForm_142 rfl (lv_at hl 3 rfl) ?_
          obtain ⟨v20, hv, hf⟩ := mbind hf
          refine r_getf X G I (mfA_e hv) o_Buffer_row k_105 (Or.inl rfl) d_Buffer_plainForm_143 ?_
          refine lv_iload hx hb d_Buffer_plainForm_146 (lv_at hl 2 rfl) ?_
          refine r_aload_n X d_Buffer_plainForm_148 rfl (lv_at hl 5 rfl) ?_
          refine lv_iload hx hb d_Buffer_plainForm_149 (lv_at hl 0 rfl) ?_
          refine lv_iload hx hb d_Buffer_plainForm_151 (lv_at hl 1 rfl) ?_
          obtain ⟨q21, hv, hf⟩ := mbind hf
          refine r_copy (rest := []) X G I hl.1 hv k_261 k_263 k_262 k_81 (Nat.le_of_ble_eq_true rfl) (Nat.le_trans (Nat.add_le_add_right (m_cat8 (Nat.le_of_ble_eq_true rfl)) _) (Nat.le_of_ble_eq_true rfl)) d_Buffer_plainForm_153 (fun H locs I => ?_)
          refine lv_iload hx hb d_Buffer_plainForm_156 (lv_at hl 0 rfl) ?_
          refine lv_iload hx hb d_Buffer_plainForm_158 (lv_at hl 1 rfl) ?_
          refine lv_iadd hx hb d_Buffer_plainForm_160 ?_
          refine lv_iconst (v := 3) hx hb d_Buffer_plainForm_161 (by decide) ?_
          refine lv_iadd hx hb d_Buffer_plainForm_162 ?_
          refine lv_iconst (v := 4) hx hb d_Buffer_plainForm_163 (by decide) ?_
          refine lv_idiv hx hb d_Buffer_plainForm_164 (by decide) ?_
          refine lv_iconst (v := 4) hx hb d_Buffer_plainForm_165 (by decide) ?_
          refine lv_imul hx hb d_Buffer_plainForm_166 ?_
          refine lv_istore (i := 4) (lv' := [(4, .int ((((x4 + v18) + (3 : Int32)) / (4 : Int32)) * (4 : Int32))), (8, .int x4), (7, .int v18), (6, .int v15), (0, va_rf (some h0)), (1, va_rf x1), (2, va_rf x2), (3, .int x3), (5, .int x5)]) hx hb d_Buffer_plainForm_167 hl (by decide) rfl (fun ls hl => ?_)
          exact w_Buffer_plainForm_169 X G ih hkx197 hq I hf (lv_sub hl [4, 5, 6, 7, 0, 8, 2, 1] rfl)

set_option maxHeartbeats 4000000 in
set_option maxRecDepth 100000 in
theorem w_Buffer_plainForm_43 {h0 : Nat} {ws : Nat} {r : (Option Nat) × mM × Nat × Nat} (X : mX p m meth c s args b_Buffer_plainForm 9 (some (.array .int)) "ColourLinker$Buffer") (G : mG D cA dA z0 s) {H : Heap} {locs : List Loc} {μ : mM} {z w : Nat} {ls : Array Slot} {x1 : Option Nat} (hq : mq ws w z r.2.2.1 r.2.2.2) (I : mI D cA z0 s μ H locs z) (hf : f_Buffer_plainForm_43 h0 μ z w x1 = some r) (hl : lv_has ls 9 [(0, va_rf (some h0)), (1, va_rf x1)]) : W p l e (rm_Buffer_plainForm (r.2.2.1 - s.heap.size) (r.2.2.2 - ws)) s m args below meth c H locs (z - s.heap.size) (w - ws) (MQ below (mQN D cA z0 (some (va_rf r.1)) r.2.1 r.2.2.1) args s (r.2.2.1 - s.heap.size) (r.2.2.2 - ws) (mA z0)) (F0 m 43 ls []) := by
  have hx := X.ex
  have hb := X.by_
  unfold f_Buffer_plainForm_43 at hf
  refine lv_sipush (v := 256) hx hb d_Buffer_plainForm_43 (by decide) ?_
  obtain ⟨m7, hv, hf⟩ := mbind hf
  obtain ⟨hz1, hw1, hz2, hw2, hf⟩ := mmT_e hf
  refine r_newa (atype := .int) X G I hq.1 rfl rfl hv hz2 hw2 (Or.inl ⟨rfl, rfl⟩) k_113 d_Buffer_plainForm_46 (fun H I => ?_)
  have hq := hq.up hw1 hz2 hw2
  refine r_astore_n (i := 2) (lv' := [(2, va_rf (some z)), (0, va_rf (some h0)), (1, va_rf x1)]) X d_Buffer_plainForm_48 rfl hl (by decide) (by simp [mrf_cat]) (fun ls hl => ?_)
  refine r_aload_n X d_Buffer_plainForm_49 rfl (lv_at hl 1 rfl) ?_
  obtain ⟨v8, hv, hf⟩ := mbind hf
  refine r_getf X G I (mfA_e hv) o_Buffer_row k_105 (Or.inl rfl) d_Buffer_plainForm_50 ?_
  refine lv_iconst (v := 0) hx hb d_Buffer_plainForm_53 (by decide) ?_
  refine r_aload_n X d_Buffer_plainForm_54 rfl (lv_at hl 0 rfl) ?_
  refine lv_iconst (v := 0) hx hb d_Buffer_plainForm_55 (by decide) ?_
  refine lv_bipush (v := 8) hx hb d_Buffer_plainForm_56 (by decide) ?_
  obtain ⟨q9, hv, hf⟩ := mbind hf
  refine r_copy (rest := []) X G I hl.1 hv k_261 k_263 k_262 k_81 (Nat.le_of_ble_eq_true rfl) (Nat.le_trans (Nat.add_le_add_right (m_cat8 (Nat.le_of_ble_eq_true rfl)) _) (Nat.le_of_ble_eq_true rfl)) d_Buffer_plainForm_58 (fun H locs I => ?_)
  refine lv_bipush (v := 8) hx hb d_Buffer_plainForm_61 (by decide) ?_
  refine lv_istore_n (i := 3) (lv' := [(3, .int (8 : Int32)), (2, va_rf (some z)), (0, va_rf (some h0)), (1, va_rf x1)]) hx hb d_Buffer_plainForm_63 rfl hl (by decide) (by simp [mrf_cat]) (fun ls hl => ?_)
  refine lv_bipush (v := 8) hx hb d_Buffer_plainForm_64 (by decide) ?_
  refine lv_iconst (v := 4) hx hb d_Buffer_plainForm_66 (by decide) ?_
  refine r_aload_n X d_Buffer_plainForm_67 rfl (lv_at hl 2 rfl) ?_
  obtain ⟨v10, hv, hf⟩ := mbind hf
  refine r_getf X G I (mfA_e hv) o_Buffer_row k_105 (Or.inl rfl) d_Buffer_plainForm_68 ?_
  refine lv_bipush (v := 6) hx hb d_Buffer_plainForm_71 (by decide) ?_
  obtain ⟨v11, hv, hf⟩ := mbind hf
  refine r_iald X G I hv d_Buffer_plainForm_73 ?_
  refine lv_imul hx hb d_Buffer_plainForm_74 ?_
  refine lv_iadd hx hb d_Buffer_plainForm_75 ?_
  refine lv_istore (i := 4) (lv' := [(4, .int ((8 : Int32) + ((4 : Int32) * v11))), (3, .int (8 : Int32)), (2, va_rf (some z)), (0, va_rf (some h0)), (1, va_rf x1)]) hx hb d_Buffer_plainForm_76 hl (by decide) rfl (fun ls hl => ?_)
  refine lv_iconst (v := 1) hx hb d_Buffer_plainForm_78 (by decide) ?_
  refine lv_istore (i := 5) (lv' := [(5, .int (1 : Int32)), (4, .int ((8 : Int32) + ((4 : Int32) * v11))), (3, .int (8 : Int32)), (2, va_rf (some z)), (0, va_rf (some h0)), (1, va_rf x1)]) hx hb d_Buffer_plainForm_79 hl (by decide) rfl (fun ls hl => ?_)
  exact w_Buffer_plainForm_81 X G (fun H locs μ z w ls x2 x4 hq I hf hl => w_Buffer_plainForm_197 X G hq I hf hl) 4096 _ _ _ _ _ _ _ _ _ _ _ hq I hf (lv_sub hl [4, 5, 3, 2, 1, 0] rfl)

set_option maxHeartbeats 4000000 in
set_option maxRecDepth 100000 in
theorem w_Buffer_plainForm_7 {h0 : Nat} {ws : Nat} {r : (Option Nat) × mM × Nat × Nat} (X : mX p m meth c s args b_Buffer_plainForm 9 (some (.array .int)) "ColourLinker$Buffer") (G : mG D cA dA z0 s) {kx43 : mM → Nat → Nat → (Option Nat) → Option ((Option Nat) × mM × Nat × Nat)} (hkx43 : ∀ (H : Heap) (locs : List Loc) (μ : mM) (z w : Nat) (ls : Array Slot) (x1 : Option Nat), mq ws w z r.2.2.1 r.2.2.2 → mI D cA z0 s μ H locs z → kx43 μ z w x1 = some r → lv_has ls 9 [(0, va_rf (some h0)), (1, va_rf x1)] → W p l e (rm_Buffer_plainForm (r.2.2.1 - s.heap.size) (r.2.2.2 - ws)) s m args below meth c H locs (z - s.heap.size) (w - ws) (MQ below (mQN D cA z0 (some (va_rf r.1)) r.2.1 r.2.2.1) args s (r.2.2.1 - s.heap.size) (r.2.2.2 - ws) (mA z0)) (F0 m 43 ls [])) : ∀ (n : Nat) (H : Heap) (locs : List Loc) (μ : mM) (z w : Nat) (ls : Array Slot) (x1 : Option Nat) (x2 : Int32), mq ws w z r.2.2.1 r.2.2.2 → mI D cA z0 s μ H locs z → f_Buffer_plainForm_7 h0 kx43 n μ z w x1 x2 = some r → lv_has ls 9 [(0, va_rf (some h0)), (1, va_rf x1), (2, .int x2)] → W p l e (rm_Buffer_plainForm (r.2.2.1 - s.heap.size) (r.2.2.2 - ws)) s m args below meth c H locs (z - s.heap.size) (w - ws) (MQ below (mQN D cA z0 (some (va_rf r.1)) r.2.1 r.2.2.1) args s (r.2.2.1 - s.heap.size) (r.2.2.2 - ws) (mA z0)) (F0 m 7 ls []) := by
  have hx := X.ex
  have hb := X.by_
  intro n
  induction n with
  | zero => intro H locs μ z w ls x1 x2 hq I hf hl; rw [f_Buffer_plainForm_7] at hf; cases hf
  | succ n ih =>
    intro H locs μ z w ls x1 x2 hq I hf hl
    rw [f_Buffer_plainForm_7] at hf
    refine lv_iload_n hx hb d_Buffer_plainForm_7 rfl (lv_at hl 2 rfl) ?_
    refine r_aload_n X d_Buffer_plainForm_8 rfl (lv_at hl 0 rfl) ?_
    obtain ⟨v2, hv, hf⟩ := mbind hf
    refine r_getf X G I (mfA_e hv) o_Buffer_row k_105 (Or.inl rfl) d_Buffer_plainForm_9 ?_
    refine lv_bipush (v := 6) hx hb d_Buffer_plainForm_12 (by decide) ?_
    obtain ⟨v3, hv, hf⟩ := mbind hf
    refine r_iald X G I hv d_Buffer_plainForm_14 ?_
    refine lv_icmp_ge (tgt := 43) hx hb d_Buffer_plainForm_15 (by decide) (fun hc => ?_) (fun hc => ?_)
    · have hf := mift hf hc
      exact hkx43 _ _ _ _ _ _ _ hq I hf (lv_sub hl [0, 1] rfl)
    · have hf := miff hf hc
      refine r_aload_n X d_Buffer_plainForm_18 rfl (lv_at hl 1 rfl) ?_
      refine r_aload_n X d_Buffer_plainForm_19 rfl (lv_at hl 0 rfl) ?_
      obtain ⟨v4, hv, hf⟩ := mbind hf
      refine r_getf X G I (mfA_e hv) o_Buffer_row k_105 (Or.inl rfl) d_Buffer_plainForm_20 ?_
      refine lv_bipush (v := 8) hx hb d_Buffer_plainForm_23 (by decide) ?_
      refine lv_iconst (v := 4) hx hb d_Buffer_plainForm_25 (by decide) ?_
      refine lv_iload_n hx hb d_Buffer_plainForm_26 rfl (lv_at hl 2 rfl) ?_
      refine lv_imul hx hb d_Buffer_plainForm_27 ?_
      refine lv_iadd hx hb d_Buffer_plainForm_28 ?_
      obtain ⟨v5, hv, hf⟩ := mbind hf
      refine r_iald X G I hv d_Buffer_plainForm_29 ?_
      refine lv_bipush (v := 8) hx hb d_Buffer_plainForm_30 (by decide) ?_
      refine lv_iconst (v := 4) hx hb d_Buffer_plainForm_32 (by decide) ?_
      refine lv_iload_n hx hb d_Buffer_plainForm_33 rfl (lv_at hl 2 rfl) ?_
      refine lv_imul hx hb d_Buffer_plainForm_34 ?_
      refine lv_iadd hx hb d_Buffer_plainForm_35 ?_
      obtain ⟨m6, hv, hf⟩ := mbind hf
      refine r_iast X G I hv d_Buffer_plainForm_36 (fun H locs I => ?_)
      refine lv_iinc (i := 2) (k := 2) (v := (x2 + (1 : Int32))) (lv' := [(2, .int (x2 + (1 : Int32))), (0, va_rf (some h0)), (1, va_rf x1)]) hx hb d_Buffer_plainForm_37 hl rfl (congrArg (fun t => x2 + t) (by decide : Int32.ofInt (1) = (1 : Int32))) (by decide) (by simp [mrf_cat]) (fun ls hl => ?_)
      refine lv_goto (tgt := 7) hx hb d_Buffer_plainForm_40 (by decide) ?_
      exact ih _ _ _ _ _ _ _ _ hq I hf (lv_sub hl [1, 2, 0] rfl)

set_option maxHeartbeats 4000000 in
set_option maxRecDepth 100000 in
theorem w_Buffer_plainForm {h0 : Nat} {ws : Nat} {r : (Option Nat) × mM × Nat × Nat} (X : mX p m meth c s args b_Buffer_plainForm 9 (some (.array .int)) "ColourLinker$Buffer") (G : mG D cA dA z0 s) {H : Heap} {locs : List Loc} {μ : mM} {z w : Nat} {ls : Array Slot}  (hw : ws ≤ w) (I : mI D cA z0 s μ H locs z) (hf : f_Buffer_plainForm h0 μ z w = some r) (hl : lv_has ls 9 [(0, va_rf (some h0))]) : W p l e (rm_Buffer_plainForm (r.2.2.1 - s.heap.size) (r.2.2.2 - ws)) s m args below meth c H locs (z - s.heap.size) (w - ws) (MQ below (mQN D cA z0 (some (va_rf r.1)) r.2.1 r.2.2.1) args s (r.2.2.1 - s.heap.size) (r.2.2.2 - ws) (mA z0)) (F0 m 0 ls []) := by
  have hx := X.ex
  have hb := X.by_
  unfold f_Buffer_plainForm at hf
  obtain ⟨-, -, hz2, hw2, hf⟩ := mmT_e hf
  have hq : mq ws w z r.2.2.1 r.2.2.2 := ⟨hw, hz2, hw2⟩
  refine lv_bipush (v := 13) hx hb d_Buffer_plainForm_0 (by decide) ?_
  obtain ⟨m1, hv, hf⟩ := mbind hf
  obtain ⟨hz1, hw1, hz2, hw2, hf⟩ := mmT_e hf
  refine r_newa (atype := .int) X G I hq.1 rfl rfl hv hz2 hw2 (Or.inl ⟨rfl, rfl⟩) k_113 d_Buffer_plainForm_2 (fun H I => ?_)
  have hq := hq.up hw1 hz2 hw2
  refine r_astore_n (i := 1) (lv' := [(1, va_rf (some z)), (0, va_rf (some h0))]) X d_Buffer_plainForm_4 rfl hl (by decide) (by simp [mrf_cat]) (fun ls hl => ?_)
  refine lv_iconst (v := 0) hx hb d_Buffer_plainForm_5 (by decide) ?_
  refine lv_istore_n (i := 2) (lv' := [(2, .int (0 : Int32)), (1, va_rf (some z)), (0, va_rf (some h0))]) hx hb d_Buffer_plainForm_6 rfl hl (by decide) (by simp [mrf_cat]) (fun ls hl => ?_)
  exact w_Buffer_plainForm_7 X G (fun H locs μ z w ls x1 hq I hf hl => w_Buffer_plainForm_43 X G hq I hf hl) 4096 _ _ _ _ _ _ _ _ hq I hf (lv_sub hl [2, 1, 0] rfl)

set_option maxHeartbeats 4000000 in
set_option maxRecDepth 100000 in
theorem c_Buffer_plainForm {l : Launch} {D : va_G} {cA : Nat → ClassId} {dA z0 : Nat} {μ : mM} {h0 : Nat} {z w : Nat} {r : (Option Nat) × mM × Nat × Nat} (hf : f_Buffer_plainForm h0 μ z w = some r) : Met l y_Buffer_plainForm (mW y_Buffer_plainForm b_Buffer_plainForm 9 (some (.array .int))) (rm_Buffer_plainForm (r.2.2.1 - z) (r.2.2.2 - w)) (va_Pc [.ref h0] (mPn D cA dA z0 μ z)) (mQN D cA z0 (some (va_rf r.1)) r.2.1 r.2.2.1) (r.2.2.1 - z) (r.2.2.2 - w) (mA z0) := by
  refine Met.ofW (cc := b_Buffer_plainForm) (maxL := 9) (ret := (some (.array .int))) (by decide) rfl ?_
  intro p e s m args below meth c s₁ B hml hv
  obtain ⟨rfl, G, hP, rfl⟩ := hv
  have X := mX.of B hml
  refine m_entry (lv := [(0, va_rf (some h0))]) (Nat.le_of_ble_eq_true rfl) rfl (fun ls hl => ?_)
  have h := w_Buffer_plainForm (p := p) (l := l) (e := e) (below := below) X G (Nat.le_refl w) (mI.start hP) hf hl
  rw [Nat.sub_self s.heap.size, Nat.sub_self w] at h
  exact h

abbrev rm_Buffer_countElements : Room := { frames := 0, cells := 0, slots := 0, locals := 0 }
theorem h_Buffer_countElements : mCV y_Buffer_countElements b_Buffer_countElements 5 (some .int) 0 := ⟨k_285, k_76, ⟨by decide, by decide, by decide +kernel⟩, k_283, k_284⟩
set_option maxHeartbeats 4000000 in
set_option maxRecDepth 100000 in
theorem w_Buffer_countElements_86 {μ : mM} {h0 : Nat} {r : Int32} (X : mX p m meth c s args b_Buffer_countElements 5 (some .int) "ColourLinker$Buffer") (G : mG D cA dA z0 s) (I : mI D cA z0 s μ s.heap [] s.heap.size) {ls : Array Slot} {x1 : Int32} (hf : f_Buffer_countElements_86 μ h0 x1 = some r) (hl : lv_has ls 5 [(0, va_rf (some h0)), (1, .int x1)]) : W p l e rm_Buffer_countElements s m args below meth c s.heap [] 0 0 (MQ below (mQR (some (.int r))) args s 0 0 (fun _ => False)) (F0 m 86 ls []) := by
  have hx := X.ex
  have hb := X.by_
  unfold f_Buffer_countElements_86 at hf
  refine lv_iload_n hx hb d_Buffer_countElements_86 rfl (lv_at hl 1 rfl) ?_
  obtain rfl := Option.some.inj hf
  exact r_iretR X d_Buffer_countElements_87

set_option maxHeartbeats 4000000 in
set_option maxRecDepth 100000 in
theorem w_Buffer_countElements_78 {μ : mM} {h0 : Nat} {r : Int32} (X : mX p m meth c s args b_Buffer_countElements 5 (some .int) "ColourLinker$Buffer") (G : mG D cA dA z0 s) (I : mI D cA z0 s μ s.heap [] s.heap.size) {k : Int32 → Int32 → Option (Int32)} {kx86 : Int32 → Option (Int32)} (hk : ∀ (ls : Array Slot) (x1 : Int32) (x2 : Int32), k x1 x2 = some r → lv_has ls 5 [(0, va_rf (some h0)), (1, .int x1), (2, .int x2)] → W p l e rm_Buffer_countElements s m args below meth c s.heap [] 0 0 (MQ below (mQR (some (.int r))) args s 0 0 (fun _ => False)) (F0 m 4 ls [])) (hkx86 : ∀ (ls : Array Slot) (x1 : Int32), kx86 x1 = some r → lv_has ls 5 [(0, va_rf (some h0)), (1, .int x1)] → W p l e rm_Buffer_countElements s m args below meth c s.heap [] 0 0 (MQ below (mQR (some (.int r))) args s 0 0 (fun _ => False)) (F0 m 86 ls [])) {ls : Array Slot} {x2 : Int32} {s0 : Int32} {s1 : Int32} (hf : f_Buffer_countElements_78 μ h0 k kx86 x2 s0 s1 = some r) (hl : lv_has ls 5 [(0, va_rf (some h0)), (2, .int x2)]) : W p l e rm_Buffer_countElements s m args below meth c s.heap [] 0 0 (MQ below (mQR (some (.int r))) args s 0 0 (fun _ => False)) (F0 m 78 ls [.int s1, .int s0]) := by
  have hx := X.ex
  have hb := X.by_
  unfold f_Buffer_countElements_78 at hf
  refine lv_iadd hx hb d_Buffer_countElements_78 ?_
  refine lv_istore_n (i := 1) (lv' := [(1, .int (s0 + s1)), (0, va_rf (some h0)), (2, .int x2)]) hx hb d_Buffer_countElements_79 rfl hl (by decide) (by simp [mrf_cat]) (fun ls hl => ?_)
  refine lv_iinc (i := 2) (k := 2) (v := (x2 + (1 : Int32))) (lv' := [(2, .int (x2 + (1 : Int32))), (1, .int (s0 + s1)), (0, va_rf (some h0))]) hx hb d_Buffer_countElements_80 hl rfl (congrArg (fun t => x2 + t) (by decide : Int32.ofInt (1) = (1 : Int32))) (by decide) rfl (fun ls hl => ?_)
  refine lv_goto (tgt := 4) hx hb d_Buffer_countElements_83 (by decide) ?_
  exact hk _ _ _ hf (lv_sub hl [2, 1, 0] rfl)

set_option maxHeartbeats 4000000 in
set_option maxRecDepth 100000 in
theorem w_Buffer_countElements_68 {μ : mM} {h0 : Nat} {r : Int32} (X : mX p m meth c s args b_Buffer_countElements 5 (some .int) "ColourLinker$Buffer") (G : mG D cA dA z0 s) (I : mI D cA z0 s μ s.heap [] s.heap.size) {k : Int32 → Int32 → Option (Int32)} {kx86 : Int32 → Option (Int32)} (hk : ∀ (ls : Array Slot) (x1 : Int32) (x2 : Int32), k x1 x2 = some r → lv_has ls 5 [(0, va_rf (some h0)), (1, .int x1), (2, .int x2)] → W p l e rm_Buffer_countElements s m args below meth c s.heap [] 0 0 (MQ below (mQR (some (.int r))) args s 0 0 (fun _ => False)) (F0 m 4 ls [])) (hkx86 : ∀ (ls : Array Slot) (x1 : Int32), kx86 x1 = some r → lv_has ls 5 [(0, va_rf (some h0)), (1, .int x1)] → W p l e rm_Buffer_countElements s m args below meth c s.heap [] 0 0 (MQ below (mQR (some (.int r))) args s 0 0 (fun _ => False)) (F0 m 86 ls [])) {ls : Array Slot} {x1 : Int32} {x2 : Int32} {x3 : Int32} (hf : f_Buffer_countElements_68 μ h0 k kx86 x1 x2 x3 = some r) (hl : lv_has ls 5 [(0, va_rf (some h0)), (1, .int x1), (2, .int x2), (3, .int x3)]) : W p l e rm_Buffer_countElements s m args below meth c s.heap [] 0 0 (MQ below (mQR (some (.int r))) args s 0 0 (fun _ => False)) (F0 m 68 ls []) := by
  have hx := X.ex
  have hb := X.by_
  unfold f_Buffer_countElements_68 at hf
  refine lv_iload_n hx hb d_Buffer_countElements_68 rfl (lv_at hl 1 rfl) ?_
  refine lv_iload_n hx hb d_Buffer_countElements_69 rfl (lv_at hl 3 rfl) ?_
  refine lv_if_eq (tgt := 77) hx hb d_Buffer_countElements_70 (by decide) (fun hc => ?_) (fun hc => ?_)
  · have hf := mift hf hc
    refine lv_iconst (v := 1) hx hb d_Buffer_countElements_77 (by decide) ?_
    exact w_Buffer_countElements_78 X G I hk hkx86 hf (lv_sub hl [0, 2] rfl)
  · have hf := miff hf hc
    refine lv_iconst (v := 0) hx hb d_Buffer_countElements_73 (by decide) ?_
    refine lv_goto (tgt := 78) hx hb d_Buffer_countElements_74 (by decide) ?_
    exact w_Buffer_countElements_78 X G I hk hkx86 hf (lv_sub hl [0, 2] rfl)

set_option maxHeartbeats 4000000 in
set_option maxRecDepth 100000 in
theorem w_Buffer_countElements_61 {μ : mM} {h0 : Nat} {r : Int32} (X : mX p m meth c s args b_Buffer_countElements 5 (some .int) "ColourLinker$Buffer") (G : mG D cA dA z0 s) (I : mI D cA z0 s μ s.heap [] s.heap.size) {k : Int32 → Int32 → Int32 → Int32 → Option (Int32)} {kx68 : Int32 → Int32 → Int32 → Option (Int32)} (hk : ∀ (ls : Array Slot) (x1 : Int32) (x2 : Int32) (x3 : Int32) (x4 : Int32), k x1 x2 x3 x4 = some r → lv_has ls 5 [(0, va_rf (some h0)), (1, .int x1), (2, .int x2), (3, .int x3), (4, .int x4)] → W p l e rm_Buffer_countElements s m args below meth c s.heap [] 0 0 (MQ below (mQR (some (.int r))) args s 0 0 (fun _ => False)) (F0 m 20 ls [])) (hkx68 : ∀ (ls : Array Slot) (x1 : Int32) (x2 : Int32) (x3 : Int32), kx68 x1 x2 x3 = some r → lv_has ls 5 [(0, va_rf (some h0)), (1, .int x1), (2, .int x2), (3, .int x3)] → W p l e rm_Buffer_countElements s m args below meth c s.heap [] 0 0 (MQ below (mQR (some (.int r))) args s 0 0 (fun _ => False)) (F0 m 68 ls [])) {ls : Array Slot} {x1 : Int32} {x2 : Int32} {x4 : Int32} {s0 : Int32} (hf : f_Buffer_countElements_61 μ h0 k kx68 x1 x2 x4 s0 = some r) (hl : lv_has ls 5 [(0, va_rf (some h0)), (1, .int x1), (2, .int x2), (4, .int x4)]) : W p l e rm_Buffer_countElements s m args below meth c s.heap [] 0 0 (MQ below (mQR (some (.int r))) args s 0 0 (fun _ => False)) (F0 m 61 ls [.int s0]) := by
  have hx := X.ex
  have hb := X.by_
  unfold f_Buffer_countElements_61 at hf
  refine lv_istore_n (i := 3) (lv' := [(3, .int s0), (0, va_rf (some h0)), (1, .int x1), (2, .int x2), (4, .int x4)]) hx hb d_Buffer_countElements_61 rfl hl (by decide) rfl (fun ls hl => ?_)
  refine lv_iinc (i := 4) (k := 4) (v := (x4 + (1 : Int32))) (lv' := [(4, .int (x4 + (1 : Int32))), (3, .int s0), (0, va_rf (some h0)), (1, .int x1), (2, .int x2)]) hx hb d_Buffer_countElements_62 hl rfl (congrArg (fun t => x4 + t) (by decide : Int32.ofInt (1) = (1 : Int32))) (by decide) rfl (fun ls hl => ?_)
  refine lv_goto (tgt := 20) hx hb d_Buffer_countElements_65 (by decide) ?_
  exact hk _ _ _ _ _ hf (lv_sub hl [2, 3, 4, 1, 0] rfl)

set_option maxHeartbeats 4000000 in
set_option maxRecDepth 100000 in
theorem w_Buffer_countElements_56 {μ : mM} {h0 : Nat} {r : Int32} (X : mX p m meth c s args b_Buffer_countElements 5 (some .int) "ColourLinker$Buffer") (G : mG D cA dA z0 s) (I : mI D cA z0 s μ s.heap [] s.heap.size) {k : Int32 → Int32 → Int32 → Int32 → Option (Int32)} {kx68 : Int32 → Int32 → Int32 → Option (Int32)} (hk : ∀ (ls : Array Slot) (x1 : Int32) (x2 : Int32) (x3 : Int32) (x4 : Int32), k x1 x2 x3 x4 = some r → lv_has ls 5 [(0, va_rf (some h0)), (1, .int x1), (2, .int x2), (3, .int x3), (4, .int x4)] → W p l e rm_Buffer_countElements s m args below meth c s.heap [] 0 0 (MQ below (mQR (some (.int r))) args s 0 0 (fun _ => False)) (F0 m 20 ls [])) (hkx68 : ∀ (ls : Array Slot) (x1 : Int32) (x2 : Int32) (x3 : Int32), kx68 x1 x2 x3 = some r → lv_has ls 5 [(0, va_rf (some h0)), (1, .int x1), (2, .int x2), (3, .int x3)] → W p l e rm_Buffer_countElements s m args below meth c s.heap [] 0 0 (MQ below (mQR (some (.int r))) args s 0 0 (fun _ => False)) (F0 m 68 ls [])) {ls : Array Slot} {x1 : Int32} {x2 : Int32} {x4 : Int32} (hf : f_Buffer_countElements_56 μ h0 k kx68 x1 x2 x4 = some r) (hl : lv_has ls 5 [(0, va_rf (some h0)), (1, .int x1), (2, .int x2), (4, .int x4)]) : W p l e rm_Buffer_countElements s m args below meth c s.heap [] 0 0 (MQ below (mQR (some (.int r))) args s 0 0 (fun _ => False)) (F0 m 56 ls []) := by
  have hx := X.ex
  have hb := X.by_
  unfold f_Buffer_countElements_56 at hf
  refine lv_iconst (v := 1) hx hb d_Buffer_countElements_56 (by decide) ?_
  refine lv_goto (tgt := 61) hx hb d_Buffer_countElements_57 (by decide) ?_
  exact w_Buffer_countElements_61 X G I hk hkx68 hf hl

set_option maxHeartbeats 4000000 in
set_option maxRecDepth 100000 in
theorem w_Buffer_countElements_20 {μ : mM} {h0 : Nat} {r : Int32} (X : mX p m meth c s args b_Buffer_countElements 5 (some .int) "ColourLinker$Buffer") (G : mG D cA dA z0 s) (I : mI D cA z0 s μ s.heap [] s.heap.size) {kx68 : Int32 → Int32 → Int32 → Option (Int32)} (hkx68 : ∀ (ls : Array Slot) (x1 : Int32) (x2 : Int32) (x3 : Int32), kx68 x1 x2 x3 = some r → lv_has ls 5 [(0, va_rf (some h0)), (1, .int x1), (2, .int x2), (3, .int x3)] → W p l e rm_Buffer_countElements s m args below meth c s.heap [] 0 0 (MQ below (mQR (some (.int r))) args s 0 0 (fun _ => False)) (F0 m 68 ls [])) : ∀ (n : Nat) (ls : Array Slot) (x1 : Int32) (x2 : Int32) (x3 : Int32) (x4 : Int32), f_Buffer_countElements_20 μ h0 kx68 n x1 x2 x3 x4 = some r → lv_has ls 5 [(0, va_rf (some h0)), (1, .int x1), (2, .int x2), (3, .int x3), (4, .int x4)] → W p l e rm_Buffer_countElements s m args below meth c s.heap [] 0 0 (MQ below (mQR (some (.int r))) args s 0 0 (fun _ => False)) (F0 m 20 ls []) := by
  have hx := X.ex
  have hb := X.by_
  intro n
  induction n with
  | zero => intro ls x1 x2 x3 x4 hf hl; rw [f_Buffer_countElements_20] at hf; cases hf
  | succ n ih =>
    intro ls x1 x2 x3 x4 hf hl
    rw [f_Buffer_countElements_20] at hf
    refine lv_iload hx hb d_Buffer_countElements_20 (lv_at hl 4 rfl) ?_
    refine lv_iload_n hx hb d_Buffer_countElements_22 rfl (lv_at hl 2 rfl) ?_
    refine lv_icmp_ge (tgt := 68) hx hb d_Buffer_countElements_23 (by decide) (fun hc => ?_) (fun hc => ?_)
    · have hf := mift hf hc
      exact hkx68 _ _ _ _ hf (lv_sub hl [0, 1, 2, 3] rfl)
    · have hf := miff hf hc
      refine lv_iload_n hx hb d_Buffer_countElements_26 rfl (lv_at hl 3 rfl) ?_
      refine lv_if_ne (tgt := 56) hx hb d_Buffer_countElements_27 (by decide) (fun hc => ?_) (fun hc => ?_)
      · have hf := miff hf hc
        exact w_Buffer_countElements_56 X G I ih hkx68 hf (lv_sub hl [0, 1, 2, 4] rfl)
      · have hf := mift hf hc
        refine r_aload_n X d_Buffer_countElements_30 rfl (lv_at hl 0 rfl) ?_
        obtain ⟨v3, hv, hf⟩ := mbind hf
        refine r_getf X G I (mfA_e hv) o_Buffer_row k_105 (Or.inl rfl) d_Buffer_countElements_31 ?_
        refine lv_bipush (v := 9) hx hb d_Buffer_countElements_34 (by decide) ?_
        refine lv_iconst (v := 4) hx hb d_Buffer_countElements_36 (by decide) ?_
        refine lv_iload hx hb d_Buffer_countElements_37 (lv_at hl 4 rfl) ?_
        refine lv_imul hx hb d_Buffer_countElements_39 ?_
        refine lv_iadd hx hb d_Buffer_countElements_40 ?_
        obtain ⟨v4, hv, hf⟩ := mbind hf
        refine r_iald X G I hv d_Buffer_countElements_41 ?_
        refine r_aload_n X d_Buffer_countElements_42 rfl (lv_at hl 0 rfl) ?_
        obtain ⟨v5, hv, hf⟩ := mbind hf
        refine r_getf X G I (mfA_e hv) o_Buffer_row k_105 (Or.inl rfl) d_Buffer_countElements_43 ?_
        refine lv_bipush (v := 9) hx hb d_Buffer_countElements_46 (by decide) ?_
        refine lv_iconst (v := 4) hx hb d_Buffer_countElements_48 (by decide) ?_
        refine lv_iload_n hx hb d_Buffer_countElements_49 rfl (lv_at hl 2 rfl) ?_
        refine lv_imul hx hb d_Buffer_countElements_50 ?_
        refine lv_iadd hx hb d_Buffer_countElements_51 ?_
        obtain ⟨v6, hv, hf⟩ := mbind hf
        refine r_iald X G I hv d_Buffer_countElements_52 ?_
        refine lv_icmp_ne (tgt := 60) hx hb d_Buffer_countElements_53 (by decide) (fun hc => ?_) (fun hc => ?_)
        · have hf := miff hf hc
          refine lv_iconst (v := 0) hx hb d_Buffer_countElements_60 (by decide) ?_
          exact w_Buffer_countElements_61 X G I ih hkx68 hf (lv_sub hl [0, 1, 2, 4] rfl)
        · have hf := mift hf hc
          exact w_Buffer_countElements_56 X G I ih hkx68 hf (lv_sub hl [0, 1, 2, 4] rfl)

set_option maxHeartbeats 4000000 in
set_option maxRecDepth 100000 in
theorem w_Buffer_countElements_4 {μ : mM} {h0 : Nat} {r : Int32} (X : mX p m meth c s args b_Buffer_countElements 5 (some .int) "ColourLinker$Buffer") (G : mG D cA dA z0 s) (I : mI D cA z0 s μ s.heap [] s.heap.size) {kx86 : Int32 → Option (Int32)} (hkx86 : ∀ (ls : Array Slot) (x1 : Int32), kx86 x1 = some r → lv_has ls 5 [(0, va_rf (some h0)), (1, .int x1)] → W p l e rm_Buffer_countElements s m args below meth c s.heap [] 0 0 (MQ below (mQR (some (.int r))) args s 0 0 (fun _ => False)) (F0 m 86 ls [])) : ∀ (n : Nat) (ls : Array Slot) (x1 : Int32) (x2 : Int32), f_Buffer_countElements_4 μ h0 kx86 n x1 x2 = some r → lv_has ls 5 [(0, va_rf (some h0)), (1, .int x1), (2, .int x2)] → W p l e rm_Buffer_countElements s m args below meth c s.heap [] 0 0 (MQ below (mQR (some (.int r))) args s 0 0 (fun _ => False)) (F0 m 4 ls []) := by
  have hx := X.ex
  have hb := X.by_
  intro n
  induction n with
  | zero => intro ls x1 x2 hf hl; rw [f_Buffer_countElements_4] at hf; cases hf
  | succ n ih =>
    intro ls x1 x2 hf hl
    rw [f_Buffer_countElements_4] at hf
    refine lv_iload_n hx hb d_Buffer_countElements_4 rfl (lv_at hl 2 rfl) ?_
    refine r_aload_n X d_Buffer_countElements_5 rfl (lv_at hl 0 rfl) ?_
    obtain ⟨v1, hv, hf⟩ := mbind hf
    refine r_getf X G I (mfA_e hv) o_Buffer_row k_105 (Or.inl rfl) d_Buffer_countElements_6 ?_
    refine lv_bipush (v := 6) hx hb d_Buffer_countElements_9 (by decide) ?_
    obtain ⟨v2, hv, hf⟩ := mbind hf
    refine r_iald X G I hv d_Buffer_countElements_11 ?_
    refine lv_icmp_ge (tgt := 86) hx hb d_Buffer_countElements_12 (by decide) (fun hc => ?_) (fun hc => ?_)
    · have hf := mift hf hc
      exact hkx86 _ _ hf (lv_sub hl [0, 1] rfl)
    · have hf := miff hf hc
      refine lv_iconst (v := 0) hx hb d_Buffer_countElements_15 (by decide) ?_
      refine lv_istore_n (i := 3) (lv' := [(3, .int (0 : Int32)), (0, va_rf (some h0)), (1, .int x1), (2, .int x2)]) hx hb d_Buffer_countElements_16 rfl hl (by decide) rfl (fun ls hl => ?_)
      refine lv_iconst (v := 0) hx hb d_Buffer_countElements_17 (by decide) ?_
      refine lv_istore (i := 4) (lv' := [(4, .int (0 : Int32)), (3, .int (0 : Int32)), (0, va_rf (some h0)), (1, .int x1), (2, .int x2)]) hx hb d_Buffer_countElements_18 hl (by decide) rfl (fun ls hl => ?_)
      exact w_Buffer_countElements_20 X G I (fun ls x1 x2 x3 hf hl => w_Buffer_countElements_68 X G I ih hkx86 hf hl) 4096 _ _ _ _ _ hf (lv_sub hl [2, 3, 4, 1, 0] rfl)

set_option maxHeartbeats 4000000 in
set_option maxRecDepth 100000 in
theorem w_Buffer_countElements {μ : mM} {h0 : Nat} {r : Int32} (X : mX p m meth c s args b_Buffer_countElements 5 (some .int) "ColourLinker$Buffer") (G : mG D cA dA z0 s) (I : mI D cA z0 s μ s.heap [] s.heap.size) {ls : Array Slot}  (hf : f_Buffer_countElements μ h0 = some r) (hl : lv_has ls 5 [(0, va_rf (some h0))]) : W p l e rm_Buffer_countElements s m args below meth c s.heap [] 0 0 (MQ below (mQR (some (.int r))) args s 0 0 (fun _ => False)) (F0 m 0 ls []) := by
  have hx := X.ex
  have hb := X.by_
  unfold f_Buffer_countElements at hf
  refine lv_iconst (v := 0) hx hb d_Buffer_countElements_0 (by decide) ?_
  refine lv_istore_n (i := 1) (lv' := [(1, .int (0 : Int32)), (0, va_rf (some h0))]) hx hb d_Buffer_countElements_1 rfl hl (by decide) (by simp [mrf_cat]) (fun ls hl => ?_)
  refine lv_iconst (v := 0) hx hb d_Buffer_countElements_2 (by decide) ?_
  refine lv_istore_n (i := 2) (lv' := [(2, .int (0 : Int32)), (1, .int (0 : Int32)), (0, va_rf (some h0))]) hx hb d_Buffer_countElements_3 rfl hl (by decide) rfl (fun ls hl => ?_)
  exact w_Buffer_countElements_4 X G I (fun ls x1 hf hl => w_Buffer_countElements_86 X G I hf hl) 4096 _ _ _ hf (lv_sub hl [2, 1, 0] rfl)

set_option maxHeartbeats 4000000 in
set_option maxRecDepth 100000 in
theorem c_Buffer_countElements {l : Launch} {D : va_G} {cA : Nat → ClassId} {dA z0 : Nat} {μ : mM} {h0 : Nat} {r : Int32} (hf : f_Buffer_countElements μ h0 = some r) : Met l y_Buffer_countElements (mW y_Buffer_countElements b_Buffer_countElements 5 (some .int)) rm_Buffer_countElements (va_Pc [.ref h0] (mPr D cA dA z0 μ)) (mQR (some (.int r))) 0 0 (fun _ => False) := by
  refine Met.ofW (cc := b_Buffer_countElements) (maxL := 5) (ret := (some .int)) (by decide) rfl ?_
  intro p e s m args below meth c s₁ B hml hv
  obtain ⟨rfl, G, hP⟩ := hv
  have X := mX.of B hml
  exact m_entry (lv := [(0, va_rf (some h0))]) (Nat.le_of_ble_eq_true rfl) rfl (fun ls hl => w_Buffer_countElements X G (mI.start hP) hf hl)

abbrev rm_Curve_init (k n : Nat) : Room := { frames := 1, cells := k, slots := n, locals := 21 }
theorem h_Curve_init : mCI y_Curve_init b_Curve_init 4 2 := ⟨k_297, k_84, ⟨by decide, by decide, by decide +kernel⟩, k_296, rfl⟩
set_option maxHeartbeats 4000000 in
set_option maxRecDepth 100000 in
theorem w_Curve_init_80 {h0 : Nat} {ws : Nat} {r : mM × Nat × Nat} (X : mX p m meth c s args b_Curve_init 4 none "ColourLinker$Curve") (G : mG D cA dA z0 s) (hN : meth.name = "<init>") {H : Heap} {locs : List Loc} {μ : mM} {z w : Nat} {ls : Array Slot}  (hq : mq ws w z r.2.1 r.2.2) (I : mI D cA z0 s μ H locs z) (hf : f_Curve_init_80 h0 μ z w = some r) (hl : lv_has ls 4 [(0, va_rf (some h0))]) : W p l e (rm_Curve_init (r.2.1 - s.heap.size) (r.2.2 - ws)) s m args below meth c H locs (z - s.heap.size) (w - ws) (MQ below (mQN D cA z0 none r.1 r.2.1) args s (r.2.1 - s.heap.size) (r.2.2 - ws) (mA z0)) (F0 m 80 ls []) := by
  have hx := X.ex
  have hb := X.by_
  unfold f_Curve_init_80 at hf
  obtain rfl := Option.some.inj hf
  exact r_vretN X I d_Curve_init_80

set_option maxHeartbeats 4000000 in
set_option maxRecDepth 100000 in
theorem w_Curve_init_48 {h0 : Nat} {ws : Nat} {r : mM × Nat × Nat} (X : mX p m meth c s args b_Curve_init 4 none "ColourLinker$Curve") (G : mG D cA dA z0 s) (hN : meth.name = "<init>") {kx80 : mM → Nat → Nat → Option (mM × Nat × Nat)} (hkx80 : ∀ (H : Heap) (locs : List Loc) (μ : mM) (z w : Nat) (ls : Array Slot), mq ws w z r.2.1 r.2.2 → mI D cA z0 s μ H locs z → kx80 μ z w = some r → lv_has ls 4 [(0, va_rf (some h0))] → W p l e (rm_Curve_init (r.2.1 - s.heap.size) (r.2.2 - ws)) s m args below meth c H locs (z - s.heap.size) (w - ws) (MQ below (mQN D cA z0 none r.1 r.2.1) args s (r.2.1 - s.heap.size) (r.2.2 - ws) (mA z0)) (F0 m 80 ls [])) : ∀ (n : Nat) (H : Heap) (locs : List Loc) (μ : mM) (z w : Nat) (ls : Array Slot) (x1 : Option Nat) (x2 : Int32) (x3 : Int32), mq ws w z r.2.1 r.2.2 → mI D cA z0 s μ H locs z → f_Curve_init_48 h0 kx80 n μ z w x1 x2 x3 = some r → lv_has ls 4 [(0, va_rf (some h0)), (1, va_rf x1), (2, .int x2), (3, .int x3)] → W p l e (rm_Curve_init (r.2.1 - s.heap.size) (r.2.2 - ws)) s m args below meth c H locs (z - s.heap.size) (w - ws) (MQ below (mQN D cA z0 none r.1 r.2.1) args s (r.2.1 - s.heap.size) (r.2.2 - ws) (mA z0)) (F0 m 48 ls []) := by
  have hx := X.ex
  have hb := X.by_
  intro n
  induction n with
  | zero => intro H locs μ z w ls x1 x2 x3 hq I hf hl; rw [f_Curve_init_48] at hf; cases hf
  | succ n ih =>
    intro H locs μ z w ls x1 x2 x3 hq I hf hl
    rw [f_Curve_init_48] at hf
    refine lv_iload_n hx hb d_Curve_init_48 rfl (lv_at hl 3 rfl) ?_
    refine r_aload_n X d_Curve_init_49 rfl (lv_at hl 0 rfl) ?_
    obtain ⟨v8, hv, hf⟩ := mbind hf
    refine r_getf X G I (mfA_e hv) o_Curve_words k_301 (Or.inl rfl) d_Curve_init_50 ?_
    obtain ⟨v9, hv, hf⟩ := mbind hf
    refine r_alen X G I hv d_Curve_init_53 ?_
    refine lv_icmp_ge (tgt := 80) hx hb d_Curve_init_54 (by decide) (fun hc => ?_) (fun hc => ?_)
    · have hf := mift hf hc
      exact hkx80 _ _ _ _ _ _ hq I hf (lv_sub hl [0] rfl)
    · have hf := miff hf hc
      refine r_aload_n X d_Curve_init_57 rfl (lv_at hl 0 rfl) ?_
      obtain ⟨v10, hv, hf⟩ := mbind hf
      refine r_getf X G I (mfA_e hv) o_Curve_words k_301 (Or.inl rfl) d_Curve_init_58 ?_
      refine lv_iload_n hx hb d_Curve_init_61 rfl (lv_at hl 3 rfl) ?_
      refine r_aload_n X d_Curve_init_62 rfl (lv_at hl 1 rfl) ?_
      refine lv_iload_n hx hb d_Curve_init_63 rfl (lv_at hl 2 rfl) ?_
      refine lv_iconst (v := 2) hx hb d_Curve_init_64 (by decide) ?_
      refine lv_iadd hx hb d_Curve_init_65 ?_
      refine lv_iconst (v := 2) hx hb d_Curve_init_66 (by decide) ?_
      refine lv_iload_n hx hb d_Curve_init_67 rfl (lv_at hl 3 rfl) ?_
      refine lv_imul hx hb d_Curve_init_68 ?_
      refine lv_iadd hx hb d_Curve_init_69 ?_
      obtain ⟨q11, hv, hf⟩ := mbind hf
      refine m_caR (m_runSN (As := [va_rf x1, .int ((x2 + (2 : Int32)) + ((2 : Int32) * x3))]) (rest := [.int x3, va_rf v10]) X G h_CL_wordAt k_299 (c_CL_wordAt hv) mPr_blind (m_pre G I) rfl rfl hl.1 (Nat.le_of_ble_eq_true rfl) rfl rfl ⟨Nat.le_of_ble_eq_true rfl, Nat.le_of_ble_eq_true rfl⟩ hq.rm d_Curve_init_70) ?_
      obtain ⟨m12, hv, hf⟩ := mbind hf
      refine r_iast X G I hv d_Curve_init_73 (fun H locs I => ?_)
      refine lv_iinc (i := 3) (k := 3) (v := (x3 + (1 : Int32))) (lv' := [(3, .int (x3 + (1 : Int32))), (0, va_rf (some h0)), (1, va_rf x1), (2, .int x2)]) hx hb d_Curve_init_74 hl rfl (congrArg (fun t => x3 + t) (by decide : Int32.ofInt (1) = (1 : Int32))) (by decide) rfl (fun ls hl => ?_)
      refine lv_goto (tgt := 48) hx hb d_Curve_init_77 (by decide) ?_
      exact ih _ _ _ _ _ _ _ _ _ hq I hf (lv_sub hl [1, 2, 3, 0] rfl)

set_option maxHeartbeats 4000000 in
set_option maxRecDepth 100000 in
theorem w_Curve_init_41 {h0 : Nat} {ws : Nat} {r : mM × Nat × Nat} (X : mX p m meth c s args b_Curve_init 4 none "ColourLinker$Curve") (G : mG D cA dA z0 s) (hN : meth.name = "<init>") {H : Heap} {locs : List Loc} {μ : mM} {z w : Nat} {ls : Array Slot} {x1 : Option Nat} {x2 : Int32} {s0 : Option Nat} {s1 : Int32} (hq : mq ws w z r.2.1 r.2.2) (I : mI D cA z0 s μ H locs z) (hf : f_Curve_init_41 h0 μ z w x1 x2 s0 s1 = some r) (hl : lv_has ls 4 [(0, va_rf (some h0)), (1, va_rf x1), (2, .int x2)]) : W p l e (rm_Curve_init (r.2.1 - s.heap.size) (r.2.2 - ws)) s m args below meth c H locs (z - s.heap.size) (w - ws) (MQ below (mQN D cA z0 none r.1 r.2.1) args s (r.2.1 - s.heap.size) (r.2.2 - ws) (mA z0)) (F0 m 41 ls [.int s1, va_rf s0]) := by
  have hx := X.ex
  have hb := X.by_
  unfold f_Curve_init_41 at hf
  obtain ⟨m6, hv, hf⟩ := mbind hf
  obtain ⟨hz1, hw1, hz2, hw2, hf⟩ := mmV_e hf
  refine r_newa (atype := .int) X G I hq.1 rfl rfl hv hz2 hw2 (Or.inl ⟨rfl, rfl⟩) k_113 d_Curve_init_41 (fun H I => ?_)
  have hq := hq.up hw1 hz2 hw2
  obtain ⟨m7, hv, hf⟩ := mbind hf
  refine r_putF (ty := (.array .int)) X G I hv o_Curve_words k_301 hN (by decide) (mn_nR _) (mn_fR _) d_Curve_init_43 (fun H locs I => ?_)
  refine lv_iconst (v := 0) hx hb d_Curve_init_46 (by decide) ?_
  refine lv_istore_n (i := 3) (lv' := [(3, .int (0 : Int32)), (0, va_rf (some h0)), (1, va_rf x1), (2, .int x2)]) hx hb d_Curve_init_47 rfl hl (by decide) rfl (fun ls hl => ?_)
  exact w_Curve_init_48 X G hN (fun H locs μ z w ls hq I hf hl => w_Curve_init_80 X G hN hq I hf hl) 4096 _ _ _ _ _ _ _ _ _ hq I hf (lv_sub hl [1, 2, 3, 0] rfl)

set_option maxHeartbeats 4000000 in
set_option maxRecDepth 100000 in
theorem w_Curve_init_21 {h0 : Nat} {ws : Nat} {r : mM × Nat × Nat} (X : mX p m meth c s args b_Curve_init 4 none "ColourLinker$Curve") (G : mG D cA dA z0 s) (hN : meth.name = "<init>") {H : Heap} {locs : List Loc} {μ : mM} {z w : Nat} {ls : Array Slot} {x1 : Option Nat} {x2 : Int32} {s0 : Option Nat} {s1 : Int32} (hq : mq ws w z r.2.1 r.2.2) (I : mI D cA z0 s μ H locs z) (hf : f_Curve_init_21 h0 μ z w x1 x2 s0 s1 = some r) (hl : lv_has ls 4 [(0, va_rf (some h0)), (1, va_rf x1), (2, .int x2)]) : W p l e (rm_Curve_init (r.2.1 - s.heap.size) (r.2.2 - ws)) s m args below meth c H locs (z - s.heap.size) (w - ws) (MQ below (mQN D cA z0 none r.1 r.2.1) args s (r.2.1 - s.heap.size) (r.2.2 - ws) (mA z0)) (F0 m 21 ls [.int s1, va_rf s0]) := by
  have hx := X.ex
  have hb := X.by_
  unfold f_Curve_init_21 at hf
  obtain ⟨m3, hv, hf⟩ := mbind hf
  refine r_putF (ty := .int) X G I hv o_Curve_power k_300 hN (by decide) rfl rfl d_Curve_init_21 (fun H locs I => ?_)
  refine r_aload_n X d_Curve_init_24 rfl (lv_at hl 0 rfl) ?_
  refine r_aload_n X d_Curve_init_25 rfl (lv_at hl 0 rfl) ?_
  obtain ⟨v4, hv, hf⟩ := mbind hf
  refine r_getf X G I (mfI_e hv) o_Curve_power k_300 (Or.inl rfl) d_Curve_init_26 ?_
  refine lv_if_le (tgt := 36) hx hb d_Curve_init_29 (by decide) (fun hc => ?_) (fun hc => ?_)
  · have hf := mift hf hc
    refine r_aload_n X d_Curve_init_36 rfl (lv_at hl 1 rfl) ?_
    refine lv_iload_n hx hb d_Curve_init_37 rfl (lv_at hl 2 rfl) ?_
    refine lv_iconst (v := 1) hx hb d_Curve_init_38 (by decide) ?_
    refine lv_iadd hx hb d_Curve_init_39 ?_
    obtain ⟨v5, hv, hf⟩ := mbind hf
    refine r_iald X G I hv d_Curve_init_40 ?_
    exact w_Curve_init_41 X G hN hq I hf hl
  · have hf := miff hf hc
    refine lv_iconst (v := 2) hx hb d_Curve_init_32 (by decide) ?_
    refine lv_goto (tgt := 41) hx hb d_Curve_init_33 (by decide) ?_
    exact w_Curve_init_41 X G hN hq I hf hl

set_option maxHeartbeats 4000000 in
set_option maxRecDepth 100000 in
theorem w_Curve_init {h0 : Nat} {ws : Nat} {r : mM × Nat × Nat} (X : mX p m meth c s args b_Curve_init 4 none "ColourLinker$Curve") (G : mG D cA dA z0 s) (hN : meth.name = "<init>") {H : Heap} {locs : List Loc} {μ : mM} {z w : Nat} {ls : Array Slot} {x1 : Option Nat} {x2 : Int32} (hw : ws ≤ w) (I : mI D cA z0 s μ H locs z) (hf : f_Curve_init h0 μ z w x1 x2 = some r) (hl : lv_has ls 4 [(0, va_rf (some h0)), (1, va_rf x1), (2, .int x2)]) : W p l e (rm_Curve_init (r.2.1 - s.heap.size) (r.2.2 - ws)) s m args below meth c H locs (z - s.heap.size) (w - ws) (MQ below (mQN D cA z0 none r.1 r.2.1) args s (r.2.1 - s.heap.size) (r.2.2 - ws) (mA z0)) (F0 m 0 ls []) := by
  have hx := X.ex
  have hb := X.by_
  unfold f_Curve_init at hf
  obtain ⟨-, -, hz2, hw2, hf⟩ := mmV_e hf
  have hq : mq ws w z r.2.1 r.2.2 := ⟨hw, hz2, hw2⟩
  refine r_aload_n X d_Curve_init_0 rfl (lv_at hl 0 rfl) ?_
  refine W.objInit hx hb X.ow (X.w k_298) (X.w k_97) (X.w k_98) rfl (by rw [X.ml]; exact hl.1) rfl d_Curve_init_1 (Nat.le_of_ble_eq_true rfl) (Nat.le_of_ble_eq_true rfl) ?_
  refine W.eq (g2 := F0 m 4 ls []) rfl ?_
  refine r_aload_n X d_Curve_init_4 rfl (lv_at hl 0 rfl) ?_
  refine r_aload_n X d_Curve_init_5 rfl (lv_at hl 1 rfl) ?_
  refine lv_iload_n hx hb d_Curve_init_6 rfl (lv_at hl 2 rfl) ?_
  obtain ⟨v1, hv, hf⟩ := mbind hf
  refine r_iald X G I hv d_Curve_init_7 ?_
  refine lv_iconst (v := 2) hx hb d_Curve_init_8 (by decide) ?_
  refine lv_icmp_ne (tgt := 20) hx hb d_Curve_init_9 (by decide) (fun hc => ?_) (fun hc => ?_)
  · have hf := miff hf hc
    refine lv_iconst (v := 0) hx hb d_Curve_init_20 (by decide) ?_
    exact w_Curve_init_21 X G hN hq I hf hl
  · have hf := mift hf hc
    refine r_aload_n X d_Curve_init_12 rfl (lv_at hl 1 rfl) ?_
    refine lv_iload_n hx hb d_Curve_init_13 rfl (lv_at hl 2 rfl) ?_
    refine lv_iconst (v := 1) hx hb d_Curve_init_14 (by decide) ?_
    refine lv_iadd hx hb d_Curve_init_15 ?_
    obtain ⟨v2, hv, hf⟩ := mbind hf
    refine r_iald X G I hv d_Curve_init_16 ?_
    refine lv_goto (tgt := 21) hx hb d_Curve_init_17 (by decide) ?_
    exact w_Curve_init_21 X G hN hq I hf hl

set_option maxHeartbeats 4000000 in
set_option maxRecDepth 100000 in
theorem c_Curve_init {l : Launch} {D : va_G} {cA : Nat → ClassId} {dA z0 : Nat} {μ : mM} {h0 : Nat} {z w : Nat} {x1 : Option Nat} {x2 : Int32} {r : mM × Nat × Nat} (hf : f_Curve_init h0 μ z w x1 x2 = some r) : Met l y_Curve_init (mW y_Curve_init b_Curve_init 4 none) (rm_Curve_init (r.2.1 - z) (r.2.2 - w)) (va_Pc [.ref h0, va_rf x1, .int x2] (mPn D cA dA z0 μ z)) (mQN D cA z0 none r.1 r.2.1) (r.2.1 - z) (r.2.2 - w) (mA z0) := by
  refine Met.ofW (cc := b_Curve_init) (maxL := 4) (ret := none) (by decide) rfl ?_
  intro p e s m args below meth c s₁ B hml hv
  obtain ⟨rfl, G, hP, rfl⟩ := hv
  have X := mX.of B hml
  have hN : meth.name = "<init>" := (name_of_methodNamed B.named B.method).1
  refine m_entry (lv := [(0, va_rf (some h0)), (1, va_rf x1), (2, .int x2)]) (by simp [lg_sl, mrf_cat, mc_int, mc_long, mc_ref]) (by simp [lv_args, mrf_cat, mc_int, mc_long, mc_ref, mrf_some]) (fun ls hl => ?_)
  have h := w_Curve_init (p := p) (l := l) (e := e) (below := below) X G hN (Nat.le_refl w) (mI.start hP) hf hl
  rw [Nat.sub_self s.heap.size, Nat.sub_self w] at h
  exact h

abbrev rm_Grid_init (k n : Nat) : Room := { frames := 2, cells := k, slots := n, locals := 42 }
theorem h_Grid_init : mCI y_Grid_init b_Grid_init 3 2 := ⟨k_313, k_85, ⟨by decide, by decide, by decide +kernel⟩, k_312, rfl⟩
set_option maxHeartbeats 4000000 in
set_option maxRecDepth 100000 in
theorem w_Grid_init {h0 : Nat} {ws : Nat} {r : mM × Nat × Nat} (X : mX p m meth c s args b_Grid_init 3 none "ColourLinker$Grid") (G : mG D cA dA z0 s) (hN : meth.name = "<init>") {H : Heap} {locs : List Loc} {μ : mM} {z w : Nat} {ls : Array Slot} {x1 : Option Nat} {x2 : Int32} (hw : ws ≤ w) (I : mI D cA z0 s μ H locs z) (hf : f_Grid_init h0 μ z w x1 x2 = some r) (hl : lv_has ls 3 [(0, va_rf (some h0)), (1, va_rf x1), (2, .int x2)]) : W p l e (rm_Grid_init (r.2.1 - s.heap.size) (r.2.2 - ws)) s m args below meth c H locs (z - s.heap.size) (w - ws) (MQ below (mQN D cA z0 none r.1 r.2.1) args s (r.2.1 - s.heap.size) (r.2.2 - ws) (mA z0)) (F0 m 0 ls []) := by
  have hx := X.ex
  have hb := X.by_
  unfold f_Grid_init at hf
  obtain ⟨-, -, hz2, hw2, hf⟩ := mmV_e hf
  have hq : mq ws w z r.2.1 r.2.2 := ⟨hw, hz2, hw2⟩
  refine r_aload_n X d_Grid_init_0 rfl (lv_at hl 0 rfl) ?_
  refine lv_iconst (v := 3) hx hb d_Grid_init_1 (by decide) ?_
  refine lv_iconst (v := 0) hx hb d_Grid_init_2 (by decide) ?_
  obtain ⟨q1, hv, hf⟩ := mbind hf
  obtain ⟨a, ha, hv⟩ := mbind hv
  refine m_caWv (m_runI (As := [.int (3 : Int32), .int (0 : Int32)]) (r := some h0) (rest := []) X h_Piece_init k_314 (c_Piece_init hv) mPr_blind (m_pre G I) ha rfl rfl hl.1 (Nat.le_of_ble_eq_true rfl) rfl rfl ⟨Nat.le_of_ble_eq_true rfl, Nat.le_of_ble_eq_true rfl⟩ hq.rm d_Grid_init_3) I (fun H locs I => ?_)
  refine r_aload_n X d_Grid_init_6 rfl (lv_at hl 0 rfl) ?_
  refine lv_iconst (v := 3) hx hb d_Grid_init_7 (by decide) ?_
  obtain ⟨m2, hv, hf⟩ := mbind hf
  obtain ⟨hz1, hw1, hz2, hw2, hf⟩ := mmV_e hf
  refine r_newa (atype := .int) X G I hq.1 rfl rfl hv hz2 hw2 (Or.inl ⟨rfl, rfl⟩) k_113 d_Grid_init_8 (fun H I => ?_)
  have hq := hq.up hw1 hz2 hw2
  obtain ⟨m3, hv, hf⟩ := mbind hf
  refine r_putF (ty := (.array .int)) X G I hv o_Grid_rest k_318 hN (by decide) (mn_nR _) (mn_fR _) d_Grid_init_10 (fun H locs I => ?_)
  refine r_aload_n X d_Grid_init_13 rfl (lv_at hl 0 rfl) ?_
  refine r_aload_n X d_Grid_init_14 rfl (lv_at hl 1 rfl) ?_
  obtain ⟨m4, hv, hf⟩ := mbind hf
  refine r_putF (ty := (.array .int)) X G I hv o_Grid_plain k_315 hN (by decide) (mn_nR _) (mn_fR _) d_Grid_init_15 (fun H locs I => ?_)
  refine r_aload_n X d_Grid_init_18 rfl (lv_at hl 0 rfl) ?_
  refine lv_iload_n hx hb d_Grid_init_19 rfl (lv_at hl 2 rfl) ?_
  refine lv_iconst (v := 2) hx hb d_Grid_init_20 (by decide) ?_
  refine lv_iadd hx hb d_Grid_init_21 ?_
  obtain ⟨m5, hv, hf⟩ := mbind hf
  refine r_putF (ty := .int) X G I hv o_Grid_start k_316 hN (by decide) rfl rfl d_Grid_init_22 (fun H locs I => ?_)
  refine r_aload_n X d_Grid_init_25 rfl (lv_at hl 0 rfl) ?_
  refine r_aload_n X d_Grid_init_26 rfl (lv_at hl 1 rfl) ?_
  refine lv_iload_n hx hb d_Grid_init_27 rfl (lv_at hl 2 rfl) ?_
  refine lv_iconst (v := 1) hx hb d_Grid_init_28 (by decide) ?_
  refine lv_iadd hx hb d_Grid_init_29 ?_
  obtain ⟨v6, hv, hf⟩ := mbind hf
  refine r_iald X G I hv d_Grid_init_30 ?_
  obtain ⟨m7, hv, hf⟩ := mbind hf
  refine r_putF (ty := .int) X G I hv o_Grid_g k_317 hN (by decide) rfl rfl d_Grid_init_31 (fun H locs I => ?_)
  obtain rfl := Option.some.inj hf
  exact r_vretN X I d_Grid_init_34

set_option maxHeartbeats 4000000 in
set_option maxRecDepth 100000 in
theorem c_Grid_init {l : Launch} {D : va_G} {cA : Nat → ClassId} {dA z0 : Nat} {μ : mM} {h0 : Nat} {z w : Nat} {x1 : Option Nat} {x2 : Int32} {r : mM × Nat × Nat} (hf : f_Grid_init h0 μ z w x1 x2 = some r) : Met l y_Grid_init (mW y_Grid_init b_Grid_init 3 none) (rm_Grid_init (r.2.1 - z) (r.2.2 - w)) (va_Pc [.ref h0, va_rf x1, .int x2] (mPn D cA dA z0 μ z)) (mQN D cA z0 none r.1 r.2.1) (r.2.1 - z) (r.2.2 - w) (mA z0) := by
  refine Met.ofW (cc := b_Grid_init) (maxL := 3) (ret := none) (by decide) rfl ?_
  intro p e s m args below meth c s₁ B hml hv
  obtain ⟨rfl, G, hP, rfl⟩ := hv
  have X := mX.of B hml
  have hN : meth.name = "<init>" := (name_of_methodNamed B.named B.method).1
  refine m_entry (lv := [(0, va_rf (some h0)), (1, va_rf x1), (2, .int x2)]) (by simp [lg_sl, mrf_cat, mc_int, mc_long, mc_ref]) (by simp [lv_args, mrf_cat, mc_int, mc_long, mc_ref, mrf_some]) (fun ls hl => ?_)
  have h := w_Grid_init (p := p) (l := l) (e := e) (below := below) X G hN (Nat.le_refl w) (mI.start hP) hf hl
  rw [Nat.sub_self s.heap.size, Nat.sub_self w] at h
  exact h

abbrev rm_Curve_isStraight : Room := { frames := 0, cells := 0, slots := 0, locals := 0 }
theorem h_Curve_isStraight : mCV y_Curve_isStraight b_Curve_isStraight 1 (some .boolean) 0 := ⟨k_341, k_84, ⟨by decide, by decide, by decide +kernel⟩, k_339, k_340⟩
set_option maxHeartbeats 4000000 in
set_option maxRecDepth 100000 in
theorem w_Curve_isStraight_20 {μ : mM} {h0 : Nat} {r : Int32} (X : mX p m meth c s args b_Curve_isStraight 1 (some .boolean) "ColourLinker$Curve") (G : mG D cA dA z0 s) (I : mI D cA z0 s μ s.heap [] s.heap.size) {ls : Array Slot} {s0 : Int32} (hf : f_Curve_isStraight_20 μ h0 s0 = some r) (hl : lv_has ls 1 [(0, va_rf (some h0))]) : W p l e rm_Curve_isStraight s m args below meth c s.heap [] 0 0 (MQ below (mQR (some (.int r))) args s 0 0 (fun _ => False)) (F0 m 20 ls [.int s0]) := by
  have hx := X.ex
  have hb := X.by_
  unfold f_Curve_isStraight_20 at hf
  obtain ⟨v4, hv, hf⟩ := mbind hf
  obtain ⟨hz0, hz⟩ := mz_e hv
  rw [hz0] at hf
  obtain rfl := Option.some.inj hf
  exact r_zretR X hz d_Curve_isStraight_20

set_option maxHeartbeats 4000000 in
set_option maxRecDepth 100000 in
theorem w_Curve_isStraight_19 {μ : mM} {h0 : Nat} {r : Int32} (X : mX p m meth c s args b_Curve_isStraight 1 (some .boolean) "ColourLinker$Curve") (G : mG D cA dA z0 s) (I : mI D cA z0 s μ s.heap [] s.heap.size) {ls : Array Slot}  (hf : f_Curve_isStraight_19 μ h0 = some r) (hl : lv_has ls 1 [(0, va_rf (some h0))]) : W p l e rm_Curve_isStraight s m args below meth c s.heap [] 0 0 (MQ below (mQR (some (.int r))) args s 0 0 (fun _ => False)) (F0 m 19 ls []) := by
  have hx := X.ex
  have hb := X.by_
  unfold f_Curve_isStraight_19 at hf
  refine lv_iconst (v := 0) hx hb d_Curve_isStraight_19 (by decide) ?_
  exact w_Curve_isStraight_20 X G I hf hl

set_option maxHeartbeats 4000000 in
set_option maxRecDepth 100000 in
theorem w_Curve_isStraight {μ : mM} {h0 : Nat} {r : Int32} (X : mX p m meth c s args b_Curve_isStraight 1 (some .boolean) "ColourLinker$Curve") (G : mG D cA dA z0 s) (I : mI D cA z0 s μ s.heap [] s.heap.size) {ls : Array Slot}  (hf : f_Curve_isStraight μ h0 = some r) (hl : lv_has ls 1 [(0, va_rf (some h0))]) : W p l e rm_Curve_isStraight s m args below meth c s.heap [] 0 0 (MQ below (mQR (some (.int r))) args s 0 0 (fun _ => False)) (F0 m 0 ls []) := by
  have hx := X.ex
  have hb := X.by_
  unfold f_Curve_isStraight at hf
  refine r_aload_n X d_Curve_isStraight_0 rfl (lv_at hl 0 rfl) ?_
  obtain ⟨v1, hv, hf⟩ := mbind hf
  refine r_getf X G I (mfI_e hv) o_Curve_power k_300 (Or.inl rfl) d_Curve_isStraight_1 ?_
  refine lv_if_ne (tgt := 19) hx hb d_Curve_isStraight_4 (by decide) (fun hc => ?_) (fun hc => ?_)
  · have hf := miff hf hc
    exact w_Curve_isStraight_19 X G I hf hl
  · have hf := mift hf hc
    refine r_aload_n X d_Curve_isStraight_7 rfl (lv_at hl 0 rfl) ?_
    obtain ⟨v2, hv, hf⟩ := mbind hf
    refine r_getf X G I (mfA_e hv) o_Curve_words k_301 (Or.inl rfl) d_Curve_isStraight_8 ?_
    obtain ⟨v3, hv, hf⟩ := mbind hf
    refine r_alen X G I hv d_Curve_isStraight_11 ?_
    refine lv_if_ne (tgt := 19) hx hb d_Curve_isStraight_12 (by decide) (fun hc => ?_) (fun hc => ?_)
    · have hf := miff hf hc
      exact w_Curve_isStraight_19 X G I hf hl
    · have hf := mift hf hc
      refine lv_iconst (v := 1) hx hb d_Curve_isStraight_15 (by decide) ?_
      refine lv_goto (tgt := 20) hx hb d_Curve_isStraight_16 (by decide) ?_
      exact w_Curve_isStraight_20 X G I hf hl

set_option maxHeartbeats 4000000 in
set_option maxRecDepth 100000 in
theorem c_Curve_isStraight {l : Launch} {D : va_G} {cA : Nat → ClassId} {dA z0 : Nat} {μ : mM} {h0 : Nat} {r : Int32} (hf : f_Curve_isStraight μ h0 = some r) : Met l y_Curve_isStraight (mW y_Curve_isStraight b_Curve_isStraight 1 (some .boolean)) rm_Curve_isStraight (va_Pc [.ref h0] (mPr D cA dA z0 μ)) (mQR (some (.int r))) 0 0 (fun _ => False) := by
  refine Met.ofW (cc := b_Curve_isStraight) (maxL := 1) (ret := (some .boolean)) (by decide) rfl ?_
  intro p e s m args below meth c s₁ B hml hv
  obtain ⟨rfl, G, hP⟩ := hv
  have X := mX.of B hml
  exact m_entry (lv := [(0, va_rf (some h0))]) (Nat.le_of_ble_eq_true rfl) rfl (fun ls hl => w_Curve_isStraight X G (mI.start hP) hf hl)

abbrev rm_Curves_areStraight : Room := { frames := 1, cells := 0, slots := 0, locals := 20 }
theorem h_Curves_areStraight : mCS y_Curves_areStraight b_Curves_areStraight 3 (some .boolean) 1 := ⟨k_337, k_86, ⟨by decide, by decide, by decide +kernel⟩, k_336⟩
set_option maxHeartbeats 4000000 in
set_option maxRecDepth 100000 in
theorem w_Curves_areStraight_35 {μ : mM} {r : Int32} (X : mX p m meth c s args b_Curves_areStraight 3 (some .boolean) "ColourLinker$Curves") (G : mG D cA dA z0 s) (I : mI D cA z0 s μ s.heap [] s.heap.size) {ls : Array Slot} {x1 : Int32} (hf : f_Curves_areStraight_35 μ x1 = some r) (hl : lv_has ls 3 [(1, .int x1)]) : W p l e rm_Curves_areStraight s m args below meth c s.heap [] 0 0 (MQ below (mQR (some (.int r))) args s 0 0 (fun _ => False)) (F0 m 35 ls []) := by
  have hx := X.ex
  have hb := X.by_
  unfold f_Curves_areStraight_35 at hf
  refine lv_iload_n hx hb d_Curves_areStraight_35 rfl (lv_at hl 0 rfl) ?_
  obtain ⟨v4, hv, hf⟩ := mbind hf
  obtain ⟨hz0, hz⟩ := mz_e hv
  rw [hz0] at hf
  obtain rfl := Option.some.inj hf
  exact r_zretR X hz d_Curves_areStraight_36

set_option maxHeartbeats 4000000 in
set_option maxRecDepth 100000 in
theorem w_Curves_areStraight_28 {μ : mM} {r : Int32} (X : mX p m meth c s args b_Curves_areStraight 3 (some .boolean) "ColourLinker$Curves") (G : mG D cA dA z0 s) (I : mI D cA z0 s μ s.heap [] s.heap.size) {k : (Option Nat) → Int32 → Int32 → Option (Int32)} {kx35 : Int32 → Option (Int32)} (hk : ∀ (ls : Array Slot) (x0 : Option Nat) (x1 : Int32) (x2 : Int32), k x0 x1 x2 = some r → lv_has ls 3 [(0, va_rf x0), (1, .int x1), (2, .int x2)] → W p l e rm_Curves_areStraight s m args below meth c s.heap [] 0 0 (MQ below (mQR (some (.int r))) args s 0 0 (fun _ => False)) (F0 m 4 ls [])) (hkx35 : ∀ (ls : Array Slot) (x1 : Int32), kx35 x1 = some r → lv_has ls 3 [(1, .int x1)] → W p l e rm_Curves_areStraight s m args below meth c s.heap [] 0 0 (MQ below (mQR (some (.int r))) args s 0 0 (fun _ => False)) (F0 m 35 ls [])) {ls : Array Slot} {x0 : Option Nat} {x2 : Int32} {s0 : Int32} (hf : f_Curves_areStraight_28 μ k kx35 x0 x2 s0 = some r) (hl : lv_has ls 3 [(0, va_rf x0), (2, .int x2)]) : W p l e rm_Curves_areStraight s m args below meth c s.heap [] 0 0 (MQ below (mQR (some (.int r))) args s 0 0 (fun _ => False)) (F0 m 28 ls [.int s0]) := by
  have hx := X.ex
  have hb := X.by_
  unfold f_Curves_areStraight_28 at hf
  refine lv_istore_n (i := 1) (lv' := [(1, .int s0), (0, va_rf x0), (2, .int x2)]) hx hb d_Curves_areStraight_28 rfl hl (by decide) (by simp [mrf_cat]) (fun ls hl => ?_)
  refine lv_iinc (i := 2) (k := 2) (v := (x2 + (1 : Int32))) (lv' := [(2, .int (x2 + (1 : Int32))), (1, .int s0), (0, va_rf x0)]) hx hb d_Curves_areStraight_29 hl rfl (congrArg (fun t => x2 + t) (by decide : Int32.ofInt (1) = (1 : Int32))) (by decide) rfl (fun ls hl => ?_)
  refine lv_goto (tgt := 4) hx hb d_Curves_areStraight_32 (by decide) ?_
  exact hk _ _ _ _ hf (lv_sub hl [2, 1, 0] rfl)

set_option maxHeartbeats 4000000 in
set_option maxRecDepth 100000 in
theorem w_Curves_areStraight_27 {μ : mM} {r : Int32} (X : mX p m meth c s args b_Curves_areStraight 3 (some .boolean) "ColourLinker$Curves") (G : mG D cA dA z0 s) (I : mI D cA z0 s μ s.heap [] s.heap.size) {k : (Option Nat) → Int32 → Int32 → Option (Int32)} {kx35 : Int32 → Option (Int32)} (hk : ∀ (ls : Array Slot) (x0 : Option Nat) (x1 : Int32) (x2 : Int32), k x0 x1 x2 = some r → lv_has ls 3 [(0, va_rf x0), (1, .int x1), (2, .int x2)] → W p l e rm_Curves_areStraight s m args below meth c s.heap [] 0 0 (MQ below (mQR (some (.int r))) args s 0 0 (fun _ => False)) (F0 m 4 ls [])) (hkx35 : ∀ (ls : Array Slot) (x1 : Int32), kx35 x1 = some r → lv_has ls 3 [(1, .int x1)] → W p l e rm_Curves_areStraight s m args below meth c s.heap [] 0 0 (MQ below (mQR (some (.int r))) args s 0 0 (fun _ => False)) (F0 m 35 ls [])) {ls : Array Slot} {x0 : Option Nat} {x2 : Int32} (hf : f_Curves_areStraight_27 μ k kx35 x0 x2 = some r) (hl : lv_has ls 3 [(0, va_rf x0), (2, .int x2)]) : W p l e rm_Curves_areStraight s m args below meth c s.heap [] 0 0 (MQ below (mQR (some (.int r))) args s 0 0 (fun _ => False)) (F0 m 27 ls []) := by
  have hx := X.ex
  have hb := X.by_
  unfold f_Curves_areStraight_27 at hf
  refine lv_iconst (v := 0) hx hb d_Curves_areStraight_27 (by decide) ?_
  exact w_Curves_areStraight_28 X G I hk hkx35 hf hl

set_option maxHeartbeats 4000000 in
set_option maxRecDepth 100000 in
theorem w_Curves_areStraight_4 {μ : mM} {r : Int32} (X : mX p m meth c s args b_Curves_areStraight 3 (some .boolean) "ColourLinker$Curves") (G : mG D cA dA z0 s) (I : mI D cA z0 s μ s.heap [] s.heap.size) {kx35 : Int32 → Option (Int32)} (hkx35 : ∀ (ls : Array Slot) (x1 : Int32), kx35 x1 = some r → lv_has ls 3 [(1, .int x1)] → W p l e rm_Curves_areStraight s m args below meth c s.heap [] 0 0 (MQ below (mQR (some (.int r))) args s 0 0 (fun _ => False)) (F0 m 35 ls [])) : ∀ (n : Nat) (ls : Array Slot) (x0 : Option Nat) (x1 : Int32) (x2 : Int32), f_Curves_areStraight_4 μ kx35 n x0 x1 x2 = some r → lv_has ls 3 [(0, va_rf x0), (1, .int x1), (2, .int x2)] → W p l e rm_Curves_areStraight s m args below meth c s.heap [] 0 0 (MQ below (mQR (some (.int r))) args s 0 0 (fun _ => False)) (F0 m 4 ls []) := by
  have hx := X.ex
  have hb := X.by_
  intro n
  induction n with
  | zero => intro ls x0 x1 x2 hf hl; rw [f_Curves_areStraight_4] at hf; cases hf
  | succ n ih =>
    intro ls x0 x1 x2 hf hl
    rw [f_Curves_areStraight_4] at hf
    refine lv_iload_n hx hb d_Curves_areStraight_4 rfl (lv_at hl 2 rfl) ?_
    refine r_aload_n X d_Curves_areStraight_5 rfl (lv_at hl 0 rfl) ?_
    obtain ⟨v1, hv, hf⟩ := mbind hf
    refine r_alen X G I hv d_Curves_areStraight_6 ?_
    refine lv_icmp_ge (tgt := 35) hx hb d_Curves_areStraight_7 (by decide) (fun hc => ?_) (fun hc => ?_)
    · have hf := mift hf hc
      exact hkx35 _ _ hf (lv_sub hl [1] rfl)
    · have hf := miff hf hc
      refine lv_iload_n hx hb d_Curves_areStraight_10 rfl (lv_at hl 1 rfl) ?_
      refine lv_if_eq (tgt := 27) hx hb d_Curves_areStraight_11 (by decide) (fun hc => ?_) (fun hc => ?_)
      · have hf := mift hf hc
        exact w_Curves_areStraight_27 X G I ih hkx35 hf (lv_sub hl [0, 2] rfl)
      · have hf := miff hf hc
        refine r_aload_n X d_Curves_areStraight_14 rfl (lv_at hl 0 rfl) ?_
        refine lv_iload_n hx hb d_Curves_areStraight_15 rfl (lv_at hl 2 rfl) ?_
        obtain ⟨v2, hv, hf⟩ := mbind hf
        refine r_aald X G I hv d_Curves_areStraight_16 ?_
        obtain ⟨q3, hv, hf⟩ := mbind hf
        obtain ⟨a, ha, hv⟩ := mbind hv
        obtain ⟨ha, fs, hm⟩ := mrc_e ha
        refine m_caR (m_runV (As := []) (r := v2) (rest := []) X G I h_Curve_isStraight k_338 (c_Curve_isStraight hv) mPr_blind (m_pre G I) hm rfl ha rfl rfl hl.1 (Nat.le_of_ble_eq_true rfl) rfl rfl ⟨Nat.le_of_ble_eq_true rfl, Nat.le_of_ble_eq_true rfl⟩ ⟨Nat.le_refl _, Nat.le_refl _⟩ d_Curves_areStraight_17) ?_
        refine lv_if_eq (tgt := 27) hx hb d_Curves_areStraight_20 (by decide) (fun hc => ?_) (fun hc => ?_)
        · have hf := mift hf hc
          exact w_Curves_areStraight_27 X G I ih hkx35 hf (lv_sub hl [0, 2] rfl)
        · have hf := miff hf hc
          refine lv_iconst (v := 1) hx hb d_Curves_areStraight_23 (by decide) ?_
          refine lv_goto (tgt := 28) hx hb d_Curves_areStraight_24 (by decide) ?_
          exact w_Curves_areStraight_28 X G I ih hkx35 hf (lv_sub hl [0, 2] rfl)

set_option maxHeartbeats 4000000 in
set_option maxRecDepth 100000 in
theorem w_Curves_areStraight {μ : mM} {r : Int32} (X : mX p m meth c s args b_Curves_areStraight 3 (some .boolean) "ColourLinker$Curves") (G : mG D cA dA z0 s) (I : mI D cA z0 s μ s.heap [] s.heap.size) {ls : Array Slot} {x0 : Option Nat} (hf : f_Curves_areStraight μ x0 = some r) (hl : lv_has ls 3 [(0, va_rf x0)]) : W p l e rm_Curves_areStraight s m args below meth c s.heap [] 0 0 (MQ below (mQR (some (.int r))) args s 0 0 (fun _ => False)) (F0 m 0 ls []) := by
  have hx := X.ex
  have hb := X.by_
  unfold f_Curves_areStraight at hf
  refine lv_iconst (v := 1) hx hb d_Curves_areStraight_0 (by decide) ?_
  refine lv_istore_n (i := 1) (lv' := [(1, .int (1 : Int32)), (0, va_rf x0)]) hx hb d_Curves_areStraight_1 rfl hl (by decide) (by simp [mrf_cat]) (fun ls hl => ?_)
  refine lv_iconst (v := 0) hx hb d_Curves_areStraight_2 (by decide) ?_
  refine lv_istore_n (i := 2) (lv' := [(2, .int (0 : Int32)), (1, .int (1 : Int32)), (0, va_rf x0)]) hx hb d_Curves_areStraight_3 rfl hl (by decide) rfl (fun ls hl => ?_)
  exact w_Curves_areStraight_4 X G I (fun ls x1 hf hl => w_Curves_areStraight_35 X G I hf hl) 4096 _ _ _ _ hf (lv_sub hl [2, 1, 0] rfl)

set_option maxHeartbeats 4000000 in
set_option maxRecDepth 100000 in
theorem c_Curves_areStraight {l : Launch} {D : va_G} {cA : Nat → ClassId} {dA z0 : Nat} {μ : mM} {x0 : Option Nat} {r : Int32} (hf : f_Curves_areStraight μ x0 = some r) : Met l y_Curves_areStraight (mW y_Curves_areStraight b_Curves_areStraight 3 (some .boolean)) rm_Curves_areStraight (va_Pc [va_rf x0] (mPr D cA dA z0 μ)) (mQR (some (.int r))) 0 0 (fun _ => False) := by
  refine Met.ofW (cc := b_Curves_areStraight) (maxL := 3) (ret := (some .boolean)) (by decide) rfl ?_
  intro p e s m args below meth c s₁ B hml hv
  obtain ⟨rfl, G, hP⟩ := hv
  have X := mX.of B hml
  exact m_entry (lv := [(0, va_rf x0)]) (by simp [lg_sl, mrf_cat, mc_int, mc_long, mc_ref]) (by simp [lv_args, mrf_cat, mc_int, mc_long, mc_ref, mrf_some]) (fun ls hl => w_Curves_areStraight X G (mI.start hP) hf hl)

abbrev rm_Curves_init : Room := { frames := 2, cells := 0, slots := 0, locals := 42 }
theorem h_Curves_init : mCI y_Curves_init b_Curves_init 3 2 := ⟨k_334, k_86, ⟨by decide, by decide, by decide +kernel⟩, k_333, rfl⟩
set_option maxHeartbeats 4000000 in
set_option maxRecDepth 100000 in
theorem w_Curves_init {h0 : Nat} {r : mM} (X : mX p m meth c s args b_Curves_init 3 none "ColourLinker$Curves") (G : mG D cA dA z0 s) (hN : meth.name = "<init>") {H : Heap} {locs : List Loc} {μ : mM} {ls : Array Slot} {x1 : Int32} {x2 : Option Nat} (I : mI D cA z0 s μ H locs s.heap.size) (hf : f_Curves_init h0 μ x1 x2 = some r) (hl : lv_has ls 3 [(0, va_rf (some h0)), (1, .int x1), (2, va_rf x2)]) : W p l e rm_Curves_init s m args below meth c H locs 0 0 (MQ below (mQW D cA z0 none r) args s 0 0 (mA z0)) (F0 m 0 ls []) := by
  have hx := X.ex
  have hb := X.by_
  unfold f_Curves_init at hf
  refine r_aload_n X d_Curves_init_0 rfl (lv_at hl 0 rfl) ?_
  refine lv_iload_n hx hb d_Curves_init_1 rfl (lv_at hl 1 rfl) ?_
  refine r_aload_n X d_Curves_init_2 rfl (lv_at hl 2 rfl) ?_
  obtain ⟨q1, hv, hf⟩ := mbind hf
  refine m_caR (m_runS (As := [va_rf x2]) (rest := [.int x1, va_rf (some h0)]) X h_Curves_areStraight k_335 (c_Curves_areStraight hv) mPr_blind (m_pre G I) rfl rfl hl.1 (Nat.le_of_ble_eq_true rfl) rfl rfl ⟨Nat.le_of_ble_eq_true rfl, Nat.le_of_ble_eq_true rfl⟩ ⟨Nat.le_refl _, Nat.le_refl _⟩ d_Curves_init_3) ?_
  obtain ⟨q2, hv, hf⟩ := mbind hf
  obtain ⟨a, ha, hv⟩ := mbind hv
  refine m_caWv (m_runI (As := [.int x1, .int q1]) (r := some h0) (rest := []) X h_Piece_init k_342 (c_Piece_init hv) mPr_blind (m_pre G I) ha rfl rfl hl.1 (Nat.le_of_ble_eq_true rfl) rfl rfl ⟨Nat.le_of_ble_eq_true rfl, Nat.le_of_ble_eq_true rfl⟩ ⟨Nat.le_refl _, Nat.le_refl _⟩ d_Curves_init_6) I (fun H locs I => ?_)
  refine r_aload_n X d_Curves_init_9 rfl (lv_at hl 0 rfl) ?_
  refine r_aload_n X d_Curves_init_10 rfl (lv_at hl 2 rfl) ?_
  obtain ⟨m3, hv, hf⟩ := mbind hf
  refine r_putF (ty := .array (.object "ColourLinker$Curve")) X G I hv o_Curves_row k_343 hN (by decide) (mn_nR _) (mn_fR _) d_Curves_init_11 (fun H locs I => ?_)
  obtain rfl := Option.some.inj hf
  exact r_vretW X I d_Curves_init_14

set_option maxHeartbeats 4000000 in
set_option maxRecDepth 100000 in
theorem c_Curves_init {l : Launch} {D : va_G} {cA : Nat → ClassId} {dA z0 : Nat} {μ : mM} {h0 : Nat} {x1 : Int32} {x2 : Option Nat} {r : mM} (hf : f_Curves_init h0 μ x1 x2 = some r) : Met l y_Curves_init (mW y_Curves_init b_Curves_init 3 none) rm_Curves_init (va_Pc [.ref h0, .int x1, va_rf x2] (mPr D cA dA z0 μ)) (mQW D cA z0 none r) 0 0 (mA z0) := by
  refine Met.ofW (cc := b_Curves_init) (maxL := 3) (ret := none) (by decide) rfl ?_
  intro p e s m args below meth c s₁ B hml hv
  obtain ⟨rfl, G, hP⟩ := hv
  have X := mX.of B hml
  have hN : meth.name = "<init>" := (name_of_methodNamed B.named B.method).1
  exact m_entry (lv := [(0, va_rf (some h0)), (1, .int x1), (2, va_rf x2)]) (by simp [lg_sl, mrf_cat, mc_int, mc_long, mc_ref]) (by simp [lv_args, mrf_cat, mc_int, mc_long, mc_ref, mrf_some]) (fun ls hl => w_Curves_init X G hN (mI.start hP) hf hl)

abbrev rm_Gray_init : Room := { frames := 2, cells := 0, slots := 0, locals := 42 }
theorem h_Gray_init : mCI y_Gray_init b_Gray_init 3 2 := ⟨k_353, k_87, ⟨by decide, by decide, by decide +kernel⟩, k_352, rfl⟩
set_option maxHeartbeats 4000000 in
set_option maxRecDepth 100000 in
theorem w_Gray_init {h0 : Nat} {r : mM} (X : mX p m meth c s args b_Gray_init 3 none "ColourLinker$Gray") (G : mG D cA dA z0 s) (hN : meth.name = "<init>") {H : Heap} {locs : List Loc} {μ : mM} {ls : Array Slot} {x1 : Int32} {x2 : Int32} (I : mI D cA z0 s μ H locs s.heap.size) (hf : f_Gray_init h0 μ x1 x2 = some r) (hl : lv_has ls 3 [(0, va_rf (some h0)), (1, .int x1), (2, .int x2)]) : W p l e rm_Gray_init s m args below meth c H locs 0 0 (MQ below (mQW D cA z0 none r) args s 0 0 (mA z0)) (F0 m 0 ls []) := by
  have hx := X.ex
  have hb := X.by_
  unfold f_Gray_init at hf
  refine r_aload_n X d_Gray_init_0 rfl (lv_at hl 0 rfl) ?_
  refine lv_iload_n hx hb d_Gray_init_1 rfl (lv_at hl 1 rfl) ?_
  refine lv_iconst (v := 0) hx hb d_Gray_init_2 (by decide) ?_
  obtain ⟨q1, hv, hf⟩ := mbind hf
  obtain ⟨a, ha, hv⟩ := mbind hv
  refine m_caWv (m_runI (As := [.int x1, .int (0 : Int32)]) (r := some h0) (rest := []) X h_Piece_init k_354 (c_Piece_init hv) mPr_blind (m_pre G I) ha rfl rfl hl.1 (Nat.le_of_ble_eq_true rfl) rfl rfl ⟨Nat.le_of_ble_eq_true rfl, Nat.le_of_ble_eq_true rfl⟩ ⟨Nat.le_refl _, Nat.le_refl _⟩ d_Gray_init_3) I (fun H locs I => ?_)
  refine r_aload_n X d_Gray_init_6 rfl (lv_at hl 0 rfl) ?_
  refine lv_iload_n hx hb d_Gray_init_7 rfl (lv_at hl 2 rfl) ?_
  obtain ⟨m2, hv, hf⟩ := mbind hf
  refine r_putF (ty := .int) X G I hv o_Gray_space k_355 hN (by decide) rfl rfl d_Gray_init_8 (fun H locs I => ?_)
  obtain rfl := Option.some.inj hf
  exact r_vretW X I d_Gray_init_11

set_option maxHeartbeats 4000000 in
set_option maxRecDepth 100000 in
theorem c_Gray_init {l : Launch} {D : va_G} {cA : Nat → ClassId} {dA z0 : Nat} {μ : mM} {h0 : Nat} {x1 : Int32} {x2 : Int32} {r : mM} (hf : f_Gray_init h0 μ x1 x2 = some r) : Met l y_Gray_init (mW y_Gray_init b_Gray_init 3 none) rm_Gray_init (va_Pc [.ref h0, .int x1, .int x2] (mPr D cA dA z0 μ)) (mQW D cA z0 none r) 0 0 (mA z0) := by
  refine Met.ofW (cc := b_Gray_init) (maxL := 3) (ret := none) (by decide) rfl ?_
  intro p e s m args below meth c s₁ B hml hv
  obtain ⟨rfl, G, hP⟩ := hv
  have X := mX.of B hml
  have hN : meth.name = "<init>" := (name_of_methodNamed B.named B.method).1
  exact m_entry (lv := [(0, va_rf (some h0)), (1, .int x1), (2, .int x2)]) (Nat.le_of_ble_eq_true rfl) rfl (fun ls hl => w_Gray_init X G hN (mI.start hP) hf hl)

end WK
