section WK
variable {p : Program} {l : Launch} {e : Env} {s : State} {m : MethodId} {args : Array Value} {below : List Frame} {meth : Method} {c : Code} {D : va_G} {cA : Nat → ClassId} {dA z0 : Nat}
abbrev rm_Mo_curves : Room := { frames := 5, cells := 0, slots := 0, locals := 132 }
theorem h_Mo_curves : mCV y_Mo_curves b_Mo_curves 6 none 2 := ⟨k_1092, k_79, ⟨by decide, by decide, by decide +kernel⟩, k_1091, k_57⟩
set_option maxHeartbeats 4000000 in
set_option maxRecDepth 100000 in
theorem w_Mo_curves_86 {h0 : Nat} {r : mM} (X : mX p m meth c s args b_Mo_curves 6 none "ColourLinkerModel") (G : mG D cA dA z0 s) {H : Heap} {locs : List Loc} {μ : mM} {ls : Array Slot}  (I : mI D cA z0 s μ H locs s.heap.size) (hf : f_Mo_curves_86 h0 μ = some r) (hl : lv_has ls 6 [(0, va_rf (some h0))]) : W p l e rm_Mo_curves s m args below meth c H locs 0 0 (MQ below (mQW D cA z0 none r) args s 0 0 (mA z0)) (F0 m 86 ls []) := by
  have hx := X.ex
  have hb := X.by_
  unfold f_Mo_curves_86 at hf
  obtain rfl := Option.some.inj hf
  exact r_vretW X I d_Mo_curves_86

set_option maxHeartbeats 4000000 in
set_option maxRecDepth 100000 in
theorem w_Mo_curves_79 {h0 : Nat} {r : mM} (X : mX p m meth c s args b_Mo_curves 6 none "ColourLinkerModel") (G : mG D cA dA z0 s) {k : mM → Int32 → Int32 → Int32 → Int32 → Option (mM)} {kx86 : mM → Option (mM)} (hk : ∀ (H : Heap) (locs : List Loc) (μ : mM) (ls : Array Slot) (x1 : Int32) (x2 : Int32) (x3 : Int32) (x4 : Int32), mI D cA z0 s μ H locs s.heap.size → k μ x1 x2 x3 x4 = some r → lv_has ls 6 [(0, va_rf (some h0)), (1, .int x1), (2, .int x2), (3, .int x3), (4, .int x4)] → W p l e rm_Mo_curves s m args below meth c H locs 0 0 (MQ below (mQW D cA z0 none r) args s 0 0 (mA z0)) (F0 m 17 ls [])) (hkx86 : ∀ (H : Heap) (locs : List Loc) (μ : mM) (ls : Array Slot), mI D cA z0 s μ H locs s.heap.size → kx86 μ = some r → lv_has ls 6 [(0, va_rf (some h0))] → W p l e rm_Mo_curves s m args below meth c H locs 0 0 (MQ below (mQW D cA z0 none r) args s 0 0 (mA z0)) (F0 m 86 ls [])) {H : Heap} {locs : List Loc} {μ : mM} {ls : Array Slot} {x1 : Int32} {x2 : Int32} {x3 : Int32} {x4 : Int32} {s0 : Option Nat} {s1 : Int32} {s2 : Int64} (I : mI D cA z0 s μ H locs s.heap.size) (hf : f_Mo_curves_79 h0 k kx86 μ x1 x2 x3 x4 s0 s1 s2 = some r) (hl : lv_has ls 6 [(0, va_rf (some h0)), (1, .int x1), (2, .int x2), (3, .int x3), (4, .int x4)]) : W p l e rm_Mo_curves s m args below meth c H locs 0 0 (MQ below (mQW D cA z0 none r) args s 0 0 (mA z0)) (F0 m 79 ls [.long s2, .int s1, va_rf s0]) := by
  have hx := X.ex
  have hb := X.by_
  unfold f_Mo_curves_79 at hf
  obtain ⟨m9, hv, hf⟩ := mbind hf
  refine r_last X G I hv d_Mo_curves_79 (fun H locs I => ?_)
  refine lv_iinc (i := 4) (k := 4) (v := (x4 + (1 : Int32))) (lv' := [(4, .int (x4 + (1 : Int32))), (0, va_rf (some h0)), (1, .int x1), (2, .int x2), (3, .int x3)]) hx hb d_Mo_curves_80 hl rfl (congrArg (fun t => x4 + t) (by decide : Int32.ofInt (1) = (1 : Int32))) (by decide) rfl (fun ls hl => ?_)
  refine lv_goto (tgt := 17) hx hb d_Mo_curves_83 (by decide) ?_
  exact hk _ _ _ _ _ _ _ _ I hf (lv_sub hl [1, 2, 3, 4, 0] rfl)

set_option maxHeartbeats 4000000 in
set_option maxRecDepth 100000 in
theorem w_Mo_curves_36 {h0 : Nat} {r : mM} (X : mX p m meth c s args b_Mo_curves 6 none "ColourLinkerModel") (G : mG D cA dA z0 s) {k : mM → Int32 → Int32 → Int32 → Int32 → Option (mM)} {kx86 : mM → Option (mM)} (hk : ∀ (H : Heap) (locs : List Loc) (μ : mM) (ls : Array Slot) (x1 : Int32) (x2 : Int32) (x3 : Int32) (x4 : Int32), mI D cA z0 s μ H locs s.heap.size → k μ x1 x2 x3 x4 = some r → lv_has ls 6 [(0, va_rf (some h0)), (1, .int x1), (2, .int x2), (3, .int x3), (4, .int x4)] → W p l e rm_Mo_curves s m args below meth c H locs 0 0 (MQ below (mQW D cA z0 none r) args s 0 0 (mA z0)) (F0 m 17 ls [])) (hkx86 : ∀ (H : Heap) (locs : List Loc) (μ : mM) (ls : Array Slot), mI D cA z0 s μ H locs s.heap.size → kx86 μ = some r → lv_has ls 6 [(0, va_rf (some h0))] → W p l e rm_Mo_curves s m args below meth c H locs 0 0 (MQ below (mQW D cA z0 none r) args s 0 0 (mA z0)) (F0 m 86 ls [])) {H : Heap} {locs : List Loc} {μ : mM} {ls : Array Slot} {x1 : Int32} {x2 : Int32} {x3 : Int32} {x4 : Int32} {s0 : Int32} (I : mI D cA z0 s μ H locs s.heap.size) (hf : f_Mo_curves_36 h0 k kx86 μ x1 x2 x3 x4 s0 = some r) (hl : lv_has ls 6 [(0, va_rf (some h0)), (1, .int x1), (2, .int x2), (3, .int x3), (4, .int x4)]) : W p l e rm_Mo_curves s m args below meth c H locs 0 0 (MQ below (mQW D cA z0 none r) args s 0 0 (mA z0)) (F0 m 36 ls [.int s0]) := by
  have hx := X.ex
  have hb := X.by_
  unfold f_Mo_curves_36 at hf
  refine lv_istore (i := 5) (lv' := [(5, .int s0), (0, va_rf (some h0)), (1, .int x1), (2, .int x2), (3, .int x3), (4, .int x4)]) hx hb d_Mo_curves_36 hl (by decide) rfl (fun ls hl => ?_)
  refine r_aload_n X d_Mo_curves_38 rfl (lv_at hl 1 rfl) ?_
  obtain ⟨v2, hv, hf⟩ := mbind hf
  refine r_getf X G I (mfA_e hv) o_Mo_v k_852 (Or.inl rfl) d_Mo_curves_39 ?_
  refine lv_iload hx hb d_Mo_curves_42 (lv_at hl 5 rfl) ?_
  refine lv_iload_n hx hb d_Mo_curves_44 rfl (lv_at hl 3 rfl) ?_
  refine lv_if_eq (tgt := 65) hx hb d_Mo_curves_45 (by decide) (fun hc => ?_) (fun hc => ?_)
  · have hf := mift hf hc
    refine r_aload_n X d_Mo_curves_65 rfl (lv_at hl 1 rfl) ?_
    refine lv_iload_n hx hb d_Mo_curves_66 rfl (lv_at hl 2 rfl) ?_
    refine lv_iload hx hb d_Mo_curves_67 (lv_at hl 0 rfl) ?_
    refine r_aload_n X d_Mo_curves_69 rfl (lv_at hl 1 rfl) ?_
    obtain ⟨v3, hv, hf⟩ := mbind hf
    refine r_getf X G I (mfA_e hv) o_Mo_old k_853 (Or.inl rfl) d_Mo_curves_70 ?_
    refine lv_iload hx hb d_Mo_curves_73 (lv_at hl 5 rfl) ?_
    obtain ⟨v4, hv, hf⟩ := mbind hf
    refine r_lald X G I hv d_Mo_curves_75 ?_
    obtain ⟨q5, hv, hf⟩ := mbind hf
    obtain ⟨a, ha, hv⟩ := mbind hv
    obtain ⟨ha, fs, hm⟩ := mrc_e ha
    refine m_caR (m_runV (As := [.int x1, .int s0, .long v4]) (r := some h0) (rest := [.int x4, va_rf v2]) X G I h_Mo_value k_988 (c_Mo_value hv) mPr_blind (m_pre G I) hm rfl ha rfl rfl hl.1 (Nat.le_of_ble_eq_true rfl) rfl rfl ⟨Nat.le_of_ble_eq_true rfl, Nat.le_of_ble_eq_true rfl⟩ ⟨Nat.le_refl _, Nat.le_refl _⟩ d_Mo_curves_76) ?_
    exact w_Mo_curves_79 X G hk hkx86 I hf (lv_sub hl [1, 2, 3, 4, 5] rfl)
  · have hf := miff hf hc
    refine r_aload_n X d_Mo_curves_48 rfl (lv_at hl 1 rfl) ?_
    refine lv_iload_n hx hb d_Mo_curves_49 rfl (lv_at hl 2 rfl) ?_
    refine lv_iload hx hb d_Mo_curves_50 (lv_at hl 0 rfl) ?_
    refine r_aload_n X d_Mo_curves_52 rfl (lv_at hl 1 rfl) ?_
    obtain ⟨v6, hv, hf⟩ := mbind hf
    refine r_getf X G I (mfA_e hv) o_Mo_old k_853 (Or.inl rfl) d_Mo_curves_53 ?_
    refine lv_iload hx hb d_Mo_curves_56 (lv_at hl 5 rfl) ?_
    obtain ⟨v7, hv, hf⟩ := mbind hf
    refine r_lald X G I hv d_Mo_curves_58 ?_
    obtain ⟨q8, hv, hf⟩ := mbind hf
    obtain ⟨a, ha, hv⟩ := mbind hv
    obtain ⟨ha, fs, hm⟩ := mrc_e ha
    refine m_caR (m_runV (As := [.int x1, .int s0, .long v7]) (r := some h0) (rest := [.int x4, va_rf v2]) X G I h_Mo_inverse k_1004 (c_Mo_inverse hv) mPr_blind (m_pre G I) hm rfl ha rfl rfl hl.1 (Nat.le_of_ble_eq_true rfl) rfl rfl ⟨Nat.le_of_ble_eq_true rfl, Nat.le_of_ble_eq_true rfl⟩ ⟨Nat.le_refl _, Nat.le_refl _⟩ d_Mo_curves_59) ?_
    refine lv_goto (tgt := 79) hx hb d_Mo_curves_62 (by decide) ?_
    exact w_Mo_curves_79 X G hk hkx86 I hf (lv_sub hl [1, 2, 3, 4, 5] rfl)

set_option maxHeartbeats 4000000 in
set_option maxRecDepth 100000 in
theorem w_Mo_curves_17 {h0 : Nat} {r : mM} (X : mX p m meth c s args b_Mo_curves 6 none "ColourLinkerModel") (G : mG D cA dA z0 s) {kx86 : mM → Option (mM)} (hkx86 : ∀ (H : Heap) (locs : List Loc) (μ : mM) (ls : Array Slot), mI D cA z0 s μ H locs s.heap.size → kx86 μ = some r → lv_has ls 6 [(0, va_rf (some h0))] → W p l e rm_Mo_curves s m args below meth c H locs 0 0 (MQ below (mQW D cA z0 none r) args s 0 0 (mA z0)) (F0 m 86 ls [])) : ∀ (n : Nat) (H : Heap) (locs : List Loc) (μ : mM) (ls : Array Slot) (x1 : Int32) (x2 : Int32) (x3 : Int32) (x4 : Int32), mI D cA z0 s μ H locs s.heap.size → f_Mo_curves_17 h0 kx86 n μ x1 x2 x3 x4 = some r → lv_has ls 6 [(0, va_rf (some h0)), (1, .int x1), (2, .int x2), (3, .int x3), (4, .int x4)] → W p l e rm_Mo_curves s m args below meth c H locs 0 0 (MQ below (mQW D cA z0 none r) args s 0 0 (mA z0)) (F0 m 17 ls []) := by
  have hx := X.ex
  have hb := X.by_
  intro n
  induction n with
  | zero => intro H locs μ ls x1 x2 x3 x4 I hf hl; rw [f_Mo_curves_17] at hf; cases hf
  | succ n ih =>
    intro H locs μ ls x1 x2 x3 x4 I hf hl
    rw [f_Mo_curves_17] at hf
    refine lv_iload hx hb d_Mo_curves_17 (lv_at hl 4 rfl) ?_
    refine lv_iload_n hx hb d_Mo_curves_19 rfl (lv_at hl 3 rfl) ?_
    refine lv_icmp_ge (tgt := 86) hx hb d_Mo_curves_20 (by decide) (fun hc => ?_) (fun hc => ?_)
    · have hf := mift hf hc
      exact hkx86 _ _ _ _ I hf (lv_sub hl [0] rfl)
    · have hf := miff hf hc
      refine lv_iload_n hx hb d_Mo_curves_23 rfl (lv_at hl 3 rfl) ?_
      refine lv_iconst (v := 1) hx hb d_Mo_curves_24 (by decide) ?_
      refine lv_icmp_ne (tgt := 32) hx hb d_Mo_curves_25 (by decide) (fun hc => ?_) (fun hc => ?_)
      · have hf := miff hf hc
        refine lv_iconst (v := 2) hx hb d_Mo_curves_32 (by decide) ?_
        refine lv_iload hx hb d_Mo_curves_33 (lv_at hl 4 rfl) ?_
        refine lv_iadd hx hb d_Mo_curves_35 ?_
        exact w_Mo_curves_36 X G ih hkx86 I hf hl
      · have hf := mift hf hc
        refine lv_iconst (v := 1) hx hb d_Mo_curves_28 (by decide) ?_
        refine lv_goto (tgt := 36) hx hb d_Mo_curves_29 (by decide) ?_
        exact w_Mo_curves_36 X G ih hkx86 I hf hl

set_option maxHeartbeats 4000000 in
set_option maxRecDepth 100000 in
theorem w_Mo_curves_13 {h0 : Nat} {r : mM} (X : mX p m meth c s args b_Mo_curves 6 none "ColourLinkerModel") (G : mG D cA dA z0 s) {H : Heap} {locs : List Loc} {μ : mM} {ls : Array Slot} {x1 : Int32} {x2 : Int32} {s0 : Int32} (I : mI D cA z0 s μ H locs s.heap.size) (hf : f_Mo_curves_13 h0 μ x1 x2 s0 = some r) (hl : lv_has ls 6 [(0, va_rf (some h0)), (1, .int x1), (2, .int x2)]) : W p l e rm_Mo_curves s m args below meth c H locs 0 0 (MQ below (mQW D cA z0 none r) args s 0 0 (mA z0)) (F0 m 13 ls [.int s0]) := by
  have hx := X.ex
  have hb := X.by_
  unfold f_Mo_curves_13 at hf
  refine lv_istore_n (i := 3) (lv' := [(3, .int s0), (0, va_rf (some h0)), (1, .int x1), (2, .int x2)]) hx hb d_Mo_curves_13 rfl hl (by decide) rfl (fun ls hl => ?_)
  refine lv_iconst (v := 0) hx hb d_Mo_curves_14 (by decide) ?_
  refine lv_istore (i := 4) (lv' := [(4, .int (0 : Int32)), (3, .int s0), (0, va_rf (some h0)), (1, .int x1), (2, .int x2)]) hx hb d_Mo_curves_15 hl (by decide) rfl (fun ls hl => ?_)
  exact w_Mo_curves_17 X G (fun H locs μ ls I hf hl => w_Mo_curves_86 X G I hf hl) 4096 _ _ _ _ _ _ _ _ I hf (lv_sub hl [2, 3, 4, 1, 0] rfl)

set_option maxHeartbeats 4000000 in
set_option maxRecDepth 100000 in
theorem w_Mo_curves {h0 : Nat} {r : mM} (X : mX p m meth c s args b_Mo_curves 6 none "ColourLinkerModel") (G : mG D cA dA z0 s) {H : Heap} {locs : List Loc} {μ : mM} {ls : Array Slot} {x1 : Int32} {x2 : Int32} (I : mI D cA z0 s μ H locs s.heap.size) (hf : f_Mo_curves h0 μ x1 x2 = some r) (hl : lv_has ls 6 [(0, va_rf (some h0)), (1, .int x1), (2, .int x2)]) : W p l e rm_Mo_curves s m args below meth c H locs 0 0 (MQ below (mQW D cA z0 none r) args s 0 0 (mA z0)) (F0 m 0 ls []) := by
  have hx := X.ex
  have hb := X.by_
  unfold f_Mo_curves at hf
  refine r_aload_n X d_Mo_curves_0 rfl (lv_at hl 0 rfl) ?_
  refine lv_iload_n hx hb d_Mo_curves_1 rfl (lv_at hl 1 rfl) ?_
  obtain ⟨q1, hv, hf⟩ := mbind hf
  obtain ⟨a, ha, hv⟩ := mbind hv
  obtain ⟨ha, fs, hm⟩ := mrc_e ha
  refine m_caR (m_runV (As := [.int x1]) (r := some h0) (rest := []) X G I h_Mo_single k_1021 (c_Mo_single hv) mPr_blind (m_pre G I) hm rfl ha rfl rfl hl.1 (Nat.le_of_ble_eq_true rfl) rfl rfl ⟨Nat.le_of_ble_eq_true rfl, Nat.le_of_ble_eq_true rfl⟩ ⟨Nat.le_refl _, Nat.le_refl _⟩ d_Mo_curves_2) ?_
  refine lv_if_eq (tgt := 12) hx hb d_Mo_curves_5 (by decide) (fun hc => ?_) (fun hc => ?_)
  · have hf := mift hf hc
    refine lv_iconst (v := 3) hx hb d_Mo_curves_12 (by decide) ?_
    exact w_Mo_curves_13 X G I hf hl
  · have hf := miff hf hc
    refine lv_iconst (v := 1) hx hb d_Mo_curves_8 (by decide) ?_
    refine lv_goto (tgt := 13) hx hb d_Mo_curves_9 (by decide) ?_
    exact w_Mo_curves_13 X G I hf hl

set_option maxHeartbeats 4000000 in
set_option maxRecDepth 100000 in
theorem c_Mo_curves {l : Launch} {D : va_G} {cA : Nat → ClassId} {dA z0 : Nat} {μ : mM} {h0 : Nat} {x1 : Int32} {x2 : Int32} {r : mM} (hf : f_Mo_curves h0 μ x1 x2 = some r) : Met l y_Mo_curves (mW y_Mo_curves b_Mo_curves 6 none) rm_Mo_curves (va_Pc [.ref h0, .int x1, .int x2] (mPr D cA dA z0 μ)) (mQW D cA z0 none r) 0 0 (mA z0) := by
  refine Met.ofW (cc := b_Mo_curves) (maxL := 6) (ret := none) (by decide) rfl ?_
  intro p e s m args below meth c s₁ B hml hv
  obtain ⟨rfl, G, hP⟩ := hv
  have X := mX.of B hml
  exact m_entry (lv := [(0, va_rf (some h0)), (1, .int x1), (2, .int x2)]) (Nat.le_of_ble_eq_true rfl) rfl (fun ls hl => w_Mo_curves X G (mI.start hP) hf hl)

abbrev rm_Mo_matrix : Room := { frames := 4, cells := 0, slots := 0, locals := 93 }
theorem h_Mo_matrix : mCV y_Mo_matrix b_Mo_matrix 3 none 1 := ⟨k_1096, k_79, ⟨by decide, by decide, by decide +kernel⟩, k_1095, k_58⟩
set_option maxHeartbeats 4000000 in
set_option maxRecDepth 100000 in
theorem w_Mo_matrix_81 {h0 : Nat} {r : mM} (X : mX p m meth c s args b_Mo_matrix 3 none "ColourLinkerModel") (G : mG D cA dA z0 s) {H : Heap} {locs : List Loc} {μ : mM} {ls : Array Slot}  (I : mI D cA z0 s μ H locs s.heap.size) (hf : f_Mo_matrix_81 h0 μ = some r) (hl : lv_has ls 3 [(0, va_rf (some h0))]) : W p l e rm_Mo_matrix s m args below meth c H locs 0 0 (MQ below (mQW D cA z0 none r) args s 0 0 (mA z0)) (F0 m 81 ls []) := by
  have hx := X.ex
  have hb := X.by_
  unfold f_Mo_matrix_81 at hf
  obtain rfl := Option.some.inj hf
  exact r_vretW X I d_Mo_matrix_81

set_option maxHeartbeats 4000000 in
set_option maxRecDepth 100000 in
theorem w_Mo_matrix_7 {h0 : Nat} {r : mM} (X : mX p m meth c s args b_Mo_matrix 3 none "ColourLinkerModel") (G : mG D cA dA z0 s) {kx81 : mM → Option (mM)} (hkx81 : ∀ (H : Heap) (locs : List Loc) (μ : mM) (ls : Array Slot), mI D cA z0 s μ H locs s.heap.size → kx81 μ = some r → lv_has ls 3 [(0, va_rf (some h0))] → W p l e rm_Mo_matrix s m args below meth c H locs 0 0 (MQ below (mQW D cA z0 none r) args s 0 0 (mA z0)) (F0 m 81 ls [])) : ∀ (n : Nat) (H : Heap) (locs : List Loc) (μ : mM) (ls : Array Slot) (x2 : Int32), mI D cA z0 s μ H locs s.heap.size → f_Mo_matrix_7 h0 kx81 n μ x2 = some r → lv_has ls 3 [(0, va_rf (some h0)), (2, .int x2)] → W p l e rm_Mo_matrix s m args below meth c H locs 0 0 (MQ below (mQW D cA z0 none r) args s 0 0 (mA z0)) (F0 m 7 ls []) := by
  have hx := X.ex
  have hb := X.by_
  intro n
  induction n with
  | zero => intro H locs μ ls x2 I hf hl; rw [f_Mo_matrix_7] at hf; cases hf
  | succ n ih =>
    intro H locs μ ls x2 I hf hl
    rw [f_Mo_matrix_7] at hf
    refine lv_iload_n hx hb d_Mo_matrix_7 rfl (lv_at hl 1 rfl) ?_
    refine lv_iconst (v := 3) hx hb d_Mo_matrix_8 (by decide) ?_
    refine lv_icmp_ge (tgt := 81) hx hb d_Mo_matrix_9 (by decide) (fun hc => ?_) (fun hc => ?_)
    · have hf := mift hf hc
      exact hkx81 _ _ _ _ I hf (lv_sub hl [0] rfl)
    · have hf := miff hf hc
      refine r_aload_n X d_Mo_matrix_12 rfl (lv_at hl 0 rfl) ?_
      obtain ⟨v2, hv, hf⟩ := mbind hf
      refine r_getf X G I (mfA_e hv) o_Mo_v k_852 (Or.inl rfl) d_Mo_matrix_13 ?_
      refine lv_iload_n hx hb d_Mo_matrix_16 rfl (lv_at hl 1 rfl) ?_
      refine r_aload_n X d_Mo_matrix_17 rfl (lv_at hl 0 rfl) ?_
      obtain ⟨v3, hv, hf⟩ := mbind hf
      refine r_getf X G I (mfA_e hv) o_Mo_m k_854 (Or.inl rfl) d_Mo_matrix_18 ?_
      refine lv_iconst (v := 3) hx hb d_Mo_matrix_21 (by decide) ?_
      refine lv_iload_n hx hb d_Mo_matrix_22 rfl (lv_at hl 1 rfl) ?_
      refine lv_imul hx hb d_Mo_matrix_23 ?_
      obtain ⟨v4, hv, hf⟩ := mbind hf
      refine r_lald X G I hv d_Mo_matrix_24 ?_
      refine r_aload_n X d_Mo_matrix_25 rfl (lv_at hl 0 rfl) ?_
      obtain ⟨v5, hv, hf⟩ := mbind hf
      refine r_getf X G I (mfA_e hv) o_Mo_old k_853 (Or.inl rfl) d_Mo_matrix_26 ?_
      refine lv_iconst (v := 0) hx hb d_Mo_matrix_29 (by decide) ?_
      obtain ⟨v6, hv, hf⟩ := mbind hf
      refine r_lald X G I hv d_Mo_matrix_30 ?_
      refine lv_lmul hx hb d_Mo_matrix_31 ?_
      refine r_aload_n X d_Mo_matrix_32 rfl (lv_at hl 0 rfl) ?_
      obtain ⟨v7, hv, hf⟩ := mbind hf
      refine r_getf X G I (mfA_e hv) o_Mo_m k_854 (Or.inl rfl) d_Mo_matrix_33 ?_
      refine lv_iconst (v := 3) hx hb d_Mo_matrix_36 (by decide) ?_
      refine lv_iload_n hx hb d_Mo_matrix_37 rfl (lv_at hl 1 rfl) ?_
      refine lv_imul hx hb d_Mo_matrix_38 ?_
      refine lv_iconst (v := 1) hx hb d_Mo_matrix_39 (by decide) ?_
      refine lv_iadd hx hb d_Mo_matrix_40 ?_
      obtain ⟨v8, hv, hf⟩ := mbind hf
      refine r_lald X G I hv d_Mo_matrix_41 ?_
      refine r_aload_n X d_Mo_matrix_42 rfl (lv_at hl 0 rfl) ?_
      obtain ⟨v9, hv, hf⟩ := mbind hf
      refine r_getf X G I (mfA_e hv) o_Mo_old k_853 (Or.inl rfl) d_Mo_matrix_43 ?_
      refine lv_iconst (v := 1) hx hb d_Mo_matrix_46 (by decide) ?_
      obtain ⟨v10, hv, hf⟩ := mbind hf
      refine r_lald X G I hv d_Mo_matrix_47 ?_
      refine lv_lmul hx hb d_Mo_matrix_48 ?_
      refine lv_ladd hx hb d_Mo_matrix_49 ?_
      refine r_aload_n X d_Mo_matrix_50 rfl (lv_at hl 0 rfl) ?_
      obtain ⟨v11, hv, hf⟩ := mbind hf
      refine r_getf X G I (mfA_e hv) o_Mo_m k_854 (Or.inl rfl) d_Mo_matrix_51 ?_
      refine lv_iconst (v := 3) hx hb d_Mo_matrix_54 (by decide) ?_
      refine lv_iload_n hx hb d_Mo_matrix_55 rfl (lv_at hl 1 rfl) ?_
      refine lv_imul hx hb d_Mo_matrix_56 ?_
      refine lv_iconst (v := 2) hx hb d_Mo_matrix_57 (by decide) ?_
      refine lv_iadd hx hb d_Mo_matrix_58 ?_
      obtain ⟨v12, hv, hf⟩ := mbind hf
      refine r_lald X G I hv d_Mo_matrix_59 ?_
      refine r_aload_n X d_Mo_matrix_60 rfl (lv_at hl 0 rfl) ?_
      obtain ⟨v13, hv, hf⟩ := mbind hf
      refine r_getf X G I (mfA_e hv) o_Mo_old k_853 (Or.inl rfl) d_Mo_matrix_61 ?_
      refine lv_iconst (v := 2) hx hb d_Mo_matrix_64 (by decide) ?_
      obtain ⟨v14, hv, hf⟩ := mbind hf
      refine r_lald X G I hv d_Mo_matrix_65 ?_
      refine lv_lmul hx hb d_Mo_matrix_66 ?_
      refine lv_ladd hx hb d_Mo_matrix_67 ?_
      refine lv_ldc2 (v := 4096) hx hb X.ow (X.w k_1084) d_Mo_matrix_68 ?_
      obtain ⟨q15, hv, hf⟩ := mbind hf
      refine m_caR (m_runS (As := [.long (((v4 * v6) + (v8 * v10)) + (v12 * v14)), .long (4096 : Int64)]) (rest := [.int x2, va_rf v2]) X h_Mo_clipNear k_998 (c_Mo_clipNear hv) mPr_blind (m_pre G I) rfl rfl hl.1 (Nat.le_of_ble_eq_true rfl) rfl rfl ⟨Nat.le_of_ble_eq_true rfl, Nat.le_of_ble_eq_true rfl⟩ ⟨Nat.le_refl _, Nat.le_refl _⟩ d_Mo_matrix_71) ?_
      obtain ⟨m16, hv, hf⟩ := mbind hf
      refine r_last X G I hv d_Mo_matrix_74 (fun H locs I => ?_)
      refine lv_iinc (i := 2) (k := 1) (v := (x2 + (1 : Int32))) (lv' := [(2, .int (x2 + (1 : Int32))), (0, va_rf (some h0))]) hx hb d_Mo_matrix_75 hl rfl (congrArg (fun t => x2 + t) (by decide : Int32.ofInt (1) = (1 : Int32))) (by decide) rfl (fun ls hl => ?_)
      refine lv_goto (tgt := 7) hx hb d_Mo_matrix_78 (by decide) ?_
      exact ih _ _ _ _ _ I hf (lv_sub hl [1, 0] rfl)

set_option maxHeartbeats 4000000 in
set_option maxRecDepth 100000 in
theorem w_Mo_matrix {h0 : Nat} {r : mM} (X : mX p m meth c s args b_Mo_matrix 3 none "ColourLinkerModel") (G : mG D cA dA z0 s) {H : Heap} {locs : List Loc} {μ : mM} {ls : Array Slot} {x1 : Int32} (I : mI D cA z0 s μ H locs s.heap.size) (hf : f_Mo_matrix h0 μ x1 = some r) (hl : lv_has ls 3 [(0, va_rf (some h0)), (1, .int x1)]) : W p l e rm_Mo_matrix s m args below meth c H locs 0 0 (MQ below (mQW D cA z0 none r) args s 0 0 (mA z0)) (F0 m 0 ls []) := by
  have hx := X.ex
  have hb := X.by_
  unfold f_Mo_matrix at hf
  refine r_aload_n X d_Mo_matrix_0 rfl (lv_at hl 0 rfl) ?_
  refine lv_iload_n hx hb d_Mo_matrix_1 rfl (lv_at hl 1 rfl) ?_
  obtain ⟨q1, hv, hf⟩ := mbind hf
  obtain ⟨a, ha, hv⟩ := mbind hv
  obtain ⟨ha, fs, hm⟩ := mrc_e ha
  refine m_caWv (m_runV (As := [.int x1]) (r := some h0) (rest := []) X G I h_Mo_takeMatrix k_1037 (c_Mo_takeMatrix hv) mPr_blind (m_pre G I) hm rfl ha rfl rfl hl.1 (Nat.le_of_ble_eq_true rfl) rfl rfl ⟨Nat.le_of_ble_eq_true rfl, Nat.le_of_ble_eq_true rfl⟩ ⟨Nat.le_refl _, Nat.le_refl _⟩ d_Mo_matrix_2) I (fun H locs I => ?_)
  refine lv_iconst (v := 0) hx hb d_Mo_matrix_5 (by decide) ?_
  refine lv_istore_n (i := 2) (lv' := [(2, .int (0 : Int32)), (0, va_rf (some h0)), (1, .int x1)]) hx hb d_Mo_matrix_6 rfl hl (by decide) rfl (fun ls hl => ?_)
  exact w_Mo_matrix_7 X G (fun H locs μ ls I hf hl => w_Mo_matrix_81 X G I hf hl) 4096 _ _ _ _ _ I hf (lv_sub hl [1, 0] rfl)

set_option maxHeartbeats 4000000 in
set_option maxRecDepth 100000 in
theorem c_Mo_matrix {l : Launch} {D : va_G} {cA : Nat → ClassId} {dA z0 : Nat} {μ : mM} {h0 : Nat} {x1 : Int32} {r : mM} (hf : f_Mo_matrix h0 μ x1 = some r) : Met l y_Mo_matrix (mW y_Mo_matrix b_Mo_matrix 3 none) rm_Mo_matrix (va_Pc [.ref h0, .int x1] (mPr D cA dA z0 μ)) (mQW D cA z0 none r) 0 0 (mA z0) := by
  refine Met.ofW (cc := b_Mo_matrix) (maxL := 3) (ret := none) (by decide) rfl ?_
  intro p e s m args below meth c s₁ B hml hv
  obtain ⟨rfl, G, hP⟩ := hv
  have X := mX.of B hml
  exact m_entry (lv := [(0, va_rf (some h0)), (1, .int x1)]) (Nat.le_of_ble_eq_true rfl) rfl (fun ls hl => w_Mo_matrix X G (mI.start hP) hf hl)

abbrev rm_Mo_node : Room := { frames := 1, cells := 0, slots := 0, locals := 22 }
theorem h_Mo_node : mCV y_Mo_node b_Mo_node 8 (some .long) 4 := ⟨k_1104, k_79, ⟨by decide, by decide, by decide +kernel⟩, k_1103, k_60⟩
set_option maxHeartbeats 4000000 in
set_option maxRecDepth 100000 in
theorem w_Mo_node {μ : mM} {h0 : Nat} {r : Int64} (X : mX p m meth c s args b_Mo_node 8 (some .long) "ColourLinkerModel") (G : mG D cA dA z0 s) (I : mI D cA z0 s μ s.heap [] s.heap.size) {ls : Array Slot} {x1 : Int32} {x2 : Int32} {x3 : Int32} {x4 : Int32} (hf : f_Mo_node μ h0 x1 x2 x3 x4 = some r) (hl : lv_has ls 8 [(0, va_rf (some h0)), (1, .int x1), (2, .int x2), (3, .int x3), (4, .int x4)]) : W p l e rm_Mo_node s m args below meth c s.heap [] 0 0 (MQ below (mQR (some (.long r))) args s 0 0 (fun _ => False)) (F0 m 0 ls []) := by
  have hx := X.ex
  have hb := X.by_
  unfold f_Mo_node at hf
  refine r_aload_n X d_Mo_node_0 rfl (lv_at hl 0 rfl) ?_
  refine lv_iload_n hx hb d_Mo_node_1 rfl (lv_at hl 1 rfl) ?_
  refine lv_iload_n hx hb d_Mo_node_2 rfl (lv_at hl 2 rfl) ?_
  refine lv_iconst (v := 1) hx hb d_Mo_node_3 (by decide) ?_
  refine lv_iadd hx hb d_Mo_node_4 ?_
  obtain ⟨q1, hv, hf⟩ := mbind hf
  obtain ⟨a, ha, hv⟩ := mbind hv
  obtain ⟨ha, fs, hm⟩ := mrc_e ha
  refine m_caR (m_runV (As := [.int x1, .int (x2 + (1 : Int32))]) (r := some h0) (rest := []) X G I h_Mo_part k_955 (c_Mo_part hv) mPr_blind (m_pre G I) hm rfl ha rfl rfl hl.1 (Nat.le_of_ble_eq_true rfl) rfl rfl ⟨Nat.le_of_ble_eq_true rfl, Nat.le_of_ble_eq_true rfl⟩ ⟨Nat.le_refl _, Nat.le_refl _⟩ d_Mo_node_5) ?_
  refine lv_istore (i := 5) (lv' := [(5, .int q1), (0, va_rf (some h0)), (1, .int x1), (2, .int x2), (3, .int x3), (4, .int x4)]) hx hb d_Mo_node_8 hl (by decide) rfl (fun ls hl => ?_)
  refine lv_iload_n hx hb d_Mo_node_10 rfl (lv_at hl 4 rfl) ?_
  refine lv_iconst (v := 4) hx hb d_Mo_node_11 (by decide) ?_
  refine lv_ishr hx hb d_Mo_node_12 ?_
  refine lv_iconst (v := 3) hx hb d_Mo_node_13 (by decide) ?_
  refine lv_iand hx hb d_Mo_node_14 ?_
  refine lv_istore (i := 6) (lv' := [(6, .int ((x3 >>> ((4 : Int32) &&& 31)) &&& (3 : Int32))), (5, .int q1), (0, va_rf (some h0)), (1, .int x1), (2, .int x2), (3, .int x3), (4, .int x4)]) hx hb d_Mo_node_15 hl (by decide) rfl (fun ls hl => ?_)
  refine lv_iload_n hx hb d_Mo_node_17 rfl (lv_at hl 5 rfl) ?_
  refine lv_iconst (v := 2) hx hb d_Mo_node_18 (by decide) ?_
  refine lv_ishr hx hb d_Mo_node_19 ?_
  refine lv_iconst (v := 3) hx hb d_Mo_node_20 (by decide) ?_
  refine lv_iand hx hb d_Mo_node_21 ?_
  refine lv_istore (i := 7) (lv' := [(7, .int ((x3 >>> ((2 : Int32) &&& 31)) &&& (3 : Int32))), (6, .int ((x3 >>> ((4 : Int32) &&& 31)) &&& (3 : Int32))), (5, .int q1), (0, va_rf (some h0)), (1, .int x1), (2, .int x2), (3, .int x3), (4, .int x4)]) hx hb d_Mo_node_22 hl (by decide) rfl (fun ls hl => ?_)
  refine lv_ldc2 (v := 257) hx hb X.ow (X.w k_1105) d_Mo_node_24 ?_
  refine r_aload_n X d_Mo_node_27 rfl (lv_at hl 3 rfl) ?_
  refine lv_iload_n hx hb d_Mo_node_28 rfl (lv_at hl 4 rfl) ?_
  refine lv_iload_n hx hb d_Mo_node_29 rfl (lv_at hl 5 rfl) ?_
  refine lv_iconst (v := 2) hx hb d_Mo_node_30 (by decide) ?_
  refine lv_iadd hx hb d_Mo_node_31 ?_
  refine lv_iconst (v := 3) hx hb d_Mo_node_32 (by decide) ?_
  refine lv_iload hx hb d_Mo_node_33 (lv_at hl 1 rfl) ?_
  refine lv_iload hx hb d_Mo_node_35 (lv_at hl 2 rfl) ?_
  refine lv_imul hx hb d_Mo_node_37 ?_
  refine lv_iload hx hb d_Mo_node_38 (lv_at hl 0 rfl) ?_
  refine lv_iadd hx hb d_Mo_node_40 ?_
  refine lv_iload hx hb d_Mo_node_41 (lv_at hl 2 rfl) ?_
  refine lv_imul hx hb d_Mo_node_43 ?_
  refine lv_iload_n hx hb d_Mo_node_44 rfl (lv_at hl 6 rfl) ?_
  refine lv_iconst (v := 3) hx hb d_Mo_node_45 (by decide) ?_
  refine lv_iand hx hb d_Mo_node_46 ?_
  refine lv_iadd hx hb d_Mo_node_47 ?_
  refine lv_imul hx hb d_Mo_node_48 ?_
  refine lv_iadd hx hb d_Mo_node_49 ?_
  refine lv_iload hx hb d_Mo_node_50 (lv_at hl 7 rfl) ?_
  refine lv_iadd hx hb d_Mo_node_52 ?_
  obtain ⟨q2, hv, hf⟩ := mbind hf
  obtain ⟨a, ha, hv⟩ := mbind hv
  obtain ⟨ha, fs, hm⟩ := mrc_e ha
  refine m_caR (m_runV (As := [.int x1, .int (((x2 + (2 : Int32)) + ((3 : Int32) * ((((((x3 >>> ((4 : Int32) &&& 31)) &&& (3 : Int32)) * q1) + ((x3 >>> ((2 : Int32) &&& 31)) &&& (3 : Int32))) * q1) + (x3 &&& (3 : Int32))))) + x4)]) (r := some h0) (rest := [.long (257 : Int64)]) X G I h_Mo_part k_955 (c_Mo_part hv) mPr_blind (m_pre G I) hm rfl ha rfl rfl hl.1 (Nat.le_of_ble_eq_true rfl) rfl rfl ⟨Nat.le_of_ble_eq_true rfl, Nat.le_of_ble_eq_true rfl⟩ ⟨Nat.le_refl _, Nat.le_refl _⟩ d_Mo_node_53) ?_
  refine lv_i2l hx hb d_Mo_node_56 rfl ?_
  refine lv_lmul hx hb d_Mo_node_57 ?_
  obtain rfl := Option.some.inj hf
  exact r_lretR X d_Mo_node_58

set_option maxHeartbeats 4000000 in
set_option maxRecDepth 100000 in
theorem c_Mo_node {l : Launch} {D : va_G} {cA : Nat → ClassId} {dA z0 : Nat} {μ : mM} {h0 : Nat} {x1 : Int32} {x2 : Int32} {x3 : Int32} {x4 : Int32} {r : Int64} (hf : f_Mo_node μ h0 x1 x2 x3 x4 = some r) : Met l y_Mo_node (mW y_Mo_node b_Mo_node 8 (some .long)) rm_Mo_node (va_Pc [.ref h0, .int x1, .int x2, .int x3, .int x4] (mPr D cA dA z0 μ)) (mQR (some (.long r))) 0 0 (fun _ => False) := by
  refine Met.ofW (cc := b_Mo_node) (maxL := 8) (ret := (some .long)) (by decide) rfl ?_
  intro p e s m args below meth c s₁ B hml hv
  obtain ⟨rfl, G, hP⟩ := hv
  have X := mX.of B hml
  exact m_entry (lv := [(0, va_rf (some h0)), (1, .int x1), (2, .int x2), (3, .int x3), (4, .int x4)]) (Nat.le_of_ble_eq_true rfl) rfl (fun ls hl => w_Mo_node X G (mI.start hP) hf hl)

end WK
