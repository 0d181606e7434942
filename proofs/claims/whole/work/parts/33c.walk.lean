section WK
variable {p : Program} {l : Launch} {e : Env} {s : State} {m : MethodId} {args : Array Value} {below : List Frame} {meth : Method} {c : Code} {D : va_G} {cA : Nat → ClassId} {dA z0 : Nat}
abbrev rm_Mo_taken : Room := { frames := 2, cells := 0, slots := 0, locals := 43 }
theorem h_Mo_taken : mCV y_Mo_taken b_Mo_taken 7 (some .boolean) 4 := ⟨k_1191, k_79, ⟨by decide, by decide, by decide +kernel⟩, k_1190, k_70⟩
set_option maxHeartbeats 4000000 in
set_option maxRecDepth 100000 in
theorem w_Mo_taken_122 {h0 : Nat} {r : Int32 × mM} (X : mX p m meth c s args b_Mo_taken 7 (some .boolean) "ColourLinkerModel") (G : mG D cA dA z0 s) {H : Heap} {locs : List Loc} {μ : mM} {ls : Array Slot} {s0 : Option Nat} {s1 : Int32} {s2 : Int64} (I : mI D cA z0 s μ H locs s.heap.size) (hf : f_Mo_taken_122 h0 μ s0 s1 s2 = some r) (hl : lv_has ls 7 [(0, va_rf (some h0))]) : W p l e rm_Mo_taken s m args below meth c H locs 0 0 (MQ below (mQW D cA z0 (some (.int r.1)) r.2) args s 0 0 (mA z0)) (F0 m 122 ls [.long s2, .int s1, va_rf s0]) := by
  have hx := X.ex
  have hb := X.by_
  unfold f_Mo_taken_122 at hf
  obtain ⟨m17, hv, hf⟩ := mbind hf
  refine r_last X G I hv d_Mo_taken_122 (fun H locs I => ?_)
  refine lv_iconst (v := 1) hx hb d_Mo_taken_123 (by decide) ?_
  obtain rfl := Option.some.inj hf
  exact r_zretW X I (Or.inr rfl) d_Mo_taken_124

set_option maxHeartbeats 4000000 in
set_option maxRecDepth 100000 in
theorem w_Mo_taken_104 {h0 : Nat} {r : Int32 × mM} (X : mX p m meth c s args b_Mo_taken 7 (some .boolean) "ColourLinkerModel") (G : mG D cA dA z0 s) {H : Heap} {locs : List Loc} {μ : mM} {ls : Array Slot} {x4 : Int32} {x6 : Int32} {s0 : Option Nat} {s1 : Int32} {s2 : Int64} (I : mI D cA z0 s μ H locs s.heap.size) (hf : f_Mo_taken_104 h0 μ x4 x6 s0 s1 s2 = some r) (hl : lv_has ls 7 [(0, va_rf (some h0)), (4, .int x4), (6, .int x6)]) : W p l e rm_Mo_taken s m args below meth c H locs 0 0 (MQ below (mQW D cA z0 (some (.int r.1)) r.2) args s 0 0 (mA z0)) (F0 m 104 ls [.long s2, .int s1, va_rf s0]) := by
  have hx := X.ex
  have hb := X.by_
  unfold f_Mo_taken_104 at hf
  obtain ⟨m15, hv, hf⟩ := mbind hf
  refine r_last X G I hv d_Mo_taken_104 (fun H locs I => ?_)
  refine r_aload_n X d_Mo_taken_105 rfl (lv_at hl 0 rfl) ?_
  obtain ⟨v16, hv, hf⟩ := mbind hf
  refine r_getf X G I (mfA_e hv) o_Mo_v k_852 (Or.inl rfl) d_Mo_taken_106 ?_
  refine lv_iconst (v := 2) hx hb d_Mo_taken_109 (by decide) ?_
  refine lv_iload hx hb d_Mo_taken_110 (lv_at hl 2 rfl) ?_
  refine lv_if_eq (tgt := 119) hx hb d_Mo_taken_112 (by decide) (fun hc => ?_) (fun hc => ?_)
  · have hf := mift hf hc
    refine lv_iload hx hb d_Mo_taken_119 (lv_at hl 1 rfl) ?_
    refine lv_i2l hx hb d_Mo_taken_121 rfl ?_
    exact w_Mo_taken_122 X G I hf (lv_sub hl [0] rfl)
  · have hf := miff hf hc
    refine lv_lconst (v := 0) hx hb d_Mo_taken_115 (by decide) ?_
    refine lv_goto (tgt := 122) hx hb d_Mo_taken_116 (by decide) ?_
    exact w_Mo_taken_122 X G I hf (lv_sub hl [0] rfl)

set_option maxHeartbeats 4000000 in
set_option maxRecDepth 100000 in
theorem w_Mo_taken_80 {h0 : Nat} {r : Int32 × mM} (X : mX p m meth c s args b_Mo_taken 7 (some .boolean) "ColourLinkerModel") (G : mG D cA dA z0 s) {H : Heap} {locs : List Loc} {μ : mM} {ls : Array Slot} {x2 : Int32} {x3 : Int32} {x4 : Int32} {x6 : Int32} (I : mI D cA z0 s μ H locs s.heap.size) (hf : f_Mo_taken_80 h0 μ x2 x3 x4 x6 = some r) (hl : lv_has ls 7 [(0, va_rf (some h0)), (2, .int x2), (3, .int x3), (4, .int x4), (6, .int x6)]) : W p l e rm_Mo_taken s m args below meth c H locs 0 0 (MQ below (mQW D cA z0 (some (.int r.1)) r.2) args s 0 0 (mA z0)) (F0 m 80 ls []) := by
  have hx := X.ex
  have hb := X.by_
  unfold f_Mo_taken_80 at hf
  refine r_aload_n X d_Mo_taken_80 rfl (lv_at hl 0 rfl) ?_
  obtain ⟨v12, hv, hf⟩ := mbind hf
  refine r_getf X G I (mfA_e hv) o_Mo_v k_852 (Or.inl rfl) d_Mo_taken_81 ?_
  refine lv_iconst (v := 0) hx hb d_Mo_taken_84 (by decide) ?_
  refine lv_iload_n hx hb d_Mo_taken_85 rfl (lv_at hl 1 rfl) ?_
  refine lv_i2l hx hb d_Mo_taken_86 rfl ?_
  obtain ⟨m13, hv, hf⟩ := mbind hf
  refine r_last X G I hv d_Mo_taken_87 (fun H locs I => ?_)
  refine r_aload_n X d_Mo_taken_88 rfl (lv_at hl 0 rfl) ?_
  obtain ⟨v14, hv, hf⟩ := mbind hf
  refine r_getf X G I (mfA_e hv) o_Mo_v k_852 (Or.inl rfl) d_Mo_taken_89 ?_
  refine lv_iconst (v := 1) hx hb d_Mo_taken_92 (by decide) ?_
  refine lv_iload hx hb d_Mo_taken_93 (lv_at hl 4 rfl) ?_
  refine lv_if_eq (tgt := 102) hx hb d_Mo_taken_95 (by decide) (fun hc => ?_) (fun hc => ?_)
  · have hf := mift hf hc
    refine lv_iload_n hx hb d_Mo_taken_102 rfl (lv_at hl 2 rfl) ?_
    refine lv_i2l hx hb d_Mo_taken_103 rfl ?_
    exact w_Mo_taken_104 X G I hf (lv_sub hl [0, 3, 4] rfl)
  · have hf := miff hf hc
    refine lv_lconst (v := 0) hx hb d_Mo_taken_98 (by decide) ?_
    refine lv_goto (tgt := 104) hx hb d_Mo_taken_99 (by decide) ?_
    exact w_Mo_taken_104 X G I hf (lv_sub hl [0, 3, 4] rfl)

set_option maxHeartbeats 4000000 in
set_option maxRecDepth 100000 in
theorem w_Mo_taken_78 {h0 : Nat} {r : Int32 × mM} (X : mX p m meth c s args b_Mo_taken 7 (some .boolean) "ColourLinkerModel") (G : mG D cA dA z0 s) {H : Heap} {locs : List Loc} {μ : mM} {ls : Array Slot}  (I : mI D cA z0 s μ H locs s.heap.size) (hf : f_Mo_taken_78 h0 μ = some r) (hl : lv_has ls 7 [(0, va_rf (some h0))]) : W p l e rm_Mo_taken s m args below meth c H locs 0 0 (MQ below (mQW D cA z0 (some (.int r.1)) r.2) args s 0 0 (mA z0)) (F0 m 78 ls []) := by
  have hx := X.ex
  have hb := X.by_
  unfold f_Mo_taken_78 at hf
  refine lv_iconst (v := 0) hx hb d_Mo_taken_78 (by decide) ?_
  obtain rfl := Option.some.inj hf
  exact r_zretW X I (Or.inl rfl) d_Mo_taken_79

set_option maxHeartbeats 4000000 in
set_option maxRecDepth 100000 in
theorem w_Mo_taken_35 {h0 : Nat} {r : Int32 × mM} (X : mX p m meth c s args b_Mo_taken 7 (some .boolean) "ColourLinkerModel") (G : mG D cA dA z0 s) {H : Heap} {locs : List Loc} {μ : mM} {ls : Array Slot} {x2 : Int32} {x3 : Int32} {x4 : Int32} {x5 : Int32} (I : mI D cA z0 s μ H locs s.heap.size) (hf : f_Mo_taken_35 h0 μ x2 x3 x4 x5 = some r) (hl : lv_has ls 7 [(0, va_rf (some h0)), (2, .int x2), (3, .int x3), (4, .int x4), (5, .int x5)]) : W p l e rm_Mo_taken s m args below meth c H locs 0 0 (MQ below (mQW D cA z0 (some (.int r.1)) r.2) args s 0 0 (mA z0)) (F0 m 35 ls []) := by
  have hx := X.ex
  have hb := X.by_
  unfold f_Mo_taken_35 at hf
  refine r_aload_n X d_Mo_taken_35 rfl (lv_at hl 0 rfl) ?_
  refine r_aload_n X d_Mo_taken_36 rfl (lv_at hl 0 rfl) ?_
  obtain ⟨v6, hv, hf⟩ := mbind hf
  refine r_getf X G I (mfA_e hv) o_Mo_source k_839 (Or.inl rfl) d_Mo_taken_37 ?_
  refine lv_iload hx hb d_Mo_taken_40 (lv_at hl 4 rfl) ?_
  obtain ⟨v7, hv, hf⟩ := mbind hf
  refine r_iald X G I hv d_Mo_taken_42 ?_
  obtain ⟨q8, hv, hf⟩ := mbind hf
  obtain ⟨a, ha, hv⟩ := mbind hv
  obtain ⟨ha, fs, hm⟩ := mrc_e ha
  refine m_caR (m_runV (As := [.int v7]) (r := some h0) (rest := []) X G I h_Mo_single k_1021 (c_Mo_single hv) mPr_blind (m_pre G I) hm rfl ha rfl rfl hl.1 (Nat.le_of_ble_eq_true rfl) rfl rfl ⟨Nat.le_of_ble_eq_true rfl, Nat.le_of_ble_eq_true rfl⟩ ⟨Nat.le_refl _, Nat.le_refl _⟩ d_Mo_taken_43) ?_
  refine lv_istore (i := 6) (lv' := [(6, .int q8), (0, va_rf (some h0)), (2, .int x2), (3, .int x3), (4, .int x4), (5, .int x5)]) hx hb d_Mo_taken_46 hl (by decide) rfl (fun ls hl => ?_)
  refine r_aload_n X d_Mo_taken_48 rfl (lv_at hl 1 rfl) ?_
  refine lv_iload_n hx hb d_Mo_taken_49 rfl (lv_at hl 2 rfl) ?_
  obtain ⟨q9, hv, hf⟩ := mbind hf
  obtain ⟨a, ha, hv⟩ := mbind hv
  obtain ⟨ha, fs, hm⟩ := mrc_e ha
  refine m_caR (m_runV (As := [.int x2]) (r := some h0) (rest := []) X G I h_Mo_level k_1192 (c_Mo_level hv) mPr_blind (m_pre G I) hm rfl ha rfl rfl hl.1 (Nat.le_of_ble_eq_true rfl) rfl rfl ⟨Nat.le_of_ble_eq_true rfl, Nat.le_of_ble_eq_true rfl⟩ ⟨Nat.le_refl _, Nat.le_refl _⟩ d_Mo_taken_50) ?_
  refine lv_if_eq (tgt := 78) hx hb d_Mo_taken_53 (by decide) (fun hc => ?_) (fun hc => ?_)
  · have hf := mift hf hc
    exact w_Mo_taken_78 X G I hf (lv_sub hl [1] rfl)
  · have hf := miff hf hc
    refine lv_iload hx hb d_Mo_taken_56 (lv_at hl 0 rfl) ?_
    refine lv_if_ne (tgt := 80) hx hb d_Mo_taken_58 (by decide) (fun hc => ?_) (fun hc => ?_)
    · have hf := miff hf hc
      exact w_Mo_taken_80 X G I hf (lv_sub hl [1, 2, 3, 4, 0] rfl)
    · have hf := mift hf hc
      refine r_aload_n X d_Mo_taken_61 rfl (lv_at hl 1 rfl) ?_
      refine lv_iload_n hx hb d_Mo_taken_62 rfl (lv_at hl 3 rfl) ?_
      obtain ⟨q10, hv, hf⟩ := mbind hf
      obtain ⟨a, ha, hv⟩ := mbind hv
      obtain ⟨ha, fs, hm⟩ := mrc_e ha
      refine m_caR (m_runV (As := [.int x3]) (r := some h0) (rest := []) X G I h_Mo_level k_1192 (c_Mo_level hv) mPr_blind (m_pre G I) hm rfl ha rfl rfl hl.1 (Nat.le_of_ble_eq_true rfl) rfl rfl ⟨Nat.le_of_ble_eq_true rfl, Nat.le_of_ble_eq_true rfl⟩ ⟨Nat.le_refl _, Nat.le_refl _⟩ d_Mo_taken_63) ?_
      refine lv_if_eq (tgt := 78) hx hb d_Mo_taken_66 (by decide) (fun hc => ?_) (fun hc => ?_)
      · have hf := mift hf hc
        exact w_Mo_taken_78 X G I hf (lv_sub hl [1] rfl)
      · have hf := miff hf hc
        refine r_aload_n X d_Mo_taken_69 rfl (lv_at hl 1 rfl) ?_
        refine lv_iload hx hb d_Mo_taken_70 (lv_at hl 4 rfl) ?_
        obtain ⟨q11, hv, hf⟩ := mbind hf
        obtain ⟨a, ha, hv⟩ := mbind hv
        obtain ⟨ha, fs, hm⟩ := mrc_e ha
        refine m_caR (m_runV (As := [.int x4]) (r := some h0) (rest := []) X G I h_Mo_level k_1192 (c_Mo_level hv) mPr_blind (m_pre G I) hm rfl ha rfl rfl hl.1 (Nat.le_of_ble_eq_true rfl) rfl rfl ⟨Nat.le_of_ble_eq_true rfl, Nat.le_of_ble_eq_true rfl⟩ ⟨Nat.le_refl _, Nat.le_refl _⟩ d_Mo_taken_72) ?_
        refine lv_if_ne (tgt := 80) hx hb d_Mo_taken_75 (by decide) (fun hc => ?_) (fun hc => ?_)
        · have hf := miff hf hc
          exact w_Mo_taken_80 X G I hf (lv_sub hl [1, 2, 3, 4, 0] rfl)
        · have hf := mift hf hc
          exact w_Mo_taken_78 X G I hf (lv_sub hl [1] rfl)

set_option maxHeartbeats 4000000 in
set_option maxRecDepth 100000 in
theorem w_Mo_taken_13 {h0 : Nat} {r : Int32 × mM} (X : mX p m meth c s args b_Mo_taken 7 (some .boolean) "ColourLinkerModel") (G : mG D cA dA z0 s) {kx35 : mM → Int32 → Int32 → Int32 → Int32 → Option (Int32 × mM)} (hkx35 : ∀ (H : Heap) (locs : List Loc) (μ : mM) (ls : Array Slot) (x2 : Int32) (x3 : Int32) (x4 : Int32) (x5 : Int32), mI D cA z0 s μ H locs s.heap.size → kx35 μ x2 x3 x4 x5 = some r → lv_has ls 7 [(0, va_rf (some h0)), (2, .int x2), (3, .int x3), (4, .int x4), (5, .int x5)] → W p l e rm_Mo_taken s m args below meth c H locs 0 0 (MQ below (mQW D cA z0 (some (.int r.1)) r.2) args s 0 0 (mA z0)) (F0 m 35 ls [])) : ∀ (n : Nat) (H : Heap) (locs : List Loc) (μ : mM) (ls : Array Slot) (x2 : Int32) (x3 : Int32) (x4 : Int32) (x5 : Int32), mI D cA z0 s μ H locs s.heap.size → f_Mo_taken_13 h0 kx35 n μ x2 x3 x4 x5 = some r → lv_has ls 7 [(0, va_rf (some h0)), (2, .int x2), (3, .int x3), (4, .int x4), (5, .int x5)] → W p l e rm_Mo_taken s m args below meth c H locs 0 0 (MQ below (mQW D cA z0 (some (.int r.1)) r.2) args s 0 0 (mA z0)) (F0 m 13 ls []) := by
  have hx := X.ex
  have hb := X.by_
  intro n
  induction n with
  | zero => intro H locs μ ls x2 x3 x4 x5 I hf hl; rw [f_Mo_taken_13] at hf; cases hf
  | succ n ih =>
    intro H locs μ ls x2 x3 x4 x5 I hf hl
    rw [f_Mo_taken_13] at hf
    refine r_aload_n X d_Mo_taken_13 rfl (lv_at hl 0 rfl) ?_
    obtain ⟨v2, hv, hf⟩ := mbind hf
    refine r_getf X G I (mfA_e hv) o_Mo_parent k_838 (Or.inl rfl) d_Mo_taken_14 ?_
    refine lv_iload hx hb d_Mo_taken_17 (lv_at hl 4 rfl) ?_
    obtain ⟨v3, hv, hf⟩ := mbind hf
    refine r_iald X G I hv d_Mo_taken_19 ?_
    refine lv_if_lt (tgt := 35) hx hb d_Mo_taken_20 (by decide) (fun hc => ?_) (fun hc => ?_)
    · have hf := mift hf hc
      exact hkx35 _ _ _ _ _ _ _ _ I hf hl
    · have hf := miff hf hc
      refine r_aload_n X d_Mo_taken_23 rfl (lv_at hl 0 rfl) ?_
      obtain ⟨v4, hv, hf⟩ := mbind hf
      refine r_getf X G I (mfA_e hv) o_Mo_parent k_838 (Or.inl rfl) d_Mo_taken_24 ?_
      refine lv_iload hx hb d_Mo_taken_27 (lv_at hl 4 rfl) ?_
      obtain ⟨v5, hv, hf⟩ := mbind hf
      refine r_iald X G I hv d_Mo_taken_29 ?_
      refine lv_istore (i := 5) (lv' := [(5, .int v5), (0, va_rf (some h0)), (2, .int x2), (3, .int x3), (4, .int x4)]) hx hb d_Mo_taken_30 hl (by decide) rfl (fun ls hl => ?_)
      refine lv_goto (tgt := 13) hx hb d_Mo_taken_32 (by decide) ?_
      exact ih _ _ _ _ _ _ _ _ I hf (lv_sub hl [1, 2, 3, 4, 0] rfl)

set_option maxHeartbeats 4000000 in
set_option maxRecDepth 100000 in
theorem w_Mo_taken {h0 : Nat} {r : Int32 × mM} (X : mX p m meth c s args b_Mo_taken 7 (some .boolean) "ColourLinkerModel") (G : mG D cA dA z0 s) {H : Heap} {locs : List Loc} {μ : mM} {ls : Array Slot} {x1 : Int32} {x2 : Int32} {x3 : Int32} {x4 : Int32} (I : mI D cA z0 s μ H locs s.heap.size) (hf : f_Mo_taken h0 μ x1 x2 x3 x4 = some r) (hl : lv_has ls 7 [(0, va_rf (some h0)), (1, .int x1), (2, .int x2), (3, .int x3), (4, .int x4)]) : W p l e rm_Mo_taken s m args below meth c H locs 0 0 (MQ below (mQW D cA z0 (some (.int r.1)) r.2) args s 0 0 (mA z0)) (F0 m 0 ls []) := by
  have hx := X.ex
  have hb := X.by_
  unfold f_Mo_taken at hf
  refine r_aload_n X d_Mo_taken_0 rfl (lv_at hl 0 rfl) ?_
  refine lv_iload_n hx hb d_Mo_taken_1 rfl (lv_at hl 1 rfl) ?_
  obtain ⟨q1, hv, hf⟩ := mbind hf
  obtain ⟨a, ha, hv⟩ := mbind hv
  obtain ⟨ha, fs, hm⟩ := mrc_e ha
  refine m_caR (m_runV (As := [.int x1]) (r := some h0) (rest := []) X G I h_Mo_linked k_1167 (c_Mo_linked hv) mPr_blind (m_pre G I) hm rfl ha rfl rfl hl.1 (Nat.le_of_ble_eq_true rfl) rfl rfl ⟨Nat.le_of_ble_eq_true rfl, Nat.le_of_ble_eq_true rfl⟩ ⟨Nat.le_refl _, Nat.le_refl _⟩ d_Mo_taken_2) ?_
  refine lv_if_ne (tgt := 10) hx hb d_Mo_taken_5 (by decide) (fun hc => ?_) (fun hc => ?_)
  · have hf := miff hf hc
    refine lv_iload_n hx hb d_Mo_taken_10 rfl (lv_at hl 1 rfl) ?_
    refine lv_istore (i := 5) (lv' := [(5, .int x1), (0, va_rf (some h0)), (1, .int x1), (2, .int x2), (3, .int x3), (4, .int x4)]) hx hb d_Mo_taken_11 hl (by decide) rfl (fun ls hl => ?_)
    exact w_Mo_taken_13 X G (fun H locs μ ls x2 x3 x4 x5 I hf hl => w_Mo_taken_35 X G I hf hl) 4096 _ _ _ _ _ _ _ _ I hf (lv_sub hl [1, 3, 4, 5, 0] rfl)
  · have hf := mift hf hc
    refine lv_iconst (v := 0) hx hb d_Mo_taken_8 (by decide) ?_
    obtain rfl := Option.some.inj hf
    exact r_zretW X I (Or.inl rfl) d_Mo_taken_9

set_option maxHeartbeats 4000000 in
set_option maxRecDepth 100000 in
theorem c_Mo_taken {l : Launch} {D : va_G} {cA : Nat → ClassId} {dA z0 : Nat} {μ : mM} {h0 : Nat} {x1 : Int32} {x2 : Int32} {x3 : Int32} {x4 : Int32} {r : Int32 × mM} (hf : f_Mo_taken h0 μ x1 x2 x3 x4 = some r) : Met l y_Mo_taken (mW y_Mo_taken b_Mo_taken 7 (some .boolean)) rm_Mo_taken (va_Pc [.ref h0, .int x1, .int x2, .int x3, .int x4] (mPr D cA dA z0 μ)) (mQW D cA z0 (some (.int r.1)) r.2) 0 0 (mA z0) := by
  refine Met.ofW (cc := b_Mo_taken) (maxL := 7) (ret := (some .boolean)) (by decide) rfl ?_
  intro p e s m args below meth c s₁ B hml hv
  obtain ⟨rfl, G, hP⟩ := hv
  have X := mX.of B hml
  exact m_entry (lv := [(0, va_rf (some h0)), (1, .int x1), (2, .int x2), (3, .int x3), (4, .int x4)]) (Nat.le_of_ble_eq_true rfl) rfl (fun ls hl => w_Mo_taken X G (mI.start hP) hf hl)

abbrev rm_Mo_colour : Room := { frames := 0, cells := 0, slots := 0, locals := 0 }
theorem h_Mo_colour : mCV y_Mo_colour b_Mo_colour 1 (some .long) 0 := ⟨k_1199, k_79, ⟨by decide, by decide, by decide +kernel⟩, k_1198, k_72⟩
set_option maxHeartbeats 4000000 in
set_option maxRecDepth 100000 in
theorem w_Mo_colour {μ : mM} {h0 : Nat} {r : Int64} (X : mX p m meth c s args b_Mo_colour 1 (some .long) "ColourLinkerModel") (G : mG D cA dA z0 s) (I : mI D cA z0 s μ s.heap [] s.heap.size) {ls : Array Slot}  (hf : f_Mo_colour μ h0 = some r) (hl : lv_has ls 1 [(0, va_rf (some h0))]) : W p l e rm_Mo_colour s m args below meth c s.heap [] 0 0 (MQ below (mQR (some (.long r))) args s 0 0 (fun _ => False)) (F0 m 0 ls []) := by
  have hx := X.ex
  have hb := X.by_
  unfold f_Mo_colour at hf
  refine r_aload_n X d_Mo_colour_0 rfl (lv_at hl 0 rfl) ?_
  obtain ⟨v1, hv, hf⟩ := mbind hf
  refine r_getf X G I (mfA_e hv) o_Mo_v k_852 (Or.inl rfl) d_Mo_colour_1 ?_
  refine lv_iconst (v := 0) hx hb d_Mo_colour_4 (by decide) ?_
  obtain ⟨v2, hv, hf⟩ := mbind hf
  refine r_lald X G I hv d_Mo_colour_5 ?_
  refine lv_ldc2 (v := 4294967296) hx hb X.ow (X.w k_1200) d_Mo_colour_6 ?_
  refine lv_lmul hx hb d_Mo_colour_9 ?_
  refine r_aload_n X d_Mo_colour_10 rfl (lv_at hl 0 rfl) ?_
  obtain ⟨v3, hv, hf⟩ := mbind hf
  refine r_getf X G I (mfA_e hv) o_Mo_v k_852 (Or.inl rfl) d_Mo_colour_11 ?_
  refine lv_iconst (v := 1) hx hb d_Mo_colour_14 (by decide) ?_
  obtain ⟨v4, hv, hf⟩ := mbind hf
  refine r_lald X G I hv d_Mo_colour_15 ?_
  refine lv_ldc2 (v := 65536) hx hb X.ow (X.w k_1201) d_Mo_colour_16 ?_
  refine lv_lmul hx hb d_Mo_colour_19 ?_
  refine lv_ladd hx hb d_Mo_colour_20 ?_
  refine r_aload_n X d_Mo_colour_21 rfl (lv_at hl 0 rfl) ?_
  obtain ⟨v5, hv, hf⟩ := mbind hf
  refine r_getf X G I (mfA_e hv) o_Mo_v k_852 (Or.inl rfl) d_Mo_colour_22 ?_
  refine lv_iconst (v := 2) hx hb d_Mo_colour_25 (by decide) ?_
  obtain ⟨v6, hv, hf⟩ := mbind hf
  refine r_lald X G I hv d_Mo_colour_26 ?_
  refine lv_ladd hx hb d_Mo_colour_27 ?_
  obtain rfl := Option.some.inj hf
  exact r_lretR X d_Mo_colour_28

set_option maxHeartbeats 4000000 in
set_option maxRecDepth 100000 in
theorem c_Mo_colour {l : Launch} {D : va_G} {cA : Nat → ClassId} {dA z0 : Nat} {μ : mM} {h0 : Nat} {r : Int64} (hf : f_Mo_colour μ h0 = some r) : Met l y_Mo_colour (mW y_Mo_colour b_Mo_colour 1 (some .long)) rm_Mo_colour (va_Pc [.ref h0] (mPr D cA dA z0 μ)) (mQR (some (.long r))) 0 0 (fun _ => False) := by
  refine Met.ofW (cc := b_Mo_colour) (maxL := 1) (ret := (some .long)) (by decide) rfl ?_
  intro p e s m args below meth c s₁ B hml hv
  obtain ⟨rfl, G, hP⟩ := hv
  have X := mX.of B hml
  exact m_entry (lv := [(0, va_rf (some h0))]) (Nat.le_of_ble_eq_true rfl) rfl (fun ls hl => w_Mo_colour X G (mI.start hP) hf hl)

abbrev rm_Mo_through : Room := { frames := 7, cells := 0, slots := 0, locals := 180 }
theorem h_Mo_through : mCV y_Mo_through b_Mo_through 7 (some .long) 5 := ⟨k_1205, k_79, ⟨by decide, by decide, by decide +kernel⟩, k_1204, k_73⟩
set_option maxHeartbeats 4000000 in
set_option maxRecDepth 100000 in
theorem w_Mo_through_32 {h0 : Nat} {r : Int64 × mM} (X : mX p m meth c s args b_Mo_through 7 (some .long) "ColourLinkerModel") (G : mG D cA dA z0 s) {H : Heap} {locs : List Loc} {μ : mM} {ls : Array Slot}  (I : mI D cA z0 s μ H locs s.heap.size) (hf : f_Mo_through_32 h0 μ = some r) (hl : lv_has ls 7 [(0, va_rf (some h0))]) : W p l e rm_Mo_through s m args below meth c H locs 0 0 (MQ below (mQW D cA z0 (some (.long r.1)) r.2) args s 0 0 (mA z0)) (F0 m 32 ls []) := by
  have hx := X.ex
  have hb := X.by_
  unfold f_Mo_through_32 at hf
  refine r_aload_n X d_Mo_through_32 rfl (lv_at hl 0 rfl) ?_
  obtain ⟨q3, hv, hf⟩ := mbind hf
  obtain ⟨a, ha, hv⟩ := mbind hv
  obtain ⟨ha, fs, hm⟩ := mrc_e ha
  refine m_caR (m_runV (As := []) (r := some h0) (rest := []) X G I h_Mo_colour k_1196 (c_Mo_colour hv) mPr_blind (m_pre G I) hm rfl ha rfl rfl hl.1 (Nat.le_of_ble_eq_true rfl) rfl rfl ⟨Nat.le_of_ble_eq_true rfl, Nat.le_of_ble_eq_true rfl⟩ ⟨Nat.le_refl _, Nat.le_refl _⟩ d_Mo_through_33) ?_
  obtain rfl := Option.some.inj hf
  exact r_lretW X I d_Mo_through_36

set_option maxHeartbeats 4000000 in
set_option maxRecDepth 100000 in
theorem w_Mo_through_14 {h0 : Nat} {r : Int64 × mM} (X : mX p m meth c s args b_Mo_through 7 (some .long) "ColourLinkerModel") (G : mG D cA dA z0 s) {kx32 : mM → Option (Int64 × mM)} (hkx32 : ∀ (H : Heap) (locs : List Loc) (μ : mM) (ls : Array Slot), mI D cA z0 s μ H locs s.heap.size → kx32 μ = some r → lv_has ls 7 [(0, va_rf (some h0))] → W p l e rm_Mo_through s m args below meth c H locs 0 0 (MQ below (mQW D cA z0 (some (.long r.1)) r.2) args s 0 0 (mA z0)) (F0 m 32 ls [])) : ∀ (n : Nat) (H : Heap) (locs : List Loc) (μ : mM) (ls : Array Slot) (x2 : Int32) (x6 : Int32), mI D cA z0 s μ H locs s.heap.size → f_Mo_through_14 h0 kx32 n μ x2 x6 = some r → lv_has ls 7 [(0, va_rf (some h0)), (2, .int x2), (6, .int x6)] → W p l e rm_Mo_through s m args below meth c H locs 0 0 (MQ below (mQW D cA z0 (some (.long r.1)) r.2) args s 0 0 (mA z0)) (F0 m 14 ls []) := by
  have hx := X.ex
  have hb := X.by_
  intro n
  induction n with
  | zero => intro H locs μ ls x2 x6 I hf hl; rw [f_Mo_through_14] at hf; cases hf
  | succ n ih =>
    intro H locs μ ls x2 x6 I hf hl
    rw [f_Mo_through_14] at hf
    refine lv_iload hx hb d_Mo_through_14 (lv_at hl 2 rfl) ?_
    refine lv_iload_n hx hb d_Mo_through_16 rfl (lv_at hl 1 rfl) ?_
    refine lv_icmp_ge (tgt := 32) hx hb d_Mo_through_17 (by decide) (fun hc => ?_) (fun hc => ?_)
    · have hf := mift hf hc
      exact hkx32 _ _ _ _ I hf (lv_sub hl [0] rfl)
    · have hf := miff hf hc
      refine r_aload_n X d_Mo_through_20 rfl (lv_at hl 0 rfl) ?_
      refine lv_iload hx hb d_Mo_through_21 (lv_at hl 2 rfl) ?_
      obtain ⟨q2, hv, hf⟩ := mbind hf
      obtain ⟨a, ha, hv⟩ := mbind hv
      obtain ⟨ha, fs, hm⟩ := mrc_e ha
      refine m_caWv (m_runV (As := [.int x6]) (r := some h0) (rest := []) X G I h_Mo_run k_1085 (c_Mo_run hv) mPr_blind (m_pre G I) hm rfl ha rfl rfl hl.1 (Nat.le_of_ble_eq_true rfl) rfl rfl ⟨Nat.le_of_ble_eq_true rfl, Nat.le_of_ble_eq_true rfl⟩ ⟨Nat.le_refl _, Nat.le_refl _⟩ d_Mo_through_23) I (fun H locs I => ?_)
      refine lv_iinc (i := 6) (k := 2) (v := (x6 + (1 : Int32))) (lv' := [(6, .int (x6 + (1 : Int32))), (0, va_rf (some h0)), (2, .int x2)]) hx hb d_Mo_through_26 hl rfl (congrArg (fun t => x6 + t) (by decide : Int32.ofInt (1) = (1 : Int32))) (by decide) rfl (fun ls hl => ?_)
      refine lv_goto (tgt := 14) hx hb d_Mo_through_29 (by decide) ?_
      exact ih _ _ _ _ _ _ I hf (lv_sub hl [1, 2, 0] rfl)

set_option maxHeartbeats 4000000 in
set_option maxRecDepth 100000 in
theorem w_Mo_through {h0 : Nat} {r : Int64 × mM} (X : mX p m meth c s args b_Mo_through 7 (some .long) "ColourLinkerModel") (G : mG D cA dA z0 s) {H : Heap} {locs : List Loc} {μ : mM} {ls : Array Slot} {x1 : Int32} {x2 : Int32} {x3 : Int32} {x4 : Int32} {x5 : Int32} (I : mI D cA z0 s μ H locs s.heap.size) (hf : f_Mo_through h0 μ x1 x2 x3 x4 x5 = some r) (hl : lv_has ls 7 [(0, va_rf (some h0)), (1, .int x1), (2, .int x2), (3, .int x3), (4, .int x4), (5, .int x5)]) : W p l e rm_Mo_through s m args below meth c H locs 0 0 (MQ below (mQW D cA z0 (some (.long r.1)) r.2) args s 0 0 (mA z0)) (F0 m 0 ls []) := by
  have hx := X.ex
  have hb := X.by_
  unfold f_Mo_through at hf
  refine r_aload_n X d_Mo_through_0 rfl (lv_at hl 0 rfl) ?_
  refine lv_iload_n hx hb d_Mo_through_1 rfl (lv_at hl 1 rfl) ?_
  refine lv_iload_n hx hb d_Mo_through_2 rfl (lv_at hl 3 rfl) ?_
  refine lv_iload hx hb d_Mo_through_3 (lv_at hl 4 rfl) ?_
  refine lv_iload hx hb d_Mo_through_5 (lv_at hl 5 rfl) ?_
  obtain ⟨q1, hv, hf⟩ := mbind hf
  obtain ⟨a, ha, hv⟩ := mbind hv
  obtain ⟨ha, fs, hm⟩ := mrc_e ha
  refine m_caW (m_runV (As := [.int x1, .int x3, .int x4, .int x5]) (r := some h0) (rest := []) X G I h_Mo_taken k_1188 (c_Mo_taken hv) mPr_blind (m_pre G I) hm rfl ha rfl rfl hl.1 (Nat.le_of_ble_eq_true rfl) rfl rfl ⟨Nat.le_of_ble_eq_true rfl, Nat.le_of_ble_eq_true rfl⟩ ⟨Nat.le_refl _, Nat.le_refl _⟩ d_Mo_through_7) I (fun H locs I => ?_)
  refine lv_pop hx hb d_Mo_through_10 rfl ?_
  refine lv_iconst (v := 0) hx hb d_Mo_through_11 (by decide) ?_
  refine lv_istore (i := 6) (lv' := [(6, .int (0 : Int32)), (0, va_rf (some h0)), (1, .int x1), (2, .int x2), (3, .int x3), (4, .int x4), (5, .int x5)]) hx hb d_Mo_through_12 hl (by decide) rfl (fun ls hl => ?_)
  exact w_Mo_through_14 X G (fun H locs μ ls I hf hl => w_Mo_through_32 X G I hf hl) 4096 _ _ _ _ _ _ I hf (lv_sub hl [1, 3, 0] rfl)

set_option maxHeartbeats 4000000 in
set_option maxRecDepth 100000 in
theorem c_Mo_through {l : Launch} {D : va_G} {cA : Nat → ClassId} {dA z0 : Nat} {μ : mM} {h0 : Nat} {x1 : Int32} {x2 : Int32} {x3 : Int32} {x4 : Int32} {x5 : Int32} {r : Int64 × mM} (hf : f_Mo_through h0 μ x1 x2 x3 x4 x5 = some r) : Met l y_Mo_through (mW y_Mo_through b_Mo_through 7 (some .long)) rm_Mo_through (va_Pc [.ref h0, .int x1, .int x2, .int x3, .int x4, .int x5] (mPr D cA dA z0 μ)) (mQW D cA z0 (some (.long r.1)) r.2) 0 0 (mA z0) := by
  refine Met.ofW (cc := b_Mo_through) (maxL := 7) (ret := (some .long)) (by decide) rfl ?_
  intro p e s m args below meth c s₁ B hml hv
  obtain ⟨rfl, G, hP⟩ := hv
  have X := mX.of B hml
  exact m_entry (lv := [(0, va_rf (some h0)), (1, .int x1), (2, .int x2), (3, .int x3), (4, .int x4), (5, .int x5)]) (Nat.le_of_ble_eq_true rfl) rfl (fun ls hl => w_Mo_through X G (mI.start hP) hf hl)

abbrev rm_Mo_convert : Room := { frames := 10, cells := 0, slots := 0, locals := 258 }
theorem h_Mo_convert : mCV y_Mo_convert b_Mo_convert 7 (some .long) 4 := ⟨k_1187, k_79, ⟨by decide, by decide, by decide +kernel⟩, k_1185, k_1186⟩
set_option maxHeartbeats 4000000 in
set_option maxRecDepth 100000 in
theorem w_Mo_convert_56 {h0 : Nat} {r : Int64 × mM} (X : mX p m meth c s args b_Mo_convert 7 (some .long) "ColourLinkerModel") (G : mG D cA dA z0 s) {H : Heap} {locs : List Loc} {μ : mM} {ls : Array Slot} {x1 : Int32} {x2 : Int32} {x3 : Int32} {x4 : Int32} {x5 : Int64} {s0 : Option Nat} {s1 : Int32} (I : mI D cA z0 s μ H locs s.heap.size) (hf : f_Mo_convert_56 h0 μ x1 x2 x3 x4 x5 s0 s1 = some r) (hl : lv_has ls 7 [(0, va_rf (some h0)), (1, .int x1), (2, .int x2), (3, .int x3), (4, .int x4), (5, .long x5)]) : W p l e rm_Mo_convert s m args below meth c H locs 0 0 (MQ below (mQW D cA z0 (some (.long r.1)) r.2) args s 0 0 (mA z0)) (F0 m 56 ls [.int s1, va_rf s0]) := by
  have hx := X.ex
  have hb := X.by_
  unfold f_Mo_convert_56 at hf
  obtain ⟨m9, hv, hf⟩ := mbind hf
  refine r_put (ty := .int) X G I hv o_Mo_work k_845 (Or.inl rfl) (by decide) rfl rfl d_Mo_convert_56 (fun H locs I => ?_)
  refine r_aload_n X d_Mo_convert_59 rfl (lv_at hl 0 rfl) ?_
  obtain ⟨v10, hv, hf⟩ := mbind hf
  refine r_getf X G I (mfA_e hv) o_Mo_latest k_843 (Or.inl rfl) d_Mo_convert_60 ?_
  refine lv_iload_n hx hb d_Mo_convert_63 rfl (lv_at hl 1 rfl) ?_
  refine lv_lload hx hb d_Mo_convert_64 (lv_at hl 5 rfl) ?_
  obtain ⟨m11, hv, hf⟩ := mbind hf
  refine r_last X G I hv d_Mo_convert_66 (fun H locs I => ?_)
  refine r_aload_n X d_Mo_convert_67 rfl (lv_at hl 0 rfl) ?_
  refine lv_iload_n hx hb d_Mo_convert_68 rfl (lv_at hl 1 rfl) ?_
  refine r_aload_n X d_Mo_convert_69 rfl (lv_at hl 0 rfl) ?_
  obtain ⟨v12, hv, hf⟩ := mbind hf
  refine r_getf X G I (mfI_e hv) o_Mo_row k_850 (Or.inl rfl) d_Mo_convert_70 ?_
  refine lv_iload_n hx hb d_Mo_convert_73 rfl (lv_at hl 2 rfl) ?_
  refine lv_iload_n hx hb d_Mo_convert_74 rfl (lv_at hl 3 rfl) ?_
  refine lv_iload hx hb d_Mo_convert_75 (lv_at hl 4 rfl) ?_
  obtain ⟨q13, hv, hf⟩ := mbind hf
  obtain ⟨a, ha, hv⟩ := mbind hv
  obtain ⟨ha, fs, hm⟩ := mrc_e ha
  refine m_caW (m_runV (As := [.int x1, .int v12, .int x2, .int x3, .int x4]) (r := some h0) (rest := []) X G I h_Mo_through k_1202 (c_Mo_through hv) mPr_blind (m_pre G I) hm rfl ha rfl rfl hl.1 (Nat.le_of_ble_eq_true rfl) rfl rfl ⟨Nat.le_of_ble_eq_true rfl, Nat.le_of_ble_eq_true rfl⟩ ⟨Nat.le_refl _, Nat.le_refl _⟩ d_Mo_convert_77) I (fun H locs I => ?_)
  obtain rfl := Option.some.inj hf
  exact r_lretW X I d_Mo_convert_80

set_option maxHeartbeats 4000000 in
set_option maxRecDepth 100000 in
theorem w_Mo_convert {h0 : Nat} {r : Int64 × mM} (X : mX p m meth c s args b_Mo_convert 7 (some .long) "ColourLinkerModel") (G : mG D cA dA z0 s) {H : Heap} {locs : List Loc} {μ : mM} {ls : Array Slot} {x1 : Int32} {x2 : Int32} {x3 : Int32} {x4 : Int32} (I : mI D cA z0 s μ H locs s.heap.size) (hf : f_Mo_convert h0 μ x1 x2 x3 x4 = some r) (hl : lv_has ls 7 [(0, va_rf (some h0)), (1, .int x1), (2, .int x2), (3, .int x3), (4, .int x4)]) : W p l e rm_Mo_convert s m args below meth c H locs 0 0 (MQ below (mQW D cA z0 (some (.long r.1)) r.2) args s 0 0 (mA z0)) (F0 m 0 ls []) := by
  have hx := X.ex
  have hb := X.by_
  unfold f_Mo_convert at hf
  refine r_aload_n X d_Mo_convert_0 rfl (lv_at hl 0 rfl) ?_
  refine lv_iload_n hx hb d_Mo_convert_1 rfl (lv_at hl 1 rfl) ?_
  refine lv_iload_n hx hb d_Mo_convert_2 rfl (lv_at hl 2 rfl) ?_
  refine lv_iload_n hx hb d_Mo_convert_3 rfl (lv_at hl 3 rfl) ?_
  refine lv_iload hx hb d_Mo_convert_4 (lv_at hl 4 rfl) ?_
  obtain ⟨q1, hv, hf⟩ := mbind hf
  obtain ⟨a, ha, hv⟩ := mbind hv
  obtain ⟨ha, fs, hm⟩ := mrc_e ha
  refine m_caW (m_runV (As := [.int x1, .int x2, .int x3, .int x4]) (r := some h0) (rest := []) X G I h_Mo_taken k_1188 (c_Mo_taken hv) mPr_blind (m_pre G I) hm rfl ha rfl rfl hl.1 (Nat.le_of_ble_eq_true rfl) rfl rfl ⟨Nat.le_of_ble_eq_true rfl, Nat.le_of_ble_eq_true rfl⟩ ⟨Nat.le_refl _, Nat.le_refl _⟩ d_Mo_convert_6) I (fun H locs I => ?_)
  refine lv_if_ne (tgt := 16) hx hb d_Mo_convert_9 (by decide) (fun hc => ?_) (fun hc => ?_)
  · have hf := miff hf hc
    refine r_aload_n X d_Mo_convert_16 rfl (lv_at hl 0 rfl) ?_
    obtain ⟨q2, hv, hf⟩ := mbind hf
    obtain ⟨a, ha, hv⟩ := mbind hv
    obtain ⟨ha, fs, hm⟩ := mrc_e ha
    refine m_caR (m_runV (As := []) (r := some h0) (rest := []) X G I h_Mo_colour k_1196 (c_Mo_colour hv) mPr_blind (m_pre G I) hm rfl ha rfl rfl hl.1 (Nat.le_of_ble_eq_true rfl) rfl rfl ⟨Nat.le_of_ble_eq_true rfl, Nat.le_of_ble_eq_true rfl⟩ ⟨Nat.le_refl _, Nat.le_refl _⟩ d_Mo_convert_17) ?_
    refine lv_lstore (i := 5) (lv' := [(5, .long q2), (0, va_rf (some h0)), (1, .int x1), (2, .int x2), (3, .int x3), (4, .int x4)]) hx hb d_Mo_convert_20 hl (by decide) rfl (fun ls hl => ?_)
    refine r_aload_n X d_Mo_convert_22 rfl (lv_at hl 1 rfl) ?_
    refine lv_iload_n hx hb d_Mo_convert_23 rfl (lv_at hl 2 rfl) ?_
    obtain ⟨q3, hv, hf⟩ := mbind hf
    obtain ⟨a, ha, hv⟩ := mbind hv
    obtain ⟨ha, fs, hm⟩ := mrc_e ha
    refine m_caWv (m_runV (As := [.int x1]) (r := some h0) (rest := []) X G I h_Mo_lay k_1150 (c_Mo_lay hv) mPr_blind (m_pre G I) hm rfl ha rfl rfl hl.1 (Nat.le_of_ble_eq_true rfl) rfl rfl ⟨Nat.le_of_ble_eq_true rfl, Nat.le_of_ble_eq_true rfl⟩ ⟨Nat.le_refl _, Nat.le_refl _⟩ d_Mo_convert_24) I (fun H locs I => ?_)
    refine r_aload_n X d_Mo_convert_27 rfl (lv_at hl 1 rfl) ?_
    refine r_aload_n X d_Mo_convert_28 rfl (lv_at hl 1 rfl) ?_
    obtain ⟨v4, hv, hf⟩ := mbind hf
    refine r_getf X G I (mfA_e hv) o_Mo_latest k_843 (Or.inl rfl) d_Mo_convert_29 ?_
    refine lv_iload_n hx hb d_Mo_convert_32 rfl (lv_at hl 2 rfl) ?_
    obtain ⟨v5, hv, hf⟩ := mbind hf
    refine r_lald X G I hv d_Mo_convert_33 ?_
    refine lv_lload hx hb d_Mo_convert_34 (lv_at hl 0 rfl) ?_
    refine r_lcne (tgt := 47) X d_Mo_convert_36 d_Mo_convert_37 (by decide) (fun hc => ?_) (fun hc => ?_)
    · have hf := miff hf hc
      refine r_aload_n X d_Mo_convert_47 rfl (lv_at hl 1 rfl) ?_
      obtain ⟨v6, hv, hf⟩ := mbind hf
      refine r_getf X G I (mfI_e hv) o_Mo_work k_845 (Or.inl rfl) d_Mo_convert_48 ?_
      refine r_aload_n X d_Mo_convert_51 rfl (lv_at hl 1 rfl) ?_
      obtain ⟨v7, hv, hf⟩ := mbind hf
      refine r_getf X G I (mfI_e hv) o_Mo_row k_850 (Or.inl rfl) d_Mo_convert_52 ?_
      refine lv_iadd hx hb d_Mo_convert_55 ?_
      exact w_Mo_convert_56 X G I hf (lv_sub hl [1, 2, 3, 4, 5, 0] rfl)
    · have hf := mift hf hc
      refine r_aload_n X d_Mo_convert_40 rfl (lv_at hl 1 rfl) ?_
      obtain ⟨v8, hv, hf⟩ := mbind hf
      refine r_getf X G I (mfI_e hv) o_Mo_work k_845 (Or.inl rfl) d_Mo_convert_41 ?_
      refine lv_goto (tgt := 56) hx hb d_Mo_convert_44 (by decide) ?_
      exact w_Mo_convert_56 X G I hf (lv_sub hl [1, 2, 3, 4, 5, 0] rfl)
  · have hf := mift hf hc
    refine lv_ldc2 (v := -1) hx hb X.ow (X.w k_1162) d_Mo_convert_12 ?_
    obtain rfl := Option.some.inj hf
    exact r_lretW X I d_Mo_convert_15

set_option maxHeartbeats 4000000 in
set_option maxRecDepth 100000 in
theorem c_Mo_convert {l : Launch} {D : va_G} {cA : Nat → ClassId} {dA z0 : Nat} {μ : mM} {h0 : Nat} {x1 : Int32} {x2 : Int32} {x3 : Int32} {x4 : Int32} {r : Int64 × mM} (hf : f_Mo_convert h0 μ x1 x2 x3 x4 = some r) : Met l y_Mo_convert (mW y_Mo_convert b_Mo_convert 7 (some .long)) rm_Mo_convert (va_Pc [.ref h0, .int x1, .int x2, .int x3, .int x4] (mPr D cA dA z0 μ)) (mQW D cA z0 (some (.long r.1)) r.2) 0 0 (mA z0) := by
  refine Met.ofW (cc := b_Mo_convert) (maxL := 7) (ret := (some .long)) (by decide) rfl ?_
  intro p e s m args below meth c s₁ B hml hv
  obtain ⟨rfl, G, hP⟩ := hv
  have X := mX.of B hml
  exact m_entry (lv := [(0, va_rf (some h0)), (1, .int x1), (2, .int x2), (3, .int x3), (4, .int x4)]) (Nat.le_of_ble_eq_true rfl) rfl (fun ls hl => w_Mo_convert X G (mI.start hP) hf hl)

abbrev rm_CL_after : Room := { frames := 7, cells := 0, slots := 0, locals := 166 }
theorem h_CL_after : mCV y_CL_after b_CL_after 7 (some .long) 5 := ⟨k_823, k_75, ⟨by decide, by decide, by decide +kernel⟩, k_821, k_822⟩
set_option maxHeartbeats 4000000 in
set_option maxRecDepth 100000 in
theorem w_CL_after_40 {h0 : Nat} {r : Int64 × mM} (X : mX p m meth c s args b_CL_after 7 (some .long) "ColourLinker") (G : mG D cA dA z0 s) {H : Heap} {locs : List Loc} {μ : mM} {ls : Array Slot}  (I : mI D cA z0 s μ H locs s.heap.size) (hf : f_CL_after_40 h0 μ = some r) (hl : lv_has ls 7 [(0, va_rf (some h0))]) : W p l e rm_CL_after s m args below meth c H locs 0 0 (MQ below (mQW D cA z0 (some (.long r.1)) r.2) args s 0 0 (mA z0)) (F0 m 40 ls []) := by
  have hx := X.ex
  have hb := X.by_
  unfold f_CL_after_40 at hf
  refine lv_ldc2 (v := -1) hx hb X.ow (X.w k_811) d_CL_after_40 ?_
  obtain rfl := Option.some.inj hf
  exact r_lretW X I d_CL_after_43

set_option maxHeartbeats 4000000 in
set_option maxRecDepth 100000 in
theorem w_CL_after {h0 : Nat} {r : Int64 × mM} (X : mX p m meth c s args b_CL_after 7 (some .long) "ColourLinker") (G : mG D cA dA z0 s) {H : Heap} {locs : List Loc} {μ : mM} {ls : Array Slot} {x1 : Int32} {x2 : Int32} {x3 : Int32} {x4 : Int32} {x5 : Int32} (I : mI D cA z0 s μ H locs s.heap.size) (hf : f_CL_after h0 μ x1 x2 x3 x4 x5 = some r) (hl : lv_has ls 7 [(0, va_rf (some h0)), (1, .int x1), (2, .int x2), (3, .int x3), (4, .int x4), (5, .int x5)]) : W p l e rm_CL_after s m args below meth c H locs 0 0 (MQ below (mQW D cA z0 (some (.long r.1)) r.2) args s 0 0 (mA z0)) (F0 m 0 ls []) := by
  have hx := X.ex
  have hb := X.by_
  unfold f_CL_after at hf
  refine r_aload_n X d_CL_after_0 rfl (lv_at hl 0 rfl) ?_
  refine lv_iload_n hx hb d_CL_after_1 rfl (lv_at hl 1 rfl) ?_
  obtain ⟨q1, hv, hf⟩ := mbind hf
  obtain ⟨a, ha, hv⟩ := mbind hv
  obtain ⟨ha, fs, hm⟩ := mrc_e ha
  refine m_caR (m_runV (As := [.int x1]) (r := some h0) (rest := []) X G I h_CL_linkAt k_783 (c_CL_linkAt hv) mPr_blind (m_pre G I) hm rfl ha rfl rfl hl.1 (Nat.le_of_ble_eq_true rfl) rfl rfl ⟨Nat.le_of_ble_eq_true rfl, Nat.le_of_ble_eq_true rfl⟩ ⟨Nat.le_refl _, Nat.le_refl _⟩ d_CL_after_2) ?_
  refine r_astore (i := 6) (lv' := [(6, va_rf q1), (0, va_rf (some h0)), (1, .int x1), (2, .int x2), (3, .int x3), (4, .int x4), (5, .int x5)]) X d_CL_after_5 hl (by decide) rfl (fun ls hl => ?_)
  refine r_aload X d_CL_after_7 (lv_at hl 0 rfl) ?_
  refine r_ifnull (tgt := 40) X d_CL_after_9 (by decide) (fun hc => ?_) (fun hc => ?_)
  · have hf := mift hf hc
    exact w_CL_after_40 X G I hf (lv_sub hl [1] rfl)
  · have hf := miff hf hc
    refine lv_iload_n hx hb d_CL_after_12 rfl (lv_at hl 3 rfl) ?_
    refine lv_if_lt (tgt := 40) hx hb d_CL_after_13 (by decide) (fun hc => ?_) (fun hc => ?_)
    · have hf := mift hf hc
      exact w_CL_after_40 X G I hf (lv_sub hl [1] rfl)
    · have hf := miff hf hc
      refine lv_iload_n hx hb d_CL_after_16 rfl (lv_at hl 3 rfl) ?_
      refine r_aload X d_CL_after_17 (lv_at hl 0 rfl) ?_
      obtain ⟨v2, hv, hf⟩ := mbind hf
      refine r_getfN X G I (mfA_e hv) o_Link_row k_755 (Or.inl rfl) d_CL_after_19 ?_
      obtain ⟨v3, hv, hf⟩ := mbind hf
      refine r_alen X G I hv d_CL_after_22 ?_
      refine lv_icmp_gt (tgt := 40) hx hb d_CL_after_23 (by decide) (fun hc => ?_) (fun hc => ?_)
      · have hf := mift hf hc
        exact w_CL_after_40 X G I hf (lv_sub hl [1] rfl)
      · have hf := miff hf hc
        refine r_aload_n X d_CL_after_26 rfl (lv_at hl 1 rfl) ?_
        refine r_aload X d_CL_after_27 (lv_at hl 0 rfl) ?_
        refine lv_iload_n hx hb d_CL_after_29 rfl (lv_at hl 4 rfl) ?_
        refine lv_iload hx hb d_CL_after_30 (lv_at hl 5 rfl) ?_
        refine lv_iload hx hb d_CL_after_32 (lv_at hl 6 rfl) ?_
        obtain ⟨q4, hv, hf⟩ := mbind hf
        obtain ⟨a, ha, hv⟩ := mbind hv
        obtain ⟨ha, fs, hm⟩ := mrc_e ha
        refine m_caW (m_runV (As := [va_rf q1, .int x3, .int x4, .int x5]) (r := some h0) (rest := []) X G I h_CL_take k_803 (c_CL_take hv) mPr_blind (m_pre G I) hm rfl ha rfl rfl hl.1 (Nat.le_of_ble_eq_true rfl) rfl rfl ⟨Nat.le_of_ble_eq_true rfl, Nat.le_of_ble_eq_true rfl⟩ ⟨Nat.le_refl _, Nat.le_refl _⟩ d_CL_after_34) I (fun H locs I => ?_)
        refine lv_if_ne (tgt := 44) hx hb d_CL_after_37 (by decide) (fun hc => ?_) (fun hc => ?_)
        · have hf := miff hf hc
          refine r_aload X d_CL_after_44 (lv_at hl 0 rfl) ?_
          refine lv_iload_n hx hb d_CL_after_46 rfl (lv_at hl 3 rfl) ?_
          refine r_aload_n X d_CL_after_47 rfl (lv_at hl 1 rfl) ?_
          obtain ⟨v5, hv, hf⟩ := mbind hf
          refine r_getf X G I (mfA_e hv) o_CL_colour k_155 (Or.inl rfl) d_CL_after_48 ?_
          obtain ⟨q6, hv, hf⟩ := mbind hf
          obtain ⟨a, ha, hv⟩ := mbind hv
          obtain ⟨ha, fs, hm⟩ := mrc_e ha
          refine m_caWv (m_runV (As := [.int x2, va_rf v5]) (r := q1) (rest := []) X G I h_Link_runFirst k_815 (c_Link_runFirst hv) mPr_blind (m_pre G I) hm rfl ha rfl rfl hl.1 (Nat.le_of_ble_eq_true rfl) rfl rfl ⟨Nat.le_of_ble_eq_true rfl, Nat.le_of_ble_eq_true rfl⟩ ⟨Nat.le_refl _, Nat.le_refl _⟩ d_CL_after_51) I (fun H locs I => ?_)
          refine r_aload_n X d_CL_after_54 rfl (lv_at hl 1 rfl) ?_
          obtain ⟨v7, hv, hf⟩ := mbind hf
          refine r_getf X G I (mfA_e hv) o_CL_colour k_155 (Or.inl rfl) d_CL_after_55 ?_
          obtain ⟨q8, hv, hf⟩ := mbind hf
          refine m_caR (m_runS (As := [va_rf v7]) (rest := []) X h_CL_packed k_812 (c_CL_packed hv) mPr_blind (m_pre G I) rfl rfl hl.1 (Nat.le_of_ble_eq_true rfl) rfl rfl ⟨Nat.le_of_ble_eq_true rfl, Nat.le_of_ble_eq_true rfl⟩ ⟨Nat.le_refl _, Nat.le_refl _⟩ d_CL_after_58) ?_
          obtain rfl := Option.some.inj hf
          exact r_lretW X I d_CL_after_61
        · have hf := mift hf hc
          exact w_CL_after_40 X G I hf (lv_sub hl [1] rfl)

set_option maxHeartbeats 4000000 in
set_option maxRecDepth 100000 in
theorem c_CL_after {l : Launch} {D : va_G} {cA : Nat → ClassId} {dA z0 : Nat} {μ : mM} {h0 : Nat} {x1 : Int32} {x2 : Int32} {x3 : Int32} {x4 : Int32} {x5 : Int32} {r : Int64 × mM} (hf : f_CL_after h0 μ x1 x2 x3 x4 x5 = some r) : Met l y_CL_after (mW y_CL_after b_CL_after 7 (some .long)) rm_CL_after (va_Pc [.ref h0, .int x1, .int x2, .int x3, .int x4, .int x5] (mPr D cA dA z0 μ)) (mQW D cA z0 (some (.long r.1)) r.2) 0 0 (mA z0) := by
  refine Met.ofW (cc := b_CL_after) (maxL := 7) (ret := (some .long)) (by decide) rfl ?_
  intro p e s m args below meth c s₁ B hml hv
  obtain ⟨rfl, G, hP⟩ := hv
  have X := mX.of B hml
  exact m_entry (lv := [(0, va_rf (some h0)), (1, .int x1), (2, .int x2), (3, .int x3), (4, .int x4), (5, .int x5)]) (Nat.le_of_ble_eq_true rfl) rfl (fun ls hl => w_CL_after X G (mI.start hP) hf hl)

abbrev rm_Mo_after : Room := { frames := 10, cells := 0, slots := 0, locals := 258 }
theorem h_Mo_after : mCV y_Mo_after b_Mo_after 6 (some .long) 5 := ⟨k_1209, k_79, ⟨by decide, by decide, by decide +kernel⟩, k_1207, k_1208⟩
set_option maxHeartbeats 4000000 in
set_option maxRecDepth 100000 in
theorem w_Mo_after_51 {h0 : Nat} {r : Int64 × mM} (X : mX p m meth c s args b_Mo_after 6 (some .long) "ColourLinkerModel") (G : mG D cA dA z0 s) {H : Heap} {locs : List Loc} {μ : mM} {ls : Array Slot} {s0 : Int64} (I : mI D cA z0 s μ H locs s.heap.size) (hf : f_Mo_after_51 h0 μ s0 = some r) (hl : lv_has ls 6 [(0, va_rf (some h0))]) : W p l e rm_Mo_after s m args below meth c H locs 0 0 (MQ below (mQW D cA z0 (some (.long r.1)) r.2) args s 0 0 (mA z0)) (F0 m 51 ls [.long s0]) := by
  have hx := X.ex
  have hb := X.by_
  unfold f_Mo_after_51 at hf
  obtain rfl := Option.some.inj hf
  exact r_lretW X I d_Mo_after_51

set_option maxHeartbeats 4000000 in
set_option maxRecDepth 100000 in
theorem w_Mo_after_34 {h0 : Nat} {r : Int64 × mM} (X : mX p m meth c s args b_Mo_after 6 (some .long) "ColourLinkerModel") (G : mG D cA dA z0 s) {H : Heap} {locs : List Loc} {μ : mM} {ls : Array Slot}  (I : mI D cA z0 s μ H locs s.heap.size) (hf : f_Mo_after_34 h0 μ = some r) (hl : lv_has ls 6 [(0, va_rf (some h0))]) : W p l e rm_Mo_after s m args below meth c H locs 0 0 (MQ below (mQW D cA z0 (some (.long r.1)) r.2) args s 0 0 (mA z0)) (F0 m 34 ls []) := by
  have hx := X.ex
  have hb := X.by_
  unfold f_Mo_after_34 at hf
  refine lv_ldc2 (v := -1) hx hb X.ow (X.w k_1162) d_Mo_after_34 ?_
  refine lv_goto (tgt := 51) hx hb d_Mo_after_37 (by decide) ?_
  exact w_Mo_after_51 X G I hf hl

set_option maxHeartbeats 4000000 in
set_option maxRecDepth 100000 in
theorem w_Mo_after {h0 : Nat} {r : Int64 × mM} (X : mX p m meth c s args b_Mo_after 6 (some .long) "ColourLinkerModel") (G : mG D cA dA z0 s) {H : Heap} {locs : List Loc} {μ : mM} {ls : Array Slot} {x1 : Int32} {x2 : Int32} {x3 : Int32} {x4 : Int32} {x5 : Int32} (I : mI D cA z0 s μ H locs s.heap.size) (hf : f_Mo_after h0 μ x1 x2 x3 x4 x5 = some r) (hl : lv_has ls 6 [(0, va_rf (some h0)), (1, .int x1), (2, .int x2), (3, .int x3), (4, .int x4), (5, .int x5)]) : W p l e rm_Mo_after s m args below meth c H locs 0 0 (MQ below (mQW D cA z0 (some (.long r.1)) r.2) args s 0 0 (mA z0)) (F0 m 0 ls []) := by
  have hx := X.ex
  have hb := X.by_
  unfold f_Mo_after at hf
  refine r_aload_n X d_Mo_after_0 rfl (lv_at hl 0 rfl) ?_
  refine lv_iload_n hx hb d_Mo_after_1 rfl (lv_at hl 1 rfl) ?_
  refine lv_iload_n hx hb d_Mo_after_2 rfl (lv_at hl 3 rfl) ?_
  refine lv_iload hx hb d_Mo_after_3 (lv_at hl 4 rfl) ?_
  refine lv_iload hx hb d_Mo_after_5 (lv_at hl 5 rfl) ?_
  obtain ⟨q1, hv, hf⟩ := mbind hf
  obtain ⟨a, ha, hv⟩ := mbind hv
  obtain ⟨ha, fs, hm⟩ := mrc_e ha
  refine m_caW (m_runV (As := [.int x1, .int x3, .int x4, .int x5]) (r := some h0) (rest := []) X G I h_Mo_taken k_1188 (c_Mo_taken hv) mPr_blind (m_pre G I) hm rfl ha rfl rfl hl.1 (Nat.le_of_ble_eq_true rfl) rfl rfl ⟨Nat.le_of_ble_eq_true rfl, Nat.le_of_ble_eq_true rfl⟩ ⟨Nat.le_refl _, Nat.le_refl _⟩ d_Mo_after_7) I (fun H locs I => ?_)
  refine lv_if_ne (tgt := 17) hx hb d_Mo_after_10 (by decide) (fun hc => ?_) (fun hc => ?_)
  · have hf := miff hf hc
    refine r_aload_n X d_Mo_after_17 rfl (lv_at hl 0 rfl) ?_
    refine lv_iload_n hx hb d_Mo_after_18 rfl (lv_at hl 1 rfl) ?_
    obtain ⟨q2, hv, hf⟩ := mbind hf
    obtain ⟨a, ha, hv⟩ := mbind hv
    obtain ⟨ha, fs, hm⟩ := mrc_e ha
    refine m_caWv (m_runV (As := [.int x1]) (r := some h0) (rest := []) X G I h_Mo_lay k_1150 (c_Mo_lay hv) mPr_blind (m_pre G I) hm rfl ha rfl rfl hl.1 (Nat.le_of_ble_eq_true rfl) rfl rfl ⟨Nat.le_of_ble_eq_true rfl, Nat.le_of_ble_eq_true rfl⟩ ⟨Nat.le_refl _, Nat.le_refl _⟩ d_Mo_after_19) I (fun H locs I => ?_)
    refine lv_iload_n hx hb d_Mo_after_22 rfl (lv_at hl 2 rfl) ?_
    refine lv_if_lt (tgt := 34) hx hb d_Mo_after_23 (by decide) (fun hc => ?_) (fun hc => ?_)
    · have hf := mift hf hc
      exact w_Mo_after_34 X G I hf (lv_sub hl [0] rfl)
    · have hf := miff hf hc
      refine lv_iload_n hx hb d_Mo_after_26 rfl (lv_at hl 2 rfl) ?_
      refine r_aload_n X d_Mo_after_27 rfl (lv_at hl 0 rfl) ?_
      obtain ⟨v3, hv, hf⟩ := mbind hf
      refine r_getf X G I (mfI_e hv) o_Mo_row k_850 (Or.inl rfl) d_Mo_after_28 ?_
      refine lv_icmp_le (tgt := 40) hx hb d_Mo_after_31 (by decide) (fun hc => ?_) (fun hc => ?_)
      · have hf := mift hf hc
        refine r_aload_n X d_Mo_after_40 rfl (lv_at hl 0 rfl) ?_
        refine lv_iload_n hx hb d_Mo_after_41 rfl (lv_at hl 1 rfl) ?_
        refine lv_iload_n hx hb d_Mo_after_42 rfl (lv_at hl 2 rfl) ?_
        refine lv_iload_n hx hb d_Mo_after_43 rfl (lv_at hl 3 rfl) ?_
        refine lv_iload hx hb d_Mo_after_44 (lv_at hl 4 rfl) ?_
        refine lv_iload hx hb d_Mo_after_46 (lv_at hl 5 rfl) ?_
        obtain ⟨q4, hv, hf⟩ := mbind hf
        obtain ⟨a, ha, hv⟩ := mbind hv
        obtain ⟨ha, fs, hm⟩ := mrc_e ha
        refine m_caW (m_runV (As := [.int x1, .int x2, .int x3, .int x4, .int x5]) (r := some h0) (rest := []) X G I h_Mo_through k_1202 (c_Mo_through hv) mPr_blind (m_pre G I) hm rfl ha rfl rfl hl.1 (Nat.le_of_ble_eq_true rfl) rfl rfl ⟨Nat.le_of_ble_eq_true rfl, Nat.le_of_ble_eq_true rfl⟩ ⟨Nat.le_refl _, Nat.le_refl _⟩ d_Mo_after_48) I (fun H locs I => ?_)
        exact w_Mo_after_51 X G I hf (lv_sub hl [0] rfl)
      · have hf := miff hf hc
        exact w_Mo_after_34 X G I hf (lv_sub hl [0] rfl)
  · have hf := mift hf hc
    refine lv_ldc2 (v := -1) hx hb X.ow (X.w k_1162) d_Mo_after_13 ?_
    obtain rfl := Option.some.inj hf
    exact r_lretW X I d_Mo_after_16

set_option maxHeartbeats 4000000 in
set_option maxRecDepth 100000 in
theorem c_Mo_after {l : Launch} {D : va_G} {cA : Nat → ClassId} {dA z0 : Nat} {μ : mM} {h0 : Nat} {x1 : Int32} {x2 : Int32} {x3 : Int32} {x4 : Int32} {x5 : Int32} {r : Int64 × mM} (hf : f_Mo_after h0 μ x1 x2 x3 x4 x5 = some r) : Met l y_Mo_after (mW y_Mo_after b_Mo_after 6 (some .long)) rm_Mo_after (va_Pc [.ref h0, .int x1, .int x2, .int x3, .int x4, .int x5] (mPr D cA dA z0 μ)) (mQW D cA z0 (some (.long r.1)) r.2) 0 0 (mA z0) := by
  refine Met.ofW (cc := b_Mo_after) (maxL := 6) (ret := (some .long)) (by decide) rfl ?_
  intro p e s m args below meth c s₁ B hml hv
  obtain ⟨rfl, G, hP⟩ := hv
  have X := mX.of B hml
  exact m_entry (lv := [(0, va_rf (some h0)), (1, .int x1), (2, .int x2), (3, .int x3), (4, .int x4), (5, .int x5)]) (Nat.le_of_ble_eq_true rfl) rfl (fun ls hl => w_Mo_after X G (mI.start hP) hf hl)

abbrev rm_CL_work : Room := { frames := 0, cells := 0, slots := 0, locals := 0 }
theorem h_CL_work : mCV y_CL_work b_CL_work 1 (some .int) 0 := ⟨k_827, k_75, ⟨by decide, by decide, by decide +kernel⟩, k_825, k_826⟩
set_option maxHeartbeats 4000000 in
set_option maxRecDepth 100000 in
theorem w_CL_work {μ : mM} {h0 : Nat} {r : Int32} (X : mX p m meth c s args b_CL_work 1 (some .int) "ColourLinker") (G : mG D cA dA z0 s) (I : mI D cA z0 s μ s.heap [] s.heap.size) {ls : Array Slot}  (hf : f_CL_work μ h0 = some r) (hl : lv_has ls 1 [(0, va_rf (some h0))]) : W p l e rm_CL_work s m args below meth c s.heap [] 0 0 (MQ below (mQR (some (.int r))) args s 0 0 (fun _ => False)) (F0 m 0 ls []) := by
  have hx := X.ex
  have hb := X.by_
  unfold f_CL_work at hf
  refine r_aload_n X d_CL_work_0 rfl (lv_at hl 0 rfl) ?_
  obtain ⟨v1, hv, hf⟩ := mbind hf
  refine r_getf X G I (mfI_e hv) o_CL_piecesRun k_156 (Or.inl rfl) d_CL_work_1 ?_
  obtain rfl := Option.some.inj hf
  exact r_iretR X d_CL_work_4

set_option maxHeartbeats 4000000 in
set_option maxRecDepth 100000 in
theorem c_CL_work {l : Launch} {D : va_G} {cA : Nat → ClassId} {dA z0 : Nat} {μ : mM} {h0 : Nat} {r : Int32} (hf : f_CL_work μ h0 = some r) : Met l y_CL_work (mW y_CL_work b_CL_work 1 (some .int)) rm_CL_work (va_Pc [.ref h0] (mPr D cA dA z0 μ)) (mQR (some (.int r))) 0 0 (fun _ => False) := by
  refine Met.ofW (cc := b_CL_work) (maxL := 1) (ret := (some .int)) (by decide) rfl ?_
  intro p e s m args below meth c s₁ B hml hv
  obtain ⟨rfl, G, hP⟩ := hv
  have X := mX.of B hml
  exact m_entry (lv := [(0, va_rf (some h0))]) (Nat.le_of_ble_eq_true rfl) rfl (fun ls hl => w_CL_work X G (mI.start hP) hf hl)

abbrev rm_Mo_work : Room := { frames := 0, cells := 0, slots := 0, locals := 0 }
theorem h_Mo_work : mCV y_Mo_work b_Mo_work 1 (some .int) 0 := ⟨k_1213, k_79, ⟨by decide, by decide, by decide +kernel⟩, k_1211, k_1212⟩
set_option maxHeartbeats 4000000 in
set_option maxRecDepth 100000 in
theorem w_Mo_work {μ : mM} {h0 : Nat} {r : Int32} (X : mX p m meth c s args b_Mo_work 1 (some .int) "ColourLinkerModel") (G : mG D cA dA z0 s) (I : mI D cA z0 s μ s.heap [] s.heap.size) {ls : Array Slot}  (hf : f_Mo_work μ h0 = some r) (hl : lv_has ls 1 [(0, va_rf (some h0))]) : W p l e rm_Mo_work s m args below meth c s.heap [] 0 0 (MQ below (mQR (some (.int r))) args s 0 0 (fun _ => False)) (F0 m 0 ls []) := by
  have hx := X.ex
  have hb := X.by_
  unfold f_Mo_work at hf
  refine r_aload_n X d_Mo_work_0 rfl (lv_at hl 0 rfl) ?_
  obtain ⟨v1, hv, hf⟩ := mbind hf
  refine r_getf X G I (mfI_e hv) o_Mo_work k_845 (Or.inl rfl) d_Mo_work_1 ?_
  obtain rfl := Option.some.inj hf
  exact r_iretR X d_Mo_work_4

set_option maxHeartbeats 4000000 in
set_option maxRecDepth 100000 in
theorem c_Mo_work {l : Launch} {D : va_G} {cA : Nat → ClassId} {dA z0 : Nat} {μ : mM} {h0 : Nat} {r : Int32} (hf : f_Mo_work μ h0 = some r) : Met l y_Mo_work (mW y_Mo_work b_Mo_work 1 (some .int)) rm_Mo_work (va_Pc [.ref h0] (mPr D cA dA z0 μ)) (mQR (some (.int r))) 0 0 (fun _ => False) := by
  refine Met.ofW (cc := b_Mo_work) (maxL := 1) (ret := (some .int)) (by decide) rfl ?_
  intro p e s m args below meth c s₁ B hml hv
  obtain ⟨rfl, G, hP⟩ := hv
  have X := mX.of B hml
  exact m_entry (lv := [(0, va_rf (some h0))]) (Nat.le_of_ble_eq_true rfl) rfl (fun ls hl => w_Mo_work X G (mI.start hP) hf hl)

end WK
