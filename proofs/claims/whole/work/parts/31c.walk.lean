section WK
variable {p : Program} {l : Launch} {e : Env} {s : State} {m : MethodId} {args : Array Value} {below : List Frame} {meth : Method} {c : Code} {D : va_G} {cA : Nat → ClassId} {dA z0 : Nat}
abbrev rm_Mo_backwards : Room := { frames := 5, cells := 0, slots := 0, locals := 117 }
theorem h_Mo_backwards : mCV y_Mo_backwards b_Mo_backwards 4 none 2 := ⟨k_1161, k_79, ⟨by decide, by decide, by decide +kernel⟩, k_1160, k_68⟩
set_option maxHeartbeats 4000000 in
set_option maxRecDepth 100000 in
theorem w_Mo_backwards_65 {h0 : Nat} {r : mM} (X : mX p m meth c s args b_Mo_backwards 4 none "ColourLinkerModel") (G : mG D cA dA z0 s) {H : Heap} {locs : List Loc} {μ : mM} {ls : Array Slot}  (I : mI D cA z0 s μ H locs s.heap.size) (hf : f_Mo_backwards_65 h0 μ = some r) (hl : lv_has ls 4 [(0, va_rf (some h0))]) : W p l e rm_Mo_backwards s m args below meth c H locs 0 0 (MQ below (mQW D cA z0 none r) args s 0 0 (mA z0)) (F0 m 65 ls []) := by
  have hx := X.ex
  have hb := X.by_
  unfold f_Mo_backwards_65 at hf
  obtain rfl := Option.some.inj hf
  exact r_vretW X I d_Mo_backwards_65

set_option maxHeartbeats 4000000 in
set_option maxRecDepth 100000 in
theorem w_Mo_backwards {h0 : Nat} {r : mM} (X : mX p m meth c s args b_Mo_backwards 4 none "ColourLinkerModel") (G : mG D cA dA z0 s) {H : Heap} {locs : List Loc} {μ : mM} {ls : Array Slot} {x1 : Int32} {x2 : Int32} (I : mI D cA z0 s μ H locs s.heap.size) (hf : f_Mo_backwards h0 μ x1 x2 = some r) (hl : lv_has ls 4 [(0, va_rf (some h0)), (1, .int x1), (2, .int x2)]) : W p l e rm_Mo_backwards s m args below meth c H locs 0 0 (MQ below (mQW D cA z0 none r) args s 0 0 (mA z0)) (F0 m 0 ls []) := by
  have hx := X.ex
  have hb := X.by_
  unfold f_Mo_backwards at hf
  refine r_aload_n X d_Mo_backwards_0 rfl (lv_at hl 0 rfl) ?_
  refine lv_iload_n hx hb d_Mo_backwards_1 rfl (lv_at hl 1 rfl) ?_
  refine lv_bipush (v := 9) hx hb d_Mo_backwards_2 (by decide) ?_
  refine lv_iload_n hx hb d_Mo_backwards_4 rfl (lv_at hl 2 rfl) ?_
  obtain ⟨q1, hv, hf⟩ := mbind hf
  obtain ⟨a, ha, hv⟩ := mbind hv
  obtain ⟨ha, fs, hm⟩ := mrc_e ha
  refine m_caR (m_runV (As := [.int x1, .int (9 : Int32), .int x2]) (r := some h0) (rest := []) X G I h_Mo_grid k_1025 (c_Mo_grid hv) mPr_blind (m_pre G I) hm rfl ha rfl rfl hl.1 (Nat.le_of_ble_eq_true rfl) rfl rfl ⟨Nat.le_of_ble_eq_true rfl, Nat.le_of_ble_eq_true rfl⟩ ⟨Nat.le_refl _, Nat.le_refl _⟩ d_Mo_backwards_5) ?_
  refine lv_istore_n (i := 3) (lv' := [(3, .int q1), (0, va_rf (some h0)), (1, .int x1), (2, .int x2)]) hx hb d_Mo_backwards_8 rfl hl (by decide) rfl (fun ls hl => ?_)
  refine r_aload_n X d_Mo_backwards_9 rfl (lv_at hl 1 rfl) ?_
  refine lv_iload_n hx hb d_Mo_backwards_10 rfl (lv_at hl 2 rfl) ?_
  obtain ⟨q2, hv, hf⟩ := mbind hf
  obtain ⟨a, ha, hv⟩ := mbind hv
  obtain ⟨ha, fs, hm⟩ := mrc_e ha
  refine m_caR (m_runV (As := [.int x1]) (r := some h0) (rest := []) X G I h_Mo_single k_1021 (c_Mo_single hv) mPr_blind (m_pre G I) hm rfl ha rfl rfl hl.1 (Nat.le_of_ble_eq_true rfl) rfl rfl ⟨Nat.le_of_ble_eq_true rfl, Nat.le_of_ble_eq_true rfl⟩ ⟨Nat.le_refl _, Nat.le_refl _⟩ d_Mo_backwards_11) ?_
  refine lv_if_eq (tgt := 36) hx hb d_Mo_backwards_14 (by decide) (fun hc => ?_) (fun hc => ?_)
  · have hf := mift hf hc
    refine lv_iload_n hx hb d_Mo_backwards_36 rfl (lv_at hl 0 rfl) ?_
    refine lv_if_le (tgt := 51) hx hb d_Mo_backwards_37 (by decide) (fun hc => ?_) (fun hc => ?_)
    · have hf := mift hf hc
      refine r_aload_n X d_Mo_backwards_51 rfl (lv_at hl 1 rfl) ?_
      refine lv_bipush (v := 10) hx hb d_Mo_backwards_52 (by decide) ?_
      refine lv_iload_n hx hb d_Mo_backwards_54 rfl (lv_at hl 2 rfl) ?_
      obtain ⟨q3, hv, hf⟩ := mbind hf
      obtain ⟨a, ha, hv⟩ := mbind hv
      obtain ⟨ha, fs, hm⟩ := mrc_e ha
      refine m_caWv (m_runV (As := [.int (10 : Int32), .int x1]) (r := some h0) (rest := []) X G I h_Mo_putMatrix k_1080 (c_Mo_putMatrix hv) mPr_blind (m_pre G I) hm rfl ha rfl rfl hl.1 (Nat.le_of_ble_eq_true rfl) rfl rfl ⟨Nat.le_of_ble_eq_true rfl, Nat.le_of_ble_eq_true rfl⟩ ⟨Nat.le_refl _, Nat.le_refl _⟩ d_Mo_backwards_55) I (fun H locs I => ?_)
      refine r_aload_n X d_Mo_backwards_58 rfl (lv_at hl 1 rfl) ?_
      refine lv_bipush (v := 11) hx hb d_Mo_backwards_59 (by decide) ?_
      refine lv_iload_n hx hb d_Mo_backwards_61 rfl (lv_at hl 2 rfl) ?_
      obtain ⟨q4, hv, hf⟩ := mbind hf
      obtain ⟨a, ha, hv⟩ := mbind hv
      obtain ⟨ha, fs, hm⟩ := mrc_e ha
      refine m_caWv (m_runV (As := [.int (11 : Int32), .int x1]) (r := some h0) (rest := []) X G I h_Mo_putCurves k_1068 (c_Mo_putCurves hv) mPr_blind (m_pre G I) hm rfl ha rfl rfl hl.1 (Nat.le_of_ble_eq_true rfl) rfl rfl ⟨Nat.le_of_ble_eq_true rfl, Nat.le_of_ble_eq_true rfl⟩ ⟨Nat.le_refl _, Nat.le_refl _⟩ d_Mo_backwards_62) I (fun H locs I => ?_)
      exact w_Mo_backwards_65 X G I hf (lv_sub hl [1] rfl)
    · have hf := miff hf hc
      refine r_aload_n X d_Mo_backwards_40 rfl (lv_at hl 1 rfl) ?_
      refine lv_iconst (v := 3) hx hb d_Mo_backwards_41 (by decide) ?_
      refine lv_iload_n hx hb d_Mo_backwards_42 rfl (lv_at hl 2 rfl) ?_
      refine lv_iload_n hx hb d_Mo_backwards_43 rfl (lv_at hl 0 rfl) ?_
      refine lv_iconst (v := 0) hx hb d_Mo_backwards_44 (by decide) ?_
      obtain ⟨q5, hv, hf⟩ := mbind hf
      obtain ⟨a, ha, hv⟩ := mbind hv
      obtain ⟨ha, fs, hm⟩ := mrc_e ha
      refine m_caWv (m_runV (As := [.int (3 : Int32), .int x1, .int q1, .int (0 : Int32)]) (r := some h0) (rest := []) X G I h_Mo_put k_1076 (c_Mo_put hv) mPr_blind (m_pre G I) hm rfl ha rfl rfl hl.1 (Nat.le_of_ble_eq_true rfl) rfl rfl ⟨Nat.le_of_ble_eq_true rfl, Nat.le_of_ble_eq_true rfl⟩ ⟨Nat.le_refl _, Nat.le_refl _⟩ d_Mo_backwards_45) I (fun H locs I => ?_)
      refine lv_goto (tgt := 65) hx hb d_Mo_backwards_48 (by decide) ?_
      exact w_Mo_backwards_65 X G I hf (lv_sub hl [1] rfl)
  · have hf := miff hf hc
    refine r_aload_n X d_Mo_backwards_17 rfl (lv_at hl 1 rfl) ?_
    refine lv_bipush (v := 9) hx hb d_Mo_backwards_18 (by decide) ?_
    refine lv_iload_n hx hb d_Mo_backwards_20 rfl (lv_at hl 2 rfl) ?_
    refine lv_iconst (v := 0) hx hb d_Mo_backwards_21 (by decide) ?_
    refine lv_iconst (v := 0) hx hb d_Mo_backwards_22 (by decide) ?_
    obtain ⟨q6, hv, hf⟩ := mbind hf
    obtain ⟨a, ha, hv⟩ := mbind hv
    obtain ⟨ha, fs, hm⟩ := mrc_e ha
    refine m_caWv (m_runV (As := [.int (9 : Int32), .int x1, .int (0 : Int32), .int (0 : Int32)]) (r := some h0) (rest := []) X G I h_Mo_put k_1076 (c_Mo_put hv) mPr_blind (m_pre G I) hm rfl ha rfl rfl hl.1 (Nat.le_of_ble_eq_true rfl) rfl rfl ⟨Nat.le_of_ble_eq_true rfl, Nat.le_of_ble_eq_true rfl⟩ ⟨Nat.le_refl _, Nat.le_refl _⟩ d_Mo_backwards_23) I (fun H locs I => ?_)
    refine r_aload_n X d_Mo_backwards_26 rfl (lv_at hl 1 rfl) ?_
    refine lv_bipush (v := 11) hx hb d_Mo_backwards_27 (by decide) ?_
    refine lv_iload_n hx hb d_Mo_backwards_29 rfl (lv_at hl 2 rfl) ?_
    obtain ⟨q7, hv, hf⟩ := mbind hf
    obtain ⟨a, ha, hv⟩ := mbind hv
    obtain ⟨ha, fs, hm⟩ := mrc_e ha
    refine m_caWv (m_runV (As := [.int (11 : Int32), .int x1]) (r := some h0) (rest := []) X G I h_Mo_putCurves k_1068 (c_Mo_putCurves hv) mPr_blind (m_pre G I) hm rfl ha rfl rfl hl.1 (Nat.le_of_ble_eq_true rfl) rfl rfl ⟨Nat.le_of_ble_eq_true rfl, Nat.le_of_ble_eq_true rfl⟩ ⟨Nat.le_refl _, Nat.le_refl _⟩ d_Mo_backwards_30) I (fun H locs I => ?_)
    refine lv_goto (tgt := 65) hx hb d_Mo_backwards_33 (by decide) ?_
    exact w_Mo_backwards_65 X G I hf (lv_sub hl [1] rfl)

set_option maxHeartbeats 4000000 in
set_option maxRecDepth 100000 in
theorem c_Mo_backwards {l : Launch} {D : va_G} {cA : Nat → ClassId} {dA z0 : Nat} {μ : mM} {h0 : Nat} {x1 : Int32} {x2 : Int32} {r : mM} (hf : f_Mo_backwards h0 μ x1 x2 = some r) : Met l y_Mo_backwards (mW y_Mo_backwards b_Mo_backwards 4 none) rm_Mo_backwards (va_Pc [.ref h0, .int x1, .int x2] (mPr D cA dA z0 μ)) (mQW D cA z0 none r) 0 0 (mA z0) := by
  refine Met.ofW (cc := b_Mo_backwards) (maxL := 4) (ret := none) (by decide) rfl ?_
  intro p e s m args below meth c s₁ B hml hv
  obtain ⟨rfl, G, hP⟩ := hv
  have X := mX.of B hml
  exact m_entry (lv := [(0, va_rf (some h0)), (1, .int x1), (2, .int x2)]) (Nat.le_of_ble_eq_true rfl) rfl (fun ls hl => w_Mo_backwards X G (mI.start hP) hf hl)

abbrev rm_Mo_passage : Room := { frames := 8, cells := 0, slots := 0, locals := 204 }
theorem h_Mo_passage : mCV y_Mo_passage b_Mo_passage 12 none 4 := ⟨k_1157, k_79, ⟨by decide, by decide, by decide +kernel⟩, k_1156, k_67⟩
set_option maxHeartbeats 4000000 in
set_option maxRecDepth 100000 in
theorem w_Mo_passage_180 {h0 : Nat} {r : mM} (X : mX p m meth c s args b_Mo_passage 12 none "ColourLinkerModel") (G : mG D cA dA z0 s) {H : Heap} {locs : List Loc} {μ : mM} {ls : Array Slot} {x2 : Int32} {x3 : Int32} (I : mI D cA z0 s μ H locs s.heap.size) (hf : f_Mo_passage_180 h0 μ x2 x3 = some r) (hl : lv_has ls 12 [(0, va_rf (some h0)), (2, .int x2), (3, .int x3)]) : W p l e rm_Mo_passage s m args below meth c H locs 0 0 (MQ below (mQW D cA z0 none r) args s 0 0 (mA z0)) (F0 m 180 ls []) := by
  have hx := X.ex
  have hb := X.by_
  unfold f_Mo_passage_180 at hf
  refine r_aload_n X d_Mo_passage_180 rfl (lv_at hl 0 rfl) ?_
  refine lv_iload_n hx hb d_Mo_passage_181 rfl (lv_at hl 1 rfl) ?_
  refine lv_iload_n hx hb d_Mo_passage_182 rfl (lv_at hl 2 rfl) ?_
  obtain ⟨q10, hv, hf⟩ := mbind hf
  obtain ⟨a, ha, hv⟩ := mbind hv
  obtain ⟨ha, fs, hm⟩ := mrc_e ha
  refine m_caWv (m_runV (As := [.int x2, .int x3]) (r := some h0) (rest := []) X G I h_Mo_backwards k_1158 (c_Mo_backwards hv) mPr_blind (m_pre G I) hm rfl ha rfl rfl hl.1 (Nat.le_of_ble_eq_true rfl) rfl rfl ⟨Nat.le_of_ble_eq_true rfl, Nat.le_of_ble_eq_true rfl⟩ ⟨Nat.le_refl _, Nat.le_refl _⟩ d_Mo_passage_183) I (fun H locs I => ?_)
  obtain rfl := Option.some.inj hf
  exact r_vretW X I d_Mo_passage_186

set_option maxHeartbeats 4000000 in
set_option maxRecDepth 100000 in
theorem w_Mo_passage_174 {h0 : Nat} {r : mM} (X : mX p m meth c s args b_Mo_passage 12 none "ColourLinkerModel") (G : mG D cA dA z0 s) {H : Heap} {locs : List Loc} {μ : mM} {ls : Array Slot} {x2 : Int32} {x3 : Int32} {s0 : Option Nat} {s1 : Int32} (I : mI D cA z0 s μ H locs s.heap.size) (hf : f_Mo_passage_174 h0 μ x2 x3 s0 s1 = some r) (hl : lv_has ls 12 [(0, va_rf (some h0)), (2, .int x2), (3, .int x3)]) : W p l e rm_Mo_passage s m args below meth c H locs 0 0 (MQ below (mQW D cA z0 none r) args s 0 0 (mA z0)) (F0 m 174 ls [.int s1, va_rf s0]) := by
  have hx := X.ex
  have hb := X.by_
  unfold f_Mo_passage_174 at hf
  refine lv_iload_n hx hb d_Mo_passage_174 rfl (lv_at hl 1 rfl) ?_
  refine lv_iconst (v := 0) hx hb d_Mo_passage_175 (by decide) ?_
  refine lv_iconst (v := 0) hx hb d_Mo_passage_176 (by decide) ?_
  obtain ⟨q9, hv, hf⟩ := mbind hf
  obtain ⟨a, ha, hv⟩ := mbind hv
  obtain ⟨ha, fs, hm⟩ := mrc_e ha
  refine m_caWv (m_runV (As := [.int s1, .int x2, .int (0 : Int32), .int (0 : Int32)]) (r := s0) (rest := []) X G I h_Mo_put k_1076 (c_Mo_put hv) mPr_blind (m_pre G I) hm rfl ha rfl rfl hl.1 (Nat.le_of_ble_eq_true rfl) rfl rfl ⟨Nat.le_of_ble_eq_true rfl, Nat.le_of_ble_eq_true rfl⟩ ⟨Nat.le_refl _, Nat.le_refl _⟩ d_Mo_passage_177) I (fun H locs I => ?_)
  exact w_Mo_passage_180 X G I hf hl

set_option maxHeartbeats 4000000 in
set_option maxRecDepth 100000 in
theorem w_Mo_passage_152 {h0 : Nat} {r : mM} (X : mX p m meth c s args b_Mo_passage 12 none "ColourLinkerModel") (G : mG D cA dA z0 s) {H : Heap} {locs : List Loc} {μ : mM} {ls : Array Slot} {x2 : Int32} {x3 : Int32} {x11 : Int32} (I : mI D cA z0 s μ H locs s.heap.size) (hf : f_Mo_passage_152 h0 μ x2 x3 x11 = some r) (hl : lv_has ls 12 [(0, va_rf (some h0)), (2, .int x2), (3, .int x3), (11, .int x11)]) : W p l e rm_Mo_passage s m args below meth c H locs 0 0 (MQ below (mQW D cA z0 none r) args s 0 0 (mA z0)) (F0 m 152 ls []) := by
  have hx := X.ex
  have hb := X.by_
  unfold f_Mo_passage_152 at hf
  refine lv_iload hx hb d_Mo_passage_152 (lv_at hl 3 rfl) ?_
  refine r_aload_n X d_Mo_passage_154 rfl (lv_at hl 0 rfl) ?_
  refine lv_iload_n hx hb d_Mo_passage_155 rfl (lv_at hl 1 rfl) ?_
  obtain ⟨q8, hv, hf⟩ := mbind hf
  obtain ⟨a, ha, hv⟩ := mbind hv
  obtain ⟨ha, fs, hm⟩ := mrc_e ha
  refine m_caR (m_runV (As := [.int x2]) (r := some h0) (rest := [.int x11]) X G I h_Mo_lab k_1033 (c_Mo_lab hv) mPr_blind (m_pre G I) hm rfl ha rfl rfl hl.1 (Nat.le_of_ble_eq_true rfl) rfl rfl ⟨Nat.le_of_ble_eq_true rfl, Nat.le_of_ble_eq_true rfl⟩ ⟨Nat.le_refl _, Nat.le_refl _⟩ d_Mo_passage_156) ?_
  refine lv_icmp_eq (tgt := 180) hx hb d_Mo_passage_159 (by decide) (fun hc => ?_) (fun hc => ?_)
  · have hf := mift hf hc
    exact w_Mo_passage_180 X G I hf (lv_sub hl [0, 1, 2] rfl)
  · have hf := miff hf hc
    refine r_aload_n X d_Mo_passage_162 rfl (lv_at hl 0 rfl) ?_
    refine lv_iload hx hb d_Mo_passage_163 (lv_at hl 3 rfl) ?_
    refine lv_if_eq (tgt := 173) hx hb d_Mo_passage_165 (by decide) (fun hc => ?_) (fun hc => ?_)
    · have hf := mift hf hc
      refine lv_iconst (v := 5) hx hb d_Mo_passage_173 (by decide) ?_
      exact w_Mo_passage_174 X G I hf (lv_sub hl [0, 1, 2] rfl)
    · have hf := miff hf hc
      refine lv_bipush (v := 6) hx hb d_Mo_passage_168 (by decide) ?_
      refine lv_goto (tgt := 174) hx hb d_Mo_passage_170 (by decide) ?_
      exact w_Mo_passage_174 X G I hf (lv_sub hl [0, 1, 2] rfl)

set_option maxHeartbeats 4000000 in
set_option maxRecDepth 100000 in
theorem w_Mo_passage_146 {h0 : Nat} {r : mM} (X : mX p m meth c s args b_Mo_passage 12 none "ColourLinkerModel") (G : mG D cA dA z0 s) {H : Heap} {locs : List Loc} {μ : mM} {ls : Array Slot} {x2 : Int32} {x3 : Int32} {x7 : Int64} {x11 : Int32} {s0 : Option Nat} {s1 : Int32} {s2 : Int32} {s3 : Int32} (I : mI D cA z0 s μ H locs s.heap.size) (hf : f_Mo_passage_146 h0 μ x2 x3 x7 x11 s0 s1 s2 s3 = some r) (hl : lv_has ls 12 [(0, va_rf (some h0)), (2, .int x2), (3, .int x3), (7, .long x7), (11, .int x11)]) : W p l e rm_Mo_passage s m args below meth c H locs 0 0 (MQ below (mQW D cA z0 none r) args s 0 0 (mA z0)) (F0 m 146 ls [.int s3, .int s2, .int s1, va_rf s0]) := by
  have hx := X.ex
  have hb := X.by_
  unfold f_Mo_passage_146 at hf
  refine lv_lload hx hb d_Mo_passage_146 (lv_at hl 3 rfl) ?_
  refine lv_l2i hx hb d_Mo_passage_148 rfl ?_
  obtain ⟨q7, hv, hf⟩ := mbind hf
  obtain ⟨a, ha, hv⟩ := mbind hv
  obtain ⟨ha, fs, hm⟩ := mrc_e ha
  refine m_caWv (m_runV (As := [.int s1, .int s2, .int s3, .int ((x7).toInt32)]) (r := s0) (rest := []) X G I h_Mo_put k_1076 (c_Mo_put hv) mPr_blind (m_pre G I) hm rfl ha rfl rfl hl.1 (Nat.le_of_ble_eq_true rfl) rfl rfl ⟨Nat.le_of_ble_eq_true rfl, Nat.le_of_ble_eq_true rfl⟩ ⟨Nat.le_refl _, Nat.le_refl _⟩ d_Mo_passage_149) I (fun H locs I => ?_)
  exact w_Mo_passage_152 X G I hf (lv_sub hl [0, 1, 2, 4] rfl)

set_option maxHeartbeats 4000000 in
set_option maxRecDepth 100000 in
theorem w_Mo_passage_133 {h0 : Nat} {r : mM} (X : mX p m meth c s args b_Mo_passage 12 none "ColourLinkerModel") (G : mG D cA dA z0 s) {H : Heap} {locs : List Loc} {μ : mM} {ls : Array Slot} {x1 : Int32} {x2 : Int32} {x3 : Int32} {x5 : Int64} {x7 : Int64} {x9 : Int32} {x11 : Int32} {s0 : Option Nat} {s1 : Int32} (I : mI D cA z0 s μ H locs s.heap.size) (hf : f_Mo_passage_133 h0 μ x1 x2 x3 x5 x7 x9 x11 s0 s1 = some r) (hl : lv_has ls 12 [(0, va_rf (some h0)), (1, .int x1), (2, .int x2), (3, .int x3), (5, .long x5), (7, .long x7), (9, .int x9), (11, .int x11)]) : W p l e rm_Mo_passage s m args below meth c H locs 0 0 (MQ below (mQW D cA z0 none r) args s 0 0 (mA z0)) (F0 m 133 ls [.int s1, va_rf s0]) := by
  have hx := X.ex
  have hb := X.by_
  unfold f_Mo_passage_133 at hf
  refine lv_iload_n hx hb d_Mo_passage_133 rfl (lv_at hl 1 rfl) ?_
  refine lv_iload hx hb d_Mo_passage_134 (lv_at hl 6 rfl) ?_
  refine lv_if_eq (tgt := 143) hx hb d_Mo_passage_136 (by decide) (fun hc => ?_) (fun hc => ?_)
  · have hf := mift hf hc
    refine lv_lload hx hb d_Mo_passage_143 (lv_at hl 4 rfl) ?_
    refine lv_l2i hx hb d_Mo_passage_145 rfl ?_
    exact w_Mo_passage_146 X G I hf (lv_sub hl [0, 2, 3, 5, 7] rfl)
  · have hf := miff hf hc
    refine lv_iload_n hx hb d_Mo_passage_139 rfl (lv_at hl 2 rfl) ?_
    refine lv_goto (tgt := 146) hx hb d_Mo_passage_140 (by decide) ?_
    exact w_Mo_passage_146 X G I hf (lv_sub hl [0, 2, 3, 5, 7] rfl)

set_option maxHeartbeats 4000000 in
set_option maxRecDepth 100000 in
theorem w_Mo_passage_117 {h0 : Nat} {r : mM} (X : mX p m meth c s args b_Mo_passage 12 none "ColourLinkerModel") (G : mG D cA dA z0 s) {H : Heap} {locs : List Loc} {μ : mM} {ls : Array Slot} {x1 : Int32} {x2 : Int32} {x3 : Int32} {x5 : Int64} {x7 : Int64} {x9 : Int32} (I : mI D cA z0 s μ H locs s.heap.size) (hf : f_Mo_passage_117 h0 μ x1 x2 x3 x5 x7 x9 = some r) (hl : lv_has ls 12 [(0, va_rf (some h0)), (1, .int x1), (2, .int x2), (3, .int x3), (5, .long x5), (7, .long x7), (9, .int x9)]) : W p l e rm_Mo_passage s m args below meth c H locs 0 0 (MQ below (mQW D cA z0 none r) args s 0 0 (mA z0)) (F0 m 117 ls []) := by
  have hx := X.ex
  have hb := X.by_
  unfold f_Mo_passage_117 at hf
  refine lv_iconst (v := 0) hx hb d_Mo_passage_117 (by decide) ?_
  refine lv_istore (i := 11) (lv' := [(11, .int (0 : Int32)), (0, va_rf (some h0)), (1, .int x1), (2, .int x2), (3, .int x3), (5, .long x5), (7, .long x7), (9, .int x9)]) hx hb d_Mo_passage_118 hl (by decide) rfl (fun ls hl => ?_)
  refine r_aload_n X d_Mo_passage_120 rfl (lv_at hl 1 rfl) ?_
  refine lv_iload hx hb d_Mo_passage_121 (lv_at hl 7 rfl) ?_
  refine lv_if_eq (tgt := 131) hx hb d_Mo_passage_123 (by decide) (fun hc => ?_) (fun hc => ?_)
  · have hf := mift hf hc
    refine lv_bipush (v := 8) hx hb d_Mo_passage_131 (by decide) ?_
    exact w_Mo_passage_133 X G I hf (lv_sub hl [1, 2, 3, 4, 5, 6, 7, 0] rfl)
  · have hf := miff hf hc
    refine lv_bipush (v := 7) hx hb d_Mo_passage_126 (by decide) ?_
    refine lv_goto (tgt := 133) hx hb d_Mo_passage_128 (by decide) ?_
    exact w_Mo_passage_133 X G I hf (lv_sub hl [1, 2, 3, 4, 5, 6, 7, 0] rfl)

set_option maxHeartbeats 4000000 in
set_option maxRecDepth 100000 in
theorem w_Mo_passage_83 {h0 : Nat} {r : mM} (X : mX p m meth c s args b_Mo_passage 12 none "ColourLinkerModel") (G : mG D cA dA z0 s) {H : Heap} {locs : List Loc} {μ : mM} {ls : Array Slot} {x1 : Int32} {x2 : Int32} {x3 : Int32} {x5 : Int64} {x7 : Int64} {x9 : Int32} {s0 : Int32} (I : mI D cA z0 s μ H locs s.heap.size) (hf : f_Mo_passage_83 h0 μ x1 x2 x3 x5 x7 x9 s0 = some r) (hl : lv_has ls 12 [(0, va_rf (some h0)), (1, .int x1), (2, .int x2), (3, .int x3), (5, .long x5), (7, .long x7), (9, .int x9)]) : W p l e rm_Mo_passage s m args below meth c H locs 0 0 (MQ below (mQW D cA z0 none r) args s 0 0 (mA z0)) (F0 m 83 ls [.int s0]) := by
  have hx := X.ex
  have hb := X.by_
  unfold f_Mo_passage_83 at hf
  refine lv_istore (i := 10) (lv' := [(10, .int s0), (0, va_rf (some h0)), (1, .int x1), (2, .int x2), (3, .int x3), (5, .long x5), (7, .long x7), (9, .int x9)]) hx hb d_Mo_passage_83 hl (by decide) rfl (fun ls hl => ?_)
  refine r_aload_n X d_Mo_passage_85 rfl (lv_at hl 1 rfl) ?_
  refine lv_iload_n hx hb d_Mo_passage_86 rfl (lv_at hl 2 rfl) ?_
  refine lv_iload_n hx hb d_Mo_passage_87 rfl (lv_at hl 4 rfl) ?_
  obtain ⟨q4, hv, hf⟩ := mbind hf
  obtain ⟨a, ha, hv⟩ := mbind hv
  obtain ⟨ha, fs, hm⟩ := mrc_e ha
  refine m_caWv (m_runV (As := [.int x1, .int x3]) (r := some h0) (rest := []) X G I h_Mo_forth k_1064 (c_Mo_forth hv) mPr_blind (m_pre G I) hm rfl ha rfl rfl hl.1 (Nat.le_of_ble_eq_true rfl) rfl rfl ⟨Nat.le_of_ble_eq_true rfl, Nat.le_of_ble_eq_true rfl⟩ ⟨Nat.le_refl _, Nat.le_refl _⟩ d_Mo_passage_88) I (fun H locs I => ?_)
  refine r_aload_n X d_Mo_passage_91 rfl (lv_at hl 1 rfl) ?_
  refine lv_iload_n hx hb d_Mo_passage_92 rfl (lv_at hl 2 rfl) ?_
  obtain ⟨q5, hv, hf⟩ := mbind hf
  obtain ⟨a, ha, hv⟩ := mbind hv
  obtain ⟨ha, fs, hm⟩ := mrc_e ha
  refine m_caR (m_runV (As := [.int x1]) (r := some h0) (rest := []) X G I h_Mo_lab k_1033 (c_Mo_lab hv) mPr_blind (m_pre G I) hm rfl ha rfl rfl hl.1 (Nat.le_of_ble_eq_true rfl) rfl rfl ⟨Nat.le_of_ble_eq_true rfl, Nat.le_of_ble_eq_true rfl⟩ ⟨Nat.le_refl _, Nat.le_refl _⟩ d_Mo_passage_93) ?_
  refine lv_istore (i := 11) (lv' := [(11, .int q5), (10, .int s0), (0, va_rf (some h0)), (1, .int x1), (2, .int x2), (3, .int x3), (5, .long x5), (7, .long x7), (9, .int x9)]) hx hb d_Mo_passage_96 hl (by decide) rfl (fun ls hl => ?_)
  refine lv_iload hx hb d_Mo_passage_98 (lv_at hl 1 rfl) ?_
  refine lv_if_eq (tgt := 152) hx hb d_Mo_passage_100 (by decide) (fun hc => ?_) (fun hc => ?_)
  · have hf := mift hf hc
    exact w_Mo_passage_152 X G I hf (lv_sub hl [2, 4, 5, 0] rfl)
  · have hf := miff hf hc
    refine lv_iload hx hb d_Mo_passage_103 (lv_at hl 0 rfl) ?_
    refine lv_if_eq (tgt := 117) hx hb d_Mo_passage_105 (by decide) (fun hc => ?_) (fun hc => ?_)
    · have hf := mift hf hc
      exact w_Mo_passage_117 X G I hf (lv_sub hl [2, 3, 4, 5, 6, 7, 8] rfl)
    · have hf := miff hf hc
      refine r_aload_n X d_Mo_passage_108 rfl (lv_at hl 2 rfl) ?_
      refine lv_bipush (v := 6) hx hb d_Mo_passage_109 (by decide) ?_
      refine lv_iload_n hx hb d_Mo_passage_111 rfl (lv_at hl 3 rfl) ?_
      refine lv_iconst (v := 0) hx hb d_Mo_passage_112 (by decide) ?_
      refine lv_iconst (v := 0) hx hb d_Mo_passage_113 (by decide) ?_
      obtain ⟨q6, hv, hf⟩ := mbind hf
      obtain ⟨a, ha, hv⟩ := mbind hv
      obtain ⟨ha, fs, hm⟩ := mrc_e ha
      refine m_caWv (m_runV (As := [.int (6 : Int32), .int x1, .int (0 : Int32), .int (0 : Int32)]) (r := some h0) (rest := []) X G I h_Mo_put k_1076 (c_Mo_put hv) mPr_blind (m_pre G I) hm rfl ha rfl rfl hl.1 (Nat.le_of_ble_eq_true rfl) rfl rfl ⟨Nat.le_of_ble_eq_true rfl, Nat.le_of_ble_eq_true rfl⟩ ⟨Nat.le_refl _, Nat.le_refl _⟩ d_Mo_passage_114) I (fun H locs I => ?_)
      exact w_Mo_passage_117 X G I hf (lv_sub hl [2, 3, 4, 5, 6, 7, 8] rfl)

set_option maxHeartbeats 4000000 in
set_option maxRecDepth 100000 in
theorem w_Mo_passage_78 {h0 : Nat} {r : mM} (X : mX p m meth c s args b_Mo_passage 12 none "ColourLinkerModel") (G : mG D cA dA z0 s) {H : Heap} {locs : List Loc} {μ : mM} {ls : Array Slot} {x1 : Int32} {x2 : Int32} {x3 : Int32} {x5 : Int64} {x7 : Int64} {x9 : Int32} (I : mI D cA z0 s μ H locs s.heap.size) (hf : f_Mo_passage_78 h0 μ x1 x2 x3 x5 x7 x9 = some r) (hl : lv_has ls 12 [(0, va_rf (some h0)), (1, .int x1), (2, .int x2), (3, .int x3), (5, .long x5), (7, .long x7), (9, .int x9)]) : W p l e rm_Mo_passage s m args below meth c H locs 0 0 (MQ below (mQW D cA z0 none r) args s 0 0 (mA z0)) (F0 m 78 ls []) := by
  have hx := X.ex
  have hb := X.by_
  unfold f_Mo_passage_78 at hf
  refine lv_iconst (v := 1) hx hb d_Mo_passage_78 (by decide) ?_
  refine lv_goto (tgt := 83) hx hb d_Mo_passage_79 (by decide) ?_
  exact w_Mo_passage_83 X G I hf hl

set_option maxHeartbeats 4000000 in
set_option maxRecDepth 100000 in
theorem w_Mo_passage_63 {h0 : Nat} {r : mM} (X : mX p m meth c s args b_Mo_passage 12 none "ColourLinkerModel") (G : mG D cA dA z0 s) {H : Heap} {locs : List Loc} {μ : mM} {ls : Array Slot} {x1 : Int32} {x2 : Int32} {x3 : Int32} {x5 : Int64} {x7 : Int64} {s0 : Int32} (I : mI D cA z0 s μ H locs s.heap.size) (hf : f_Mo_passage_63 h0 μ x1 x2 x3 x5 x7 s0 = some r) (hl : lv_has ls 12 [(0, va_rf (some h0)), (1, .int x1), (2, .int x2), (3, .int x3), (5, .long x5), (7, .long x7)]) : W p l e rm_Mo_passage s m args below meth c H locs 0 0 (MQ below (mQW D cA z0 none r) args s 0 0 (mA z0)) (F0 m 63 ls [.int s0]) := by
  have hx := X.ex
  have hb := X.by_
  unfold f_Mo_passage_63 at hf
  refine lv_istore (i := 9) (lv' := [(9, .int s0), (0, va_rf (some h0)), (1, .int x1), (2, .int x2), (3, .int x3), (5, .long x5), (7, .long x7)]) hx hb d_Mo_passage_63 hl (by decide) rfl (fun ls hl => ?_)
  refine lv_iload hx hb d_Mo_passage_65 (lv_at hl 0 rfl) ?_
  refine lv_if_ne (tgt := 78) hx hb d_Mo_passage_67 (by decide) (fun hc => ?_) (fun hc => ?_)
  · have hf := miff hf hc
    exact w_Mo_passage_78 X G I hf (lv_sub hl [1, 2, 3, 4, 5, 6, 0] rfl)
  · have hf := mift hf hc
    refine lv_lload hx hb d_Mo_passage_70 (lv_at hl 5 rfl) ?_
    refine lv_lload hx hb d_Mo_passage_72 (lv_at hl 6 rfl) ?_
    refine r_lceq (tgt := 82) X d_Mo_passage_74 d_Mo_passage_75 (by decide) (fun hc => ?_) (fun hc => ?_)
    · have hf := mift hf hc
      refine lv_iconst (v := 0) hx hb d_Mo_passage_82 (by decide) ?_
      exact w_Mo_passage_83 X G I hf (lv_sub hl [1, 2, 3, 4, 5, 6, 0] rfl)
    · have hf := miff hf hc
      exact w_Mo_passage_78 X G I hf (lv_sub hl [1, 2, 3, 4, 5, 6, 0] rfl)

set_option maxHeartbeats 4000000 in
set_option maxRecDepth 100000 in
theorem w_Mo_passage_62 {h0 : Nat} {r : mM} (X : mX p m meth c s args b_Mo_passage 12 none "ColourLinkerModel") (G : mG D cA dA z0 s) {H : Heap} {locs : List Loc} {μ : mM} {ls : Array Slot} {x1 : Int32} {x2 : Int32} {x3 : Int32} {x5 : Int64} {x7 : Int64} (I : mI D cA z0 s μ H locs s.heap.size) (hf : f_Mo_passage_62 h0 μ x1 x2 x3 x5 x7 = some r) (hl : lv_has ls 12 [(0, va_rf (some h0)), (1, .int x1), (2, .int x2), (3, .int x3), (5, .long x5), (7, .long x7)]) : W p l e rm_Mo_passage s m args below meth c H locs 0 0 (MQ below (mQW D cA z0 none r) args s 0 0 (mA z0)) (F0 m 62 ls []) := by
  have hx := X.ex
  have hb := X.by_
  unfold f_Mo_passage_62 at hf
  refine lv_iconst (v := 0) hx hb d_Mo_passage_62 (by decide) ?_
  exact w_Mo_passage_63 X G I hf hl

set_option maxHeartbeats 4000000 in
set_option maxRecDepth 100000 in
theorem w_Mo_passage_42 {h0 : Nat} {r : mM} (X : mX p m meth c s args b_Mo_passage 12 none "ColourLinkerModel") (G : mG D cA dA z0 s) {H : Heap} {locs : List Loc} {μ : mM} {ls : Array Slot} {x1 : Int32} {x2 : Int32} {x3 : Int32} {x5 : Int64} {s0 : Int64} (I : mI D cA z0 s μ H locs s.heap.size) (hf : f_Mo_passage_42 h0 μ x1 x2 x3 x5 s0 = some r) (hl : lv_has ls 12 [(0, va_rf (some h0)), (1, .int x1), (2, .int x2), (3, .int x3), (5, .long x5)]) : W p l e rm_Mo_passage s m args below meth c H locs 0 0 (MQ below (mQW D cA z0 none r) args s 0 0 (mA z0)) (F0 m 42 ls [.long s0]) := by
  have hx := X.ex
  have hb := X.by_
  unfold f_Mo_passage_42 at hf
  refine lv_lstore (i := 7) (lv' := [(7, .long s0), (0, va_rf (some h0)), (1, .int x1), (2, .int x2), (3, .int x3), (5, .long x5)]) hx hb d_Mo_passage_42 hl (by decide) rfl (fun ls hl => ?_)
  refine lv_iload_n hx hb d_Mo_passage_44 rfl (lv_at hl 4 rfl) ?_
  refine lv_iconst (v := 3) hx hb d_Mo_passage_45 (by decide) ?_
  refine lv_icmp_ne (tgt := 62) hx hb d_Mo_passage_46 (by decide) (fun hc => ?_) (fun hc => ?_)
  · have hf := miff hf hc
    exact w_Mo_passage_62 X G I hf (lv_sub hl [1, 2, 3, 4, 5, 0] rfl)
  · have hf := mift hf hc
    refine r_aload_n X d_Mo_passage_49 rfl (lv_at hl 1 rfl) ?_
    refine lv_iload_n hx hb d_Mo_passage_50 rfl (lv_at hl 2 rfl) ?_
    refine lv_iload_n hx hb d_Mo_passage_51 rfl (lv_at hl 3 rfl) ?_
    obtain ⟨q3, hv, hf⟩ := mbind hf
    obtain ⟨a, ha, hv⟩ := mbind hv
    obtain ⟨ha, fs, hm⟩ := mrc_e ha
    refine m_caR (m_runV (As := [.int x1, .int x2]) (r := some h0) (rest := []) X G I h_Mo_otherWhite k_1048 (c_Mo_otherWhite hv) mPr_blind (m_pre G I) hm rfl ha rfl rfl hl.1 (Nat.le_of_ble_eq_true rfl) rfl rfl ⟨Nat.le_of_ble_eq_true rfl, Nat.le_of_ble_eq_true rfl⟩ ⟨Nat.le_refl _, Nat.le_refl _⟩ d_Mo_passage_52) ?_
    refine lv_if_eq (tgt := 62) hx hb d_Mo_passage_55 (by decide) (fun hc => ?_) (fun hc => ?_)
    · have hf := mift hf hc
      exact w_Mo_passage_62 X G I hf (lv_sub hl [1, 2, 3, 4, 5, 0] rfl)
    · have hf := miff hf hc
      refine lv_iconst (v := 1) hx hb d_Mo_passage_58 (by decide) ?_
      refine lv_goto (tgt := 63) hx hb d_Mo_passage_59 (by decide) ?_
      exact w_Mo_passage_63 X G I hf (lv_sub hl [1, 2, 3, 4, 5, 0] rfl)

set_option maxHeartbeats 4000000 in
set_option maxRecDepth 100000 in
theorem w_Mo_passage_41 {h0 : Nat} {r : mM} (X : mX p m meth c s args b_Mo_passage 12 none "ColourLinkerModel") (G : mG D cA dA z0 s) {H : Heap} {locs : List Loc} {μ : mM} {ls : Array Slot} {x1 : Int32} {x2 : Int32} {x3 : Int32} {x5 : Int64} (I : mI D cA z0 s μ H locs s.heap.size) (hf : f_Mo_passage_41 h0 μ x1 x2 x3 x5 = some r) (hl : lv_has ls 12 [(0, va_rf (some h0)), (1, .int x1), (2, .int x2), (3, .int x3), (5, .long x5)]) : W p l e rm_Mo_passage s m args below meth c H locs 0 0 (MQ below (mQW D cA z0 none r) args s 0 0 (mA z0)) (F0 m 41 ls []) := by
  have hx := X.ex
  have hb := X.by_
  unfold f_Mo_passage_41 at hf
  refine lv_lconst (v := 0) hx hb d_Mo_passage_41 (by decide) ?_
  exact w_Mo_passage_42 X G I hf hl

set_option maxHeartbeats 4000000 in
set_option maxRecDepth 100000 in
theorem w_Mo_passage_20 {h0 : Nat} {r : mM} (X : mX p m meth c s args b_Mo_passage 12 none "ColourLinkerModel") (G : mG D cA dA z0 s) {H : Heap} {locs : List Loc} {μ : mM} {ls : Array Slot} {x1 : Int32} {x2 : Int32} {x3 : Int32} {x4 : Int32} {s0 : Int64} (I : mI D cA z0 s μ H locs s.heap.size) (hf : f_Mo_passage_20 h0 μ x1 x2 x3 x4 s0 = some r) (hl : lv_has ls 12 [(0, va_rf (some h0)), (1, .int x1), (2, .int x2), (3, .int x3), (4, .int x4)]) : W p l e rm_Mo_passage s m args below meth c H locs 0 0 (MQ below (mQW D cA z0 none r) args s 0 0 (mA z0)) (F0 m 20 ls [.long s0]) := by
  have hx := X.ex
  have hb := X.by_
  unfold f_Mo_passage_20 at hf
  refine lv_lstore (i := 5) (lv' := [(5, .long s0), (0, va_rf (some h0)), (1, .int x1), (2, .int x2), (3, .int x3), (4, .int x4)]) hx hb d_Mo_passage_20 hl (by decide) rfl (fun ls hl => ?_)
  refine lv_iload hx hb d_Mo_passage_22 (lv_at hl 5 rfl) ?_
  refine lv_if_eq (tgt := 41) hx hb d_Mo_passage_24 (by decide) (fun hc => ?_) (fun hc => ?_)
  · have hf := mift hf hc
    exact w_Mo_passage_41 X G I hf (lv_sub hl [1, 2, 3, 4, 0] rfl)
  · have hf := miff hf hc
    refine lv_iload_n hx hb d_Mo_passage_27 rfl (lv_at hl 4 rfl) ?_
    refine lv_iconst (v := 3) hx hb d_Mo_passage_28 (by decide) ?_
    refine lv_icmp_ge (tgt := 41) hx hb d_Mo_passage_29 (by decide) (fun hc => ?_) (fun hc => ?_)
    · have hf := mift hf hc
      exact w_Mo_passage_41 X G I hf (lv_sub hl [1, 2, 3, 4, 0] rfl)
    · have hf := miff hf hc
      refine r_aload_n X d_Mo_passage_32 rfl (lv_at hl 1 rfl) ?_
      refine lv_iload_n hx hb d_Mo_passage_33 rfl (lv_at hl 3 rfl) ?_
      refine lv_iload_n hx hb d_Mo_passage_34 rfl (lv_at hl 4 rfl) ?_
      obtain ⟨q2, hv, hf⟩ := mbind hf
      obtain ⟨a, ha, hv⟩ := mbind hv
      obtain ⟨ha, fs, hm⟩ := mrc_e ha
      refine m_caW (m_runV (As := [.int x2, .int x3]) (r := some h0) (rest := []) X G I h_Mo_blackLevel k_1060 (c_Mo_blackLevel hv) mPr_blind (m_pre G I) hm rfl ha rfl rfl hl.1 (Nat.le_of_ble_eq_true rfl) rfl rfl ⟨Nat.le_of_ble_eq_true rfl, Nat.le_of_ble_eq_true rfl⟩ ⟨Nat.le_refl _, Nat.le_refl _⟩ d_Mo_passage_35) I (fun H locs I => ?_)
      refine lv_goto (tgt := 42) hx hb d_Mo_passage_38 (by decide) ?_
      exact w_Mo_passage_42 X G I hf (lv_sub hl [1, 2, 3, 4, 0] rfl)

set_option maxHeartbeats 4000000 in
set_option maxRecDepth 100000 in
theorem w_Mo_passage_19 {h0 : Nat} {r : mM} (X : mX p m meth c s args b_Mo_passage 12 none "ColourLinkerModel") (G : mG D cA dA z0 s) {H : Heap} {locs : List Loc} {μ : mM} {ls : Array Slot} {x1 : Int32} {x2 : Int32} {x3 : Int32} {x4 : Int32} (I : mI D cA z0 s μ H locs s.heap.size) (hf : f_Mo_passage_19 h0 μ x1 x2 x3 x4 = some r) (hl : lv_has ls 12 [(0, va_rf (some h0)), (1, .int x1), (2, .int x2), (3, .int x3), (4, .int x4)]) : W p l e rm_Mo_passage s m args below meth c H locs 0 0 (MQ below (mQW D cA z0 none r) args s 0 0 (mA z0)) (F0 m 19 ls []) := by
  have hx := X.ex
  have hb := X.by_
  unfold f_Mo_passage_19 at hf
  refine lv_lconst (v := 0) hx hb d_Mo_passage_19 (by decide) ?_
  exact w_Mo_passage_20 X G I hf hl

set_option maxHeartbeats 4000000 in
set_option maxRecDepth 100000 in
theorem w_Mo_passage {h0 : Nat} {r : mM} (X : mX p m meth c s args b_Mo_passage 12 none "ColourLinkerModel") (G : mG D cA dA z0 s) {H : Heap} {locs : List Loc} {μ : mM} {ls : Array Slot} {x1 : Int32} {x2 : Int32} {x3 : Int32} {x4 : Int32} (I : mI D cA z0 s μ H locs s.heap.size) (hf : f_Mo_passage h0 μ x1 x2 x3 x4 = some r) (hl : lv_has ls 12 [(0, va_rf (some h0)), (1, .int x1), (2, .int x2), (3, .int x3), (4, .int x4)]) : W p l e rm_Mo_passage s m args below meth c H locs 0 0 (MQ below (mQW D cA z0 none r) args s 0 0 (mA z0)) (F0 m 0 ls []) := by
  have hx := X.ex
  have hb := X.by_
  unfold f_Mo_passage at hf
  refine lv_iload hx hb d_Mo_passage_0 (lv_at hl 4 rfl) ?_
  refine lv_if_eq (tgt := 19) hx hb d_Mo_passage_2 (by decide) (fun hc => ?_) (fun hc => ?_)
  · have hf := mift hf hc
    exact w_Mo_passage_19 X G I hf hl
  · have hf := miff hf hc
    refine lv_iload_n hx hb d_Mo_passage_5 rfl (lv_at hl 3 rfl) ?_
    refine lv_iconst (v := 3) hx hb d_Mo_passage_6 (by decide) ?_
    refine lv_icmp_ge (tgt := 19) hx hb d_Mo_passage_7 (by decide) (fun hc => ?_) (fun hc => ?_)
    · have hf := mift hf hc
      exact w_Mo_passage_19 X G I hf hl
    · have hf := miff hf hc
      refine r_aload_n X d_Mo_passage_10 rfl (lv_at hl 0 rfl) ?_
      refine lv_iload_n hx hb d_Mo_passage_11 rfl (lv_at hl 1 rfl) ?_
      refine lv_iload_n hx hb d_Mo_passage_12 rfl (lv_at hl 3 rfl) ?_
      obtain ⟨q1, hv, hf⟩ := mbind hf
      obtain ⟨a, ha, hv⟩ := mbind hv
      obtain ⟨ha, fs, hm⟩ := mrc_e ha
      refine m_caW (m_runV (As := [.int x1, .int x3]) (r := some h0) (rest := []) X G I h_Mo_blackLevel k_1060 (c_Mo_blackLevel hv) mPr_blind (m_pre G I) hm rfl ha rfl rfl hl.1 (Nat.le_of_ble_eq_true rfl) rfl rfl ⟨Nat.le_of_ble_eq_true rfl, Nat.le_of_ble_eq_true rfl⟩ ⟨Nat.le_refl _, Nat.le_refl _⟩ d_Mo_passage_13) I (fun H locs I => ?_)
      refine lv_goto (tgt := 20) hx hb d_Mo_passage_16 (by decide) ?_
      exact w_Mo_passage_20 X G I hf hl

set_option maxHeartbeats 4000000 in
set_option maxRecDepth 100000 in
theorem c_Mo_passage {l : Launch} {D : va_G} {cA : Nat → ClassId} {dA z0 : Nat} {μ : mM} {h0 : Nat} {x1 : Int32} {x2 : Int32} {x3 : Int32} {x4 : Int32} {r : mM} (hf : f_Mo_passage h0 μ x1 x2 x3 x4 = some r) : Met l y_Mo_passage (mW y_Mo_passage b_Mo_passage 12 none) rm_Mo_passage (va_Pc [.ref h0, .int x1, .int x2, .int x3, .int x4] (mPr D cA dA z0 μ)) (mQW D cA z0 none r) 0 0 (mA z0) := by
  refine Met.ofW (cc := b_Mo_passage) (maxL := 12) (ret := none) (by decide) rfl ?_
  intro p e s m args below meth c s₁ B hml hv
  obtain ⟨rfl, G, hP⟩ := hv
  have X := mX.of B hml
  exact m_entry (lv := [(0, va_rf (some h0)), (1, .int x1), (2, .int x2), (3, .int x3), (4, .int x4)]) (Nat.le_of_ble_eq_true rfl) rfl (fun ls hl => w_Mo_passage X G (mI.start hP) hf hl)

abbrev rm_Mo_lay : Room := { frames := 9, cells := 0, slots := 0, locals := 235 }
theorem h_Mo_lay : mCV y_Mo_lay b_Mo_lay 4 none 1 := ⟨k_1153, k_79, ⟨by decide, by decide, by decide +kernel⟩, k_1152, k_66⟩
set_option maxHeartbeats 4000000 in
set_option maxRecDepth 100000 in
theorem w_Mo_lay_95 {h0 : Nat} {r : mM} (X : mX p m meth c s args b_Mo_lay 4 none "ColourLinkerModel") (G : mG D cA dA z0 s) {H : Heap} {locs : List Loc} {μ : mM} {ls : Array Slot}  (I : mI D cA z0 s μ H locs s.heap.size) (hf : f_Mo_lay_95 h0 μ = some r) (hl : lv_has ls 4 [(0, va_rf (some h0))]) : W p l e rm_Mo_lay s m args below meth c H locs 0 0 (MQ below (mQW D cA z0 none r) args s 0 0 (mA z0)) (F0 m 95 ls []) := by
  have hx := X.ex
  have hb := X.by_
  unfold f_Mo_lay_95 at hf
  obtain rfl := Option.some.inj hf
  exact r_vretW X I d_Mo_lay_95

set_option maxHeartbeats 4000000 in
set_option maxRecDepth 100000 in
theorem w_Mo_lay_37 {h0 : Nat} {r : mM} (X : mX p m meth c s args b_Mo_lay 4 none "ColourLinkerModel") (G : mG D cA dA z0 s) {kx95 : mM → Option (mM)} (hkx95 : ∀ (H : Heap) (locs : List Loc) (μ : mM) (ls : Array Slot), mI D cA z0 s μ H locs s.heap.size → kx95 μ = some r → lv_has ls 4 [(0, va_rf (some h0))] → W p l e rm_Mo_lay s m args below meth c H locs 0 0 (MQ below (mQW D cA z0 none r) args s 0 0 (mA z0)) (F0 m 95 ls [])) : ∀ (n : Nat) (H : Heap) (locs : List Loc) (μ : mM) (ls : Array Slot) (x3 : Int32), mI D cA z0 s μ H locs s.heap.size → f_Mo_lay_37 h0 kx95 n μ x3 = some r → lv_has ls 4 [(0, va_rf (some h0)), (3, .int x3)] → W p l e rm_Mo_lay s m args below meth c H locs 0 0 (MQ below (mQW D cA z0 none r) args s 0 0 (mA z0)) (F0 m 37 ls []) := by
  have hx := X.ex
  have hb := X.by_
  intro n
  induction n with
  | zero => intro H locs μ ls x3 I hf hl; rw [f_Mo_lay_37] at hf; cases hf
  | succ n ih =>
    intro H locs μ ls x3 I hf hl
    rw [f_Mo_lay_37] at hf
    refine lv_iload_n hx hb d_Mo_lay_37 rfl (lv_at hl 1 rfl) ?_
    refine lv_if_lt (tgt := 95) hx hb d_Mo_lay_38 (by decide) (fun hc => ?_) (fun hc => ?_)
    · have hf := mift hf hc
      exact hkx95 _ _ _ _ I hf (lv_sub hl [0] rfl)
    · have hf := miff hf hc
      refine r_aload_n X d_Mo_lay_41 rfl (lv_at hl 0 rfl) ?_
      refine r_aload_n X d_Mo_lay_42 rfl (lv_at hl 0 rfl) ?_
      obtain ⟨v6, hv, hf⟩ := mbind hf
      refine r_getf X G I (mfA_e hv) o_Mo_source k_839 (Or.inl rfl) d_Mo_lay_43 ?_
      refine r_aload_n X d_Mo_lay_46 rfl (lv_at hl 0 rfl) ?_
      obtain ⟨v7, hv, hf⟩ := mbind hf
      refine r_getf X G I (mfA_e hv) o_Mo_line k_851 (Or.inl rfl) d_Mo_lay_47 ?_
      refine lv_iload_n hx hb d_Mo_lay_50 rfl (lv_at hl 1 rfl) ?_
      obtain ⟨v8, hv, hf⟩ := mbind hf
      refine r_iald X G I hv d_Mo_lay_51 ?_
      obtain ⟨v9, hv, hf⟩ := mbind hf
      refine r_iald X G I hv d_Mo_lay_52 ?_
      refine r_aload_n X d_Mo_lay_53 rfl (lv_at hl 0 rfl) ?_
      obtain ⟨v10, hv, hf⟩ := mbind hf
      refine r_getf X G I (mfA_e hv) o_Mo_target k_840 (Or.inl rfl) d_Mo_lay_54 ?_
      refine r_aload_n X d_Mo_lay_57 rfl (lv_at hl 0 rfl) ?_
      obtain ⟨v11, hv, hf⟩ := mbind hf
      refine r_getf X G I (mfA_e hv) o_Mo_line k_851 (Or.inl rfl) d_Mo_lay_58 ?_
      refine lv_iload_n hx hb d_Mo_lay_61 rfl (lv_at hl 1 rfl) ?_
      obtain ⟨v12, hv, hf⟩ := mbind hf
      refine r_iald X G I hv d_Mo_lay_62 ?_
      obtain ⟨v13, hv, hf⟩ := mbind hf
      refine r_iald X G I hv d_Mo_lay_63 ?_
      refine r_aload_n X d_Mo_lay_64 rfl (lv_at hl 0 rfl) ?_
      obtain ⟨v14, hv, hf⟩ := mbind hf
      refine r_getf X G I (mfA_e hv) o_Mo_intents k_841 (Or.inl rfl) d_Mo_lay_65 ?_
      refine r_aload_n X d_Mo_lay_68 rfl (lv_at hl 0 rfl) ?_
      obtain ⟨v15, hv, hf⟩ := mbind hf
      refine r_getf X G I (mfA_e hv) o_Mo_line k_851 (Or.inl rfl) d_Mo_lay_69 ?_
      refine lv_iload_n hx hb d_Mo_lay_72 rfl (lv_at hl 1 rfl) ?_
      obtain ⟨v16, hv, hf⟩ := mbind hf
      refine r_iald X G I hv d_Mo_lay_73 ?_
      obtain ⟨v17, hv, hf⟩ := mbind hf
      refine r_iald X G I hv d_Mo_lay_74 ?_
      refine r_aload_n X d_Mo_lay_75 rfl (lv_at hl 0 rfl) ?_
      obtain ⟨v18, hv, hf⟩ := mbind hf
      refine r_getf X G I (mfA_e hv) o_Mo_blacks k_842 (Or.inl rfl) d_Mo_lay_76 ?_
      refine r_aload_n X d_Mo_lay_79 rfl (lv_at hl 0 rfl) ?_
      obtain ⟨v19, hv, hf⟩ := mbind hf
      refine r_getf X G I (mfA_e hv) o_Mo_line k_851 (Or.inl rfl) d_Mo_lay_80 ?_
      refine lv_iload_n hx hb d_Mo_lay_83 rfl (lv_at hl 1 rfl) ?_
      obtain ⟨v20, hv, hf⟩ := mbind hf
      refine r_iald X G I hv d_Mo_lay_84 ?_
      obtain ⟨v21, hv, hf⟩ := mbind hf
      refine r_zald X G I hv d_Mo_lay_85 ?_
      obtain ⟨q22, hv, hf⟩ := mbind hf
      obtain ⟨a, ha, hv⟩ := mbind hv
      obtain ⟨ha, fs, hm⟩ := mrc_e ha
      refine m_caWv (m_runV (As := [.int v9, .int v13, .int v17, .int v21]) (r := some h0) (rest := []) X G I h_Mo_passage k_1154 (c_Mo_passage hv) mPr_blind (m_pre G I) hm rfl ha rfl rfl hl.1 (Nat.le_of_ble_eq_true rfl) rfl rfl ⟨Nat.le_of_ble_eq_true rfl, Nat.le_of_ble_eq_true rfl⟩ ⟨Nat.le_refl _, Nat.le_refl _⟩ d_Mo_lay_86) I (fun H locs I => ?_)
      refine lv_iinc (i := 3) (k := 1) (v := (x3 + (-1 : Int32))) (lv' := [(3, .int (x3 + (-1 : Int32))), (0, va_rf (some h0))]) hx hb d_Mo_lay_89 hl rfl (congrArg (fun t => x3 + t) (by decide : Int32.ofInt (-1) = (-1 : Int32))) (by decide) rfl (fun ls hl => ?_)
      refine lv_goto (tgt := 37) hx hb d_Mo_lay_92 (by decide) ?_
      exact ih _ _ _ _ _ I hf (lv_sub hl [1, 0] rfl)

set_option maxHeartbeats 4000000 in
set_option maxRecDepth 100000 in
theorem w_Mo_lay_28 {h0 : Nat} {r : mM} (X : mX p m meth c s args b_Mo_lay 4 none "ColourLinkerModel") (G : mG D cA dA z0 s) {H : Heap} {locs : List Loc} {μ : mM} {ls : Array Slot} {x2 : Int32} (I : mI D cA z0 s μ H locs s.heap.size) (hf : f_Mo_lay_28 h0 μ x2 = some r) (hl : lv_has ls 4 [(0, va_rf (some h0)), (2, .int x2)]) : W p l e rm_Mo_lay s m args below meth c H locs 0 0 (MQ below (mQW D cA z0 none r) args s 0 0 (mA z0)) (F0 m 28 ls []) := by
  have hx := X.ex
  have hb := X.by_
  unfold f_Mo_lay_28 at hf
  refine r_aload_n X d_Mo_lay_28 rfl (lv_at hl 0 rfl) ?_
  refine lv_iconst (v := 0) hx hb d_Mo_lay_29 (by decide) ?_
  obtain ⟨m5, hv, hf⟩ := mbind hf
  refine r_put (ty := .int) X G I hv o_Mo_row k_850 (Or.inl rfl) (by decide) rfl rfl d_Mo_lay_30 (fun H locs I => ?_)
  refine lv_iload_n hx hb d_Mo_lay_33 rfl (lv_at hl 1 rfl) ?_
  refine lv_iconst (v := 1) hx hb d_Mo_lay_34 (by decide) ?_
  refine lv_isub hx hb d_Mo_lay_35 ?_
  refine lv_istore_n (i := 3) (lv' := [(3, .int (x2 - (1 : Int32))), (0, va_rf (some h0)), (2, .int x2)]) hx hb d_Mo_lay_36 rfl hl (by decide) rfl (fun ls hl => ?_)
  exact w_Mo_lay_37 X G (fun H locs μ ls I hf hl => w_Mo_lay_95 X G I hf hl) 4096 _ _ _ _ _ I hf (lv_sub hl [1, 0] rfl)

set_option maxHeartbeats 4000000 in
set_option maxRecDepth 100000 in
theorem w_Mo_lay_4 {h0 : Nat} {r : mM} (X : mX p m meth c s args b_Mo_lay 4 none "ColourLinkerModel") (G : mG D cA dA z0 s) {kx28 : mM → Int32 → Option (mM)} (hkx28 : ∀ (H : Heap) (locs : List Loc) (μ : mM) (ls : Array Slot) (x2 : Int32), mI D cA z0 s μ H locs s.heap.size → kx28 μ x2 = some r → lv_has ls 4 [(0, va_rf (some h0)), (2, .int x2)] → W p l e rm_Mo_lay s m args below meth c H locs 0 0 (MQ below (mQW D cA z0 none r) args s 0 0 (mA z0)) (F0 m 28 ls [])) : ∀ (n : Nat) (H : Heap) (locs : List Loc) (μ : mM) (ls : Array Slot) (x2 : Int32) (x3 : Int32), mI D cA z0 s μ H locs s.heap.size → f_Mo_lay_4 h0 kx28 n μ x2 x3 = some r → lv_has ls 4 [(0, va_rf (some h0)), (2, .int x2), (3, .int x3)] → W p l e rm_Mo_lay s m args below meth c H locs 0 0 (MQ below (mQW D cA z0 none r) args s 0 0 (mA z0)) (F0 m 4 ls []) := by
  have hx := X.ex
  have hb := X.by_
  intro n
  induction n with
  | zero => intro H locs μ ls x2 x3 I hf hl; rw [f_Mo_lay_4] at hf; cases hf
  | succ n ih =>
    intro H locs μ ls x2 x3 I hf hl
    rw [f_Mo_lay_4] at hf
    refine lv_iload_n hx hb d_Mo_lay_4 rfl (lv_at hl 2 rfl) ?_
    refine lv_if_lt (tgt := 28) hx hb d_Mo_lay_5 (by decide) (fun hc => ?_) (fun hc => ?_)
    · have hf := mift hf hc
      exact hkx28 _ _ _ _ _ I hf (lv_sub hl [0, 1] rfl)
    · have hf := miff hf hc
      refine r_aload_n X d_Mo_lay_8 rfl (lv_at hl 0 rfl) ?_
      obtain ⟨v1, hv, hf⟩ := mbind hf
      refine r_getf X G I (mfA_e hv) o_Mo_line k_851 (Or.inl rfl) d_Mo_lay_9 ?_
      refine lv_iload_n hx hb d_Mo_lay_12 rfl (lv_at hl 1 rfl) ?_
      refine lv_iload_n hx hb d_Mo_lay_13 rfl (lv_at hl 2 rfl) ?_
      obtain ⟨m2, hv, hf⟩ := mbind hf
      refine r_iast X G I hv d_Mo_lay_14 (fun H locs I => ?_)
      refine lv_iinc (i := 2) (k := 1) (v := (x2 + (1 : Int32))) (lv' := [(2, .int (x2 + (1 : Int32))), (0, va_rf (some h0)), (3, .int x3)]) hx hb d_Mo_lay_15 hl rfl (congrArg (fun t => x2 + t) (by decide : Int32.ofInt (1) = (1 : Int32))) (by decide) rfl (fun ls hl => ?_)
      refine r_aload_n X d_Mo_lay_18 rfl (lv_at hl 1 rfl) ?_
      obtain ⟨v3, hv, hf⟩ := mbind hf
      refine r_getf X G I (mfA_e hv) o_Mo_parent k_838 (Or.inl rfl) d_Mo_lay_19 ?_
      refine lv_iload_n hx hb d_Mo_lay_22 rfl (lv_at hl 2 rfl) ?_
      obtain ⟨v4, hv, hf⟩ := mbind hf
      refine r_iald X G I hv d_Mo_lay_23 ?_
      refine lv_istore_n (i := 3) (lv' := [(3, .int v4), (2, .int (x2 + (1 : Int32))), (0, va_rf (some h0))]) hx hb d_Mo_lay_24 rfl hl (by decide) rfl (fun ls hl => ?_)
      refine lv_goto (tgt := 4) hx hb d_Mo_lay_25 (by decide) ?_
      exact ih _ _ _ _ _ _ I hf (lv_sub hl [2, 1, 0] rfl)

set_option maxHeartbeats 4000000 in
set_option maxRecDepth 100000 in
theorem w_Mo_lay {h0 : Nat} {r : mM} (X : mX p m meth c s args b_Mo_lay 4 none "ColourLinkerModel") (G : mG D cA dA z0 s) {H : Heap} {locs : List Loc} {μ : mM} {ls : Array Slot} {x1 : Int32} (I : mI D cA z0 s μ H locs s.heap.size) (hf : f_Mo_lay h0 μ x1 = some r) (hl : lv_has ls 4 [(0, va_rf (some h0)), (1, .int x1)]) : W p l e rm_Mo_lay s m args below meth c H locs 0 0 (MQ below (mQW D cA z0 none r) args s 0 0 (mA z0)) (F0 m 0 ls []) := by
  have hx := X.ex
  have hb := X.by_
  unfold f_Mo_lay at hf
  refine lv_iconst (v := 0) hx hb d_Mo_lay_0 (by decide) ?_
  refine lv_istore_n (i := 2) (lv' := [(2, .int (0 : Int32)), (0, va_rf (some h0)), (1, .int x1)]) hx hb d_Mo_lay_1 rfl hl (by decide) rfl (fun ls hl => ?_)
  refine lv_iload_n hx hb d_Mo_lay_2 rfl (lv_at hl 2 rfl) ?_
  refine lv_istore_n (i := 3) (lv' := [(3, .int x1), (2, .int (0 : Int32)), (0, va_rf (some h0)), (1, .int x1)]) hx hb d_Mo_lay_3 rfl hl (by decide) rfl (fun ls hl => ?_)
  exact w_Mo_lay_4 X G (fun H locs μ ls x2 I hf hl => w_Mo_lay_28 X G I hf hl) 4096 _ _ _ _ _ _ I hf (lv_sub hl [2, 1, 0] rfl)

set_option maxHeartbeats 4000000 in
set_option maxRecDepth 100000 in
theorem c_Mo_lay {l : Launch} {D : va_G} {cA : Nat → ClassId} {dA z0 : Nat} {μ : mM} {h0 : Nat} {x1 : Int32} {r : mM} (hf : f_Mo_lay h0 μ x1 = some r) : Met l y_Mo_lay (mW y_Mo_lay b_Mo_lay 4 none) rm_Mo_lay (va_Pc [.ref h0, .int x1] (mPr D cA dA z0 μ)) (mQW D cA z0 none r) 0 0 (mA z0) := by
  refine Met.ofW (cc := b_Mo_lay) (maxL := 4) (ret := none) (by decide) rfl ?_
  intro p e s m args below meth c s₁ B hml hv
  obtain ⟨rfl, G, hP⟩ := hv
  have X := mX.of B hml
  exact m_entry (lv := [(0, va_rf (some h0)), (1, .int x1)]) (Nat.le_of_ble_eq_true rfl) rfl (fun ls hl => w_Mo_lay X G (mI.start hP) hf hl)

abbrev rm_Mo_make : Room := { frames := 10, cells := 0, slots := 0, locals := 258 }
theorem h_Mo_make : mCV y_Mo_make b_Mo_make 10 (some .int) 5 := ⟨k_1016, k_79, ⟨by decide, by decide, by decide +kernel⟩, k_1015, k_40⟩
set_option maxHeartbeats 4000000 in
set_option maxRecDepth 100000 in
theorem w_Mo_make_128 {h0 : Nat} {r : Int32 × mM} (X : mX p m meth c s args b_Mo_make 10 (some .int) "ColourLinkerModel") (G : mG D cA dA z0 s) {H : Heap} {locs : List Loc} {μ : mM} {ls : Array Slot} {x1 : Int32} {x2 : Int32} {x3 : Int32} {x4 : Int32} {x6 : Int32} (I : mI D cA z0 s μ H locs s.heap.size) (hf : f_Mo_make_128 h0 μ x1 x2 x3 x4 x6 = some r) (hl : lv_has ls 10 [(0, va_rf (some h0)), (1, .int x1), (2, .int x2), (3, .int x3), (4, .int x4), (6, .int x6)]) : W p l e rm_Mo_make s m args below meth c H locs 0 0 (MQ below (mQW D cA z0 (some (.int r.1)) r.2) args s 0 0 (mA z0)) (F0 m 128 ls []) := by
  have hx := X.ex
  have hb := X.by_
  unfold f_Mo_make_128 at hf
  refine r_aload_n X d_Mo_make_128 rfl (lv_at hl 0 rfl) ?_
  refine lv_iload_n hx hb d_Mo_make_129 rfl (lv_at hl 1 rfl) ?_
  obtain ⟨q13, hv, hf⟩ := mbind hf
  obtain ⟨a, ha, hv⟩ := mbind hv
  obtain ⟨ha, fs, hm⟩ := mrc_e ha
  refine m_caWv (m_runV (As := [.int x1]) (r := some h0) (rest := []) X G I h_Mo_lay k_1150 (c_Mo_lay hv) mPr_blind (m_pre G I) hm rfl ha rfl rfl hl.1 (Nat.le_of_ble_eq_true rfl) rfl rfl ⟨Nat.le_of_ble_eq_true rfl, Nat.le_of_ble_eq_true rfl⟩ ⟨Nat.le_refl _, Nat.le_refl _⟩ d_Mo_make_130) I (fun H locs I => ?_)
  refine r_aload_n X d_Mo_make_133 rfl (lv_at hl 0 rfl) ?_
  refine lv_iload_n hx hb d_Mo_make_134 rfl (lv_at hl 2 rfl) ?_
  refine lv_iload_n hx hb d_Mo_make_135 rfl (lv_at hl 3 rfl) ?_
  refine lv_iload hx hb d_Mo_make_136 (lv_at hl 4 rfl) ?_
  refine lv_iload hx hb d_Mo_make_138 (lv_at hl 5 rfl) ?_
  obtain ⟨q14, hv, hf⟩ := mbind hf
  obtain ⟨a, ha, hv⟩ := mbind hv
  obtain ⟨ha, fs, hm⟩ := mrc_e ha
  refine m_caWv (m_runV (As := [.int x2, .int x3, .int x4, .int x6]) (r := some h0) (rest := []) X G I h_Mo_passage k_1154 (c_Mo_passage hv) mPr_blind (m_pre G I) hm rfl ha rfl rfl hl.1 (Nat.le_of_ble_eq_true rfl) rfl rfl ⟨Nat.le_of_ble_eq_true rfl, Nat.le_of_ble_eq_true rfl⟩ ⟨Nat.le_refl _, Nat.le_refl _⟩ d_Mo_make_140) I (fun H locs I => ?_)
  refine r_aload_n X d_Mo_make_143 rfl (lv_at hl 0 rfl) ?_
  obtain ⟨v15, hv, hf⟩ := mbind hf
  refine r_getf X G I (mfI_e hv) o_Mo_row k_850 (Or.inl rfl) d_Mo_make_144 ?_
  refine lv_bipush (v := 24) hx hb d_Mo_make_147 (by decide) ?_
  refine lv_icmp_le (tgt := 155) hx hb d_Mo_make_149 (by decide) (fun hc => ?_) (fun hc => ?_)
  · have hf := mift hf hc
    refine r_aload_n X d_Mo_make_155 rfl (lv_at hl 0 rfl) ?_
    obtain ⟨v16, hv, hf⟩ := mbind hf
    refine r_getf X G I (mfI_e hv) o_Mo_links k_844 (Or.inl rfl) d_Mo_make_156 ?_
    refine lv_bipush (v := 16) hx hb d_Mo_make_159 (by decide) ?_
    refine lv_icmp_ne (tgt := 167) hx hb d_Mo_make_161 (by decide) (fun hc => ?_) (fun hc => ?_)
    · have hf := miff hf hc
      refine r_aload_n X d_Mo_make_167 rfl (lv_at hl 0 rfl) ?_
      obtain ⟨v17, hv, hf⟩ := mbind hf
      refine r_getf X G I (mfA_e hv) o_Mo_parent k_838 (Or.inl rfl) d_Mo_make_168 ?_
      refine r_aload_n X d_Mo_make_171 rfl (lv_at hl 0 rfl) ?_
      obtain ⟨v18, hv, hf⟩ := mbind hf
      refine r_getf X G I (mfI_e hv) o_Mo_links k_844 (Or.inl rfl) d_Mo_make_172 ?_
      refine lv_iload_n hx hb d_Mo_make_175 rfl (lv_at hl 1 rfl) ?_
      obtain ⟨m19, hv, hf⟩ := mbind hf
      refine r_iast X G I hv d_Mo_make_176 (fun H locs I => ?_)
      refine r_aload_n X d_Mo_make_177 rfl (lv_at hl 0 rfl) ?_
      obtain ⟨v20, hv, hf⟩ := mbind hf
      refine r_getf X G I (mfA_e hv) o_Mo_source k_839 (Or.inl rfl) d_Mo_make_178 ?_
      refine r_aload_n X d_Mo_make_181 rfl (lv_at hl 0 rfl) ?_
      obtain ⟨v21, hv, hf⟩ := mbind hf
      refine r_getf X G I (mfI_e hv) o_Mo_links k_844 (Or.inl rfl) d_Mo_make_182 ?_
      refine lv_iload_n hx hb d_Mo_make_185 rfl (lv_at hl 2 rfl) ?_
      obtain ⟨m22, hv, hf⟩ := mbind hf
      refine r_iast X G I hv d_Mo_make_186 (fun H locs I => ?_)
      refine r_aload_n X d_Mo_make_187 rfl (lv_at hl 0 rfl) ?_
      obtain ⟨v23, hv, hf⟩ := mbind hf
      refine r_getf X G I (mfA_e hv) o_Mo_target k_840 (Or.inl rfl) d_Mo_make_188 ?_
      refine r_aload_n X d_Mo_make_191 rfl (lv_at hl 0 rfl) ?_
      obtain ⟨v24, hv, hf⟩ := mbind hf
      refine r_getf X G I (mfI_e hv) o_Mo_links k_844 (Or.inl rfl) d_Mo_make_192 ?_
      refine lv_iload_n hx hb d_Mo_make_195 rfl (lv_at hl 3 rfl) ?_
      obtain ⟨m25, hv, hf⟩ := mbind hf
      refine r_iast X G I hv d_Mo_make_196 (fun H locs I => ?_)
      refine r_aload_n X d_Mo_make_197 rfl (lv_at hl 0 rfl) ?_
      obtain ⟨v26, hv, hf⟩ := mbind hf
      refine r_getf X G I (mfA_e hv) o_Mo_intents k_841 (Or.inl rfl) d_Mo_make_198 ?_
      refine r_aload_n X d_Mo_make_201 rfl (lv_at hl 0 rfl) ?_
      obtain ⟨v27, hv, hf⟩ := mbind hf
      refine r_getf X G I (mfI_e hv) o_Mo_links k_844 (Or.inl rfl) d_Mo_make_202 ?_
      refine lv_iload hx hb d_Mo_make_205 (lv_at hl 4 rfl) ?_
      obtain ⟨m28, hv, hf⟩ := mbind hf
      refine r_iast X G I hv d_Mo_make_207 (fun H locs I => ?_)
      refine r_aload_n X d_Mo_make_208 rfl (lv_at hl 0 rfl) ?_
      obtain ⟨v29, hv, hf⟩ := mbind hf
      refine r_getf X G I (mfA_e hv) o_Mo_blacks k_842 (Or.inl rfl) d_Mo_make_209 ?_
      refine r_aload_n X d_Mo_make_212 rfl (lv_at hl 0 rfl) ?_
      obtain ⟨v30, hv, hf⟩ := mbind hf
      refine r_getf X G I (mfI_e hv) o_Mo_links k_844 (Or.inl rfl) d_Mo_make_213 ?_
      refine lv_iload hx hb d_Mo_make_216 (lv_at hl 5 rfl) ?_
      obtain ⟨m31, hv, hf⟩ := mbind hf
      refine r_zast X G I hv d_Mo_make_218 (fun H locs I => ?_)
      refine r_aload_n X d_Mo_make_219 rfl (lv_at hl 0 rfl) ?_
      obtain ⟨v32, hv, hf⟩ := mbind hf
      refine r_getf X G I (mfA_e hv) o_Mo_latest k_843 (Or.inl rfl) d_Mo_make_220 ?_
      refine r_aload_n X d_Mo_make_223 rfl (lv_at hl 0 rfl) ?_
      obtain ⟨v33, hv, hf⟩ := mbind hf
      refine r_getf X G I (mfI_e hv) o_Mo_links k_844 (Or.inl rfl) d_Mo_make_224 ?_
      refine lv_ldc2 (v := -1) hx hb X.ow (X.w k_1162) d_Mo_make_227 ?_
      obtain ⟨m34, hv, hf⟩ := mbind hf
      refine r_last X G I hv d_Mo_make_230 (fun H locs I => ?_)
      refine r_aload_n X d_Mo_make_231 rfl (lv_at hl 0 rfl) ?_
      refine lv_dup hx hb d_Mo_make_232 (mrf_cat _) ?_
      obtain ⟨v35, hv, hf⟩ := mbind hf
      refine r_getf X G I (mfI_e hv) o_Mo_links k_844 (Or.inl rfl) d_Mo_make_233 ?_
      refine lv_iconst (v := 1) hx hb d_Mo_make_236 (by decide) ?_
      refine lv_iadd hx hb d_Mo_make_237 ?_
      obtain ⟨m36, hv, hf⟩ := mbind hf
      refine r_put (ty := .int) X G I hv o_Mo_links k_844 (Or.inl rfl) (by decide) rfl rfl d_Mo_make_238 (fun H locs I => ?_)
      refine r_aload_n X d_Mo_make_241 rfl (lv_at hl 0 rfl) ?_
      obtain ⟨v37, hv, hf⟩ := mbind hf
      refine r_getf X G I (mfI_e hv) o_Mo_links k_844 (Or.inl rfl) d_Mo_make_242 ?_
      refine lv_iconst (v := 1) hx hb d_Mo_make_245 (by decide) ?_
      refine lv_isub hx hb d_Mo_make_246 ?_
      obtain rfl := Option.some.inj hf
      exact r_iretW X I d_Mo_make_247
    · have hf := mift hf hc
      refine lv_bipush (v := -8) hx hb d_Mo_make_164 (by decide) ?_
      obtain rfl := Option.some.inj hf
      exact r_iretW X I d_Mo_make_166
  · have hf := miff hf hc
    refine lv_bipush (v := -9) hx hb d_Mo_make_152 (by decide) ?_
    obtain rfl := Option.some.inj hf
    exact r_iretW X I d_Mo_make_154

set_option maxHeartbeats 4000000 in
set_option maxRecDepth 100000 in
theorem w_Mo_make_122 {h0 : Nat} {r : Int32 × mM} (X : mX p m meth c s args b_Mo_make 10 (some .int) "ColourLinkerModel") (G : mG D cA dA z0 s) {k : mM → Int32 → Int32 → Int32 → Int32 → Int32 → Int32 → Option (Int32 × mM)} {kx128 : mM → Int32 → Int32 → Int32 → Int32 → Int32 → Option (Int32 × mM)} (hk : ∀ (H : Heap) (locs : List Loc) (μ : mM) (ls : Array Slot) (x1 : Int32) (x2 : Int32) (x3 : Int32) (x4 : Int32) (x6 : Int32) (x8 : Int32), mI D cA z0 s μ H locs s.heap.size → k μ x1 x2 x3 x4 x6 x8 = some r → lv_has ls 10 [(0, va_rf (some h0)), (1, .int x1), (2, .int x2), (3, .int x3), (4, .int x4), (6, .int x6), (8, .int x8)] → W p l e rm_Mo_make s m args below meth c H locs 0 0 (MQ below (mQW D cA z0 (some (.int r.1)) r.2) args s 0 0 (mA z0)) (F0 m 41 ls [])) (hkx128 : ∀ (H : Heap) (locs : List Loc) (μ : mM) (ls : Array Slot) (x1 : Int32) (x2 : Int32) (x3 : Int32) (x4 : Int32) (x6 : Int32), mI D cA z0 s μ H locs s.heap.size → kx128 μ x1 x2 x3 x4 x6 = some r → lv_has ls 10 [(0, va_rf (some h0)), (1, .int x1), (2, .int x2), (3, .int x3), (4, .int x4), (6, .int x6)] → W p l e rm_Mo_make s m args below meth c H locs 0 0 (MQ below (mQW D cA z0 (some (.int r.1)) r.2) args s 0 0 (mA z0)) (F0 m 128 ls [])) {H : Heap} {locs : List Loc} {μ : mM} {ls : Array Slot} {x1 : Int32} {x2 : Int32} {x3 : Int32} {x4 : Int32} {x6 : Int32} {x8 : Int32} (I : mI D cA z0 s μ H locs s.heap.size) (hf : f_Mo_make_122 h0 k kx128 μ x1 x2 x3 x4 x6 x8 = some r) (hl : lv_has ls 10 [(0, va_rf (some h0)), (1, .int x1), (2, .int x2), (3, .int x3), (4, .int x4), (6, .int x6), (8, .int x8)]) : W p l e rm_Mo_make s m args below meth c H locs 0 0 (MQ below (mQW D cA z0 (some (.int r.1)) r.2) args s 0 0 (mA z0)) (F0 m 122 ls []) := by
  have hx := X.ex
  have hb := X.by_
  unfold f_Mo_make_122 at hf
  refine lv_iinc (i := 8) (k := 6) (v := (x8 + (1 : Int32))) (lv' := [(8, .int (x8 + (1 : Int32))), (0, va_rf (some h0)), (1, .int x1), (2, .int x2), (3, .int x3), (4, .int x4), (6, .int x6)]) hx hb d_Mo_make_122 hl rfl (congrArg (fun t => x8 + t) (by decide : Int32.ofInt (1) = (1 : Int32))) (by decide) rfl (fun ls hl => ?_)
  refine lv_goto (tgt := 41) hx hb d_Mo_make_125 (by decide) ?_
  exact hk _ _ _ _ _ _ _ _ _ _ I hf (lv_sub hl [1, 2, 3, 4, 5, 6, 0] rfl)

set_option maxHeartbeats 4000000 in
set_option maxRecDepth 100000 in
theorem w_Mo_make_88 {h0 : Nat} {r : Int32 × mM} (X : mX p m meth c s args b_Mo_make 10 (some .int) "ColourLinkerModel") (G : mG D cA dA z0 s) {k : mM → Int32 → Int32 → Int32 → Int32 → Int32 → Int32 → Option (Int32 × mM)} {kx128 : mM → Int32 → Int32 → Int32 → Int32 → Int32 → Option (Int32 × mM)} (hk : ∀ (H : Heap) (locs : List Loc) (μ : mM) (ls : Array Slot) (x1 : Int32) (x2 : Int32) (x3 : Int32) (x4 : Int32) (x6 : Int32) (x8 : Int32), mI D cA z0 s μ H locs s.heap.size → k μ x1 x2 x3 x4 x6 x8 = some r → lv_has ls 10 [(0, va_rf (some h0)), (1, .int x1), (2, .int x2), (3, .int x3), (4, .int x4), (6, .int x6), (8, .int x8)] → W p l e rm_Mo_make s m args below meth c H locs 0 0 (MQ below (mQW D cA z0 (some (.int r.1)) r.2) args s 0 0 (mA z0)) (F0 m 41 ls [])) (hkx128 : ∀ (H : Heap) (locs : List Loc) (μ : mM) (ls : Array Slot) (x1 : Int32) (x2 : Int32) (x3 : Int32) (x4 : Int32) (x6 : Int32), mI D cA z0 s μ H locs s.heap.size → kx128 μ x1 x2 x3 x4 x6 = some r → lv_has ls 10 [(0, va_rf (some h0)), (1, .int x1), (2, .int x2), (3, .int x3), (4, .int x4), (6, .int x6)] → W p l e rm_Mo_make s m args below meth c H locs 0 0 (MQ below (mQW D cA z0 (some (.int r.1)) r.2) args s 0 0 (mA z0)) (F0 m 128 ls [])) {H : Heap} {locs : List Loc} {μ : mM} {ls : Array Slot} {x1 : Int32} {x2 : Int32} {x3 : Int32} {x4 : Int32} {x6 : Int32} {x8 : Int32} {s0 : Int32} (I : mI D cA z0 s μ H locs s.heap.size) (hf : f_Mo_make_88 h0 k kx128 μ x1 x2 x3 x4 x6 x8 s0 = some r) (hl : lv_has ls 10 [(0, va_rf (some h0)), (1, .int x1), (2, .int x2), (3, .int x3), (4, .int x4), (6, .int x6), (8, .int x8)]) : W p l e rm_Mo_make s m args below meth c H locs 0 0 (MQ below (mQW D cA z0 (some (.int r.1)) r.2) args s 0 0 (mA z0)) (F0 m 88 ls [.int s0]) := by
  have hx := X.ex
  have hb := X.by_
  unfold f_Mo_make_88 at hf
  refine lv_istore (i := 9) (lv' := [(9, .int s0), (0, va_rf (some h0)), (1, .int x1), (2, .int x2), (3, .int x3), (4, .int x4), (6, .int x6), (8, .int x8)]) hx hb d_Mo_make_88 hl (by decide) rfl (fun ls hl => ?_)
  refine lv_iload hx hb d_Mo_make_90 (lv_at hl 0 rfl) ?_
  refine lv_if_eq (tgt := 122) hx hb d_Mo_make_92 (by decide) (fun hc => ?_) (fun hc => ?_)
  · have hf := mift hf hc
    exact w_Mo_make_122 X G hk hkx128 I hf (lv_sub hl [1, 2, 3, 4, 5, 6, 7] rfl)
  · have hf := miff hf hc
    refine r_aload_n X d_Mo_make_95 rfl (lv_at hl 1 rfl) ?_
    obtain ⟨v9, hv, hf⟩ := mbind hf
    refine r_getf X G I (mfA_e hv) o_Mo_intents k_841 (Or.inl rfl) d_Mo_make_96 ?_
    refine lv_iload hx hb d_Mo_make_99 (lv_at hl 7 rfl) ?_
    obtain ⟨v10, hv, hf⟩ := mbind hf
    refine r_iald X G I hv d_Mo_make_101 ?_
    refine lv_iload hx hb d_Mo_make_102 (lv_at hl 5 rfl) ?_
    refine lv_icmp_ne (tgt := 122) hx hb d_Mo_make_104 (by decide) (fun hc => ?_) (fun hc => ?_)
    · have hf := miff hf hc
      exact w_Mo_make_122 X G hk hkx128 I hf (lv_sub hl [1, 2, 3, 4, 5, 6, 7] rfl)
    · have hf := mift hf hc
      refine r_aload_n X d_Mo_make_107 rfl (lv_at hl 1 rfl) ?_
      obtain ⟨v11, hv, hf⟩ := mbind hf
      refine r_getf X G I (mfA_e hv) o_Mo_blacks k_842 (Or.inl rfl) d_Mo_make_108 ?_
      refine lv_iload hx hb d_Mo_make_111 (lv_at hl 7 rfl) ?_
      obtain ⟨v12, hv, hf⟩ := mbind hf
      refine r_zald X G I hv d_Mo_make_113 ?_
      refine lv_iload hx hb d_Mo_make_114 (lv_at hl 6 rfl) ?_
      refine lv_icmp_ne (tgt := 122) hx hb d_Mo_make_116 (by decide) (fun hc => ?_) (fun hc => ?_)
      · have hf := miff hf hc
        exact w_Mo_make_122 X G hk hkx128 I hf (lv_sub hl [1, 2, 3, 4, 5, 6, 7] rfl)
      · have hf := mift hf hc
        refine lv_iload hx hb d_Mo_make_119 (lv_at hl 7 rfl) ?_
        obtain rfl := Option.some.inj hf
        exact r_iretW X I d_Mo_make_121

set_option maxHeartbeats 4000000 in
set_option maxRecDepth 100000 in
theorem w_Mo_make_87 {h0 : Nat} {r : Int32 × mM} (X : mX p m meth c s args b_Mo_make 10 (some .int) "ColourLinkerModel") (G : mG D cA dA z0 s) {k : mM → Int32 → Int32 → Int32 → Int32 → Int32 → Int32 → Option (Int32 × mM)} {kx128 : mM → Int32 → Int32 → Int32 → Int32 → Int32 → Option (Int32 × mM)} (hk : ∀ (H : Heap) (locs : List Loc) (μ : mM) (ls : Array Slot) (x1 : Int32) (x2 : Int32) (x3 : Int32) (x4 : Int32) (x6 : Int32) (x8 : Int32), mI D cA z0 s μ H locs s.heap.size → k μ x1 x2 x3 x4 x6 x8 = some r → lv_has ls 10 [(0, va_rf (some h0)), (1, .int x1), (2, .int x2), (3, .int x3), (4, .int x4), (6, .int x6), (8, .int x8)] → W p l e rm_Mo_make s m args below meth c H locs 0 0 (MQ below (mQW D cA z0 (some (.int r.1)) r.2) args s 0 0 (mA z0)) (F0 m 41 ls [])) (hkx128 : ∀ (H : Heap) (locs : List Loc) (μ : mM) (ls : Array Slot) (x1 : Int32) (x2 : Int32) (x3 : Int32) (x4 : Int32) (x6 : Int32), mI D cA z0 s μ H locs s.heap.size → kx128 μ x1 x2 x3 x4 x6 = some r → lv_has ls 10 [(0, va_rf (some h0)), (1, .int x1), (2, .int x2), (3, .int x3), (4, .int x4), (6, .int x6)] → W p l e rm_Mo_make s m args below meth c H locs 0 0 (MQ below (mQW D cA z0 (some (.int r.1)) r.2) args s 0 0 (mA z0)) (F0 m 128 ls [])) {H : Heap} {locs : List Loc} {μ : mM} {ls : Array Slot} {x1 : Int32} {x2 : Int32} {x3 : Int32} {x4 : Int32} {x6 : Int32} {x8 : Int32} (I : mI D cA z0 s μ H locs s.heap.size) (hf : f_Mo_make_87 h0 k kx128 μ x1 x2 x3 x4 x6 x8 = some r) (hl : lv_has ls 10 [(0, va_rf (some h0)), (1, .int x1), (2, .int x2), (3, .int x3), (4, .int x4), (6, .int x6), (8, .int x8)]) : W p l e rm_Mo_make s m args below meth c H locs 0 0 (MQ below (mQW D cA z0 (some (.int r.1)) r.2) args s 0 0 (mA z0)) (F0 m 87 ls []) := by
  have hx := X.ex
  have hb := X.by_
  unfold f_Mo_make_87 at hf
  refine lv_iconst (v := 0) hx hb d_Mo_make_87 (by decide) ?_
  exact w_Mo_make_88 X G hk hkx128 I hf hl

set_option maxHeartbeats 4000000 in
set_option maxRecDepth 100000 in
theorem w_Mo_make_41 {h0 : Nat} {r : Int32 × mM} (X : mX p m meth c s args b_Mo_make 10 (some .int) "ColourLinkerModel") (G : mG D cA dA z0 s) {kx128 : mM → Int32 → Int32 → Int32 → Int32 → Int32 → Option (Int32 × mM)} (hkx128 : ∀ (H : Heap) (locs : List Loc) (μ : mM) (ls : Array Slot) (x1 : Int32) (x2 : Int32) (x3 : Int32) (x4 : Int32) (x6 : Int32), mI D cA z0 s μ H locs s.heap.size → kx128 μ x1 x2 x3 x4 x6 = some r → lv_has ls 10 [(0, va_rf (some h0)), (1, .int x1), (2, .int x2), (3, .int x3), (4, .int x4), (6, .int x6)] → W p l e rm_Mo_make s m args below meth c H locs 0 0 (MQ below (mQW D cA z0 (some (.int r.1)) r.2) args s 0 0 (mA z0)) (F0 m 128 ls [])) : ∀ (n : Nat) (H : Heap) (locs : List Loc) (μ : mM) (ls : Array Slot) (x1 : Int32) (x2 : Int32) (x3 : Int32) (x4 : Int32) (x6 : Int32) (x8 : Int32), mI D cA z0 s μ H locs s.heap.size → f_Mo_make_41 h0 kx128 n μ x1 x2 x3 x4 x6 x8 = some r → lv_has ls 10 [(0, va_rf (some h0)), (1, .int x1), (2, .int x2), (3, .int x3), (4, .int x4), (6, .int x6), (8, .int x8)] → W p l e rm_Mo_make s m args below meth c H locs 0 0 (MQ below (mQW D cA z0 (some (.int r.1)) r.2) args s 0 0 (mA z0)) (F0 m 41 ls []) := by
  have hx := X.ex
  have hb := X.by_
  intro n
  induction n with
  | zero => intro H locs μ ls x1 x2 x3 x4 x6 x8 I hf hl; rw [f_Mo_make_41] at hf; cases hf
  | succ n ih =>
    intro H locs μ ls x1 x2 x3 x4 x6 x8 I hf hl
    rw [f_Mo_make_41] at hf
    refine lv_iload hx hb d_Mo_make_41 (lv_at hl 6 rfl) ?_
    refine r_aload_n X d_Mo_make_43 rfl (lv_at hl 0 rfl) ?_
    obtain ⟨v2, hv, hf⟩ := mbind hf
    refine r_getf X G I (mfI_e hv) o_Mo_links k_844 (Or.inl rfl) d_Mo_make_44 ?_
    refine lv_icmp_ge (tgt := 128) hx hb d_Mo_make_47 (by decide) (fun hc => ?_) (fun hc => ?_)
    · have hf := mift hf hc
      exact hkx128 _ _ _ _ _ _ _ _ _ I hf (lv_sub hl [0, 1, 2, 3, 4, 5] rfl)
    · have hf := miff hf hc
      refine r_aload_n X d_Mo_make_50 rfl (lv_at hl 0 rfl) ?_
      obtain ⟨v3, hv, hf⟩ := mbind hf
      refine r_getf X G I (mfA_e hv) o_Mo_parent k_838 (Or.inl rfl) d_Mo_make_51 ?_
      refine lv_iload hx hb d_Mo_make_54 (lv_at hl 6 rfl) ?_
      obtain ⟨v4, hv, hf⟩ := mbind hf
      refine r_iald X G I hv d_Mo_make_56 ?_
      refine lv_iload_n hx hb d_Mo_make_57 rfl (lv_at hl 1 rfl) ?_
      refine lv_icmp_ne (tgt := 87) hx hb d_Mo_make_58 (by decide) (fun hc => ?_) (fun hc => ?_)
      · have hf := miff hf hc
        exact w_Mo_make_87 X G ih hkx128 I hf hl
      · have hf := mift hf hc
        refine r_aload_n X d_Mo_make_61 rfl (lv_at hl 0 rfl) ?_
        obtain ⟨v5, hv, hf⟩ := mbind hf
        refine r_getf X G I (mfA_e hv) o_Mo_source k_839 (Or.inl rfl) d_Mo_make_62 ?_
        refine lv_iload hx hb d_Mo_make_65 (lv_at hl 6 rfl) ?_
        obtain ⟨v6, hv, hf⟩ := mbind hf
        refine r_iald X G I hv d_Mo_make_67 ?_
        refine lv_iload_n hx hb d_Mo_make_68 rfl (lv_at hl 2 rfl) ?_
        refine lv_icmp_ne (tgt := 87) hx hb d_Mo_make_69 (by decide) (fun hc => ?_) (fun hc => ?_)
        · have hf := miff hf hc
          exact w_Mo_make_87 X G ih hkx128 I hf hl
        · have hf := mift hf hc
          refine r_aload_n X d_Mo_make_72 rfl (lv_at hl 0 rfl) ?_
          obtain ⟨v7, hv, hf⟩ := mbind hf
          refine r_getf X G I (mfA_e hv) o_Mo_target k_840 (Or.inl rfl) d_Mo_make_73 ?_
          refine lv_iload hx hb d_Mo_make_76 (lv_at hl 6 rfl) ?_
          obtain ⟨v8, hv, hf⟩ := mbind hf
          refine r_iald X G I hv d_Mo_make_78 ?_
          refine lv_iload_n hx hb d_Mo_make_79 rfl (lv_at hl 3 rfl) ?_
          refine lv_icmp_ne (tgt := 87) hx hb d_Mo_make_80 (by decide) (fun hc => ?_) (fun hc => ?_)
          · have hf := miff hf hc
            exact w_Mo_make_87 X G ih hkx128 I hf hl
          · have hf := mift hf hc
            refine lv_iconst (v := 1) hx hb d_Mo_make_83 (by decide) ?_
            refine lv_goto (tgt := 88) hx hb d_Mo_make_84 (by decide) ?_
            exact w_Mo_make_88 X G ih hkx128 I hf hl

set_option maxHeartbeats 4000000 in
set_option maxRecDepth 100000 in
theorem w_Mo_make_16 {h0 : Nat} {r : Int32 × mM} (X : mX p m meth c s args b_Mo_make 10 (some .int) "ColourLinkerModel") (G : mG D cA dA z0 s) {H : Heap} {locs : List Loc} {μ : mM} {ls : Array Slot} {x1 : Int32} {x2 : Int32} {x3 : Int32} {x4 : Int32} {s0 : Int32} (I : mI D cA z0 s μ H locs s.heap.size) (hf : f_Mo_make_16 h0 μ x1 x2 x3 x4 s0 = some r) (hl : lv_has ls 10 [(0, va_rf (some h0)), (1, .int x1), (2, .int x2), (3, .int x3), (4, .int x4)]) : W p l e rm_Mo_make s m args below meth c H locs 0 0 (MQ below (mQW D cA z0 (some (.int r.1)) r.2) args s 0 0 (mA z0)) (F0 m 16 ls [.int s0]) := by
  have hx := X.ex
  have hb := X.by_
  unfold f_Mo_make_16 at hf
  refine lv_istore (i := 6) (lv' := [(6, .int s0), (0, va_rf (some h0)), (1, .int x1), (2, .int x2), (3, .int x3), (4, .int x4)]) hx hb d_Mo_make_16 hl (by decide) rfl (fun ls hl => ?_)
  refine r_aload_n X d_Mo_make_18 rfl (lv_at hl 1 rfl) ?_
  refine lv_iload_n hx hb d_Mo_make_19 rfl (lv_at hl 3 rfl) ?_
  refine lv_iload_n hx hb d_Mo_make_20 rfl (lv_at hl 4 rfl) ?_
  refine lv_iload hx hb d_Mo_make_21 (lv_at hl 5 rfl) ?_
  refine lv_iload hx hb d_Mo_make_23 (lv_at hl 0 rfl) ?_
  obtain ⟨q1, hv, hf⟩ := mbind hf
  obtain ⟨a, ha, hv⟩ := mbind hv
  obtain ⟨ha, fs, hm⟩ := mrc_e ha
  refine m_caW (m_runV (As := [.int x2, .int x3, .int x4, .int s0]) (r := some h0) (rest := []) X G I h_Mo_refusal k_1017 (c_Mo_refusal hv) mPr_blind (m_pre G I) hm rfl ha rfl rfl hl.1 (Nat.le_of_ble_eq_true rfl) rfl rfl ⟨Nat.le_of_ble_eq_true rfl, Nat.le_of_ble_eq_true rfl⟩ ⟨Nat.le_refl _, Nat.le_refl _⟩ d_Mo_make_25) I (fun H locs I => ?_)
  refine lv_istore (i := 7) (lv' := [(7, .int q1.1), (6, .int s0), (0, va_rf (some h0)), (1, .int x1), (2, .int x2), (3, .int x3), (4, .int x4)]) hx hb d_Mo_make_28 hl (by decide) rfl (fun ls hl => ?_)
  refine lv_iload hx hb d_Mo_make_30 (lv_at hl 0 rfl) ?_
  refine lv_if_ge (tgt := 38) hx hb d_Mo_make_32 (by decide) (fun hc => ?_) (fun hc => ?_)
  · have hf := mift hf hc
    refine lv_iconst (v := 0) hx hb d_Mo_make_38 (by decide) ?_
    refine lv_istore (i := 8) (lv' := [(8, .int (0 : Int32)), (7, .int q1.1), (6, .int s0), (0, va_rf (some h0)), (1, .int x1), (2, .int x2), (3, .int x3), (4, .int x4)]) hx hb d_Mo_make_39 hl (by decide) rfl (fun ls hl => ?_)
    exact w_Mo_make_41 X G (fun H locs μ ls x1 x2 x3 x4 x6 I hf hl => w_Mo_make_128 X G I hf hl) 4096 _ _ _ _ _ _ _ _ _ _ I hf (lv_sub hl [3, 4, 5, 6, 7, 2, 0] rfl)
  · have hf := miff hf hc
    refine lv_iload hx hb d_Mo_make_35 (lv_at hl 0 rfl) ?_
    obtain rfl := Option.some.inj hf
    exact r_iretW X I d_Mo_make_37

set_option maxHeartbeats 4000000 in
set_option maxRecDepth 100000 in
theorem w_Mo_make_15 {h0 : Nat} {r : Int32 × mM} (X : mX p m meth c s args b_Mo_make 10 (some .int) "ColourLinkerModel") (G : mG D cA dA z0 s) {H : Heap} {locs : List Loc} {μ : mM} {ls : Array Slot} {x1 : Int32} {x2 : Int32} {x3 : Int32} {x4 : Int32} (I : mI D cA z0 s μ H locs s.heap.size) (hf : f_Mo_make_15 h0 μ x1 x2 x3 x4 = some r) (hl : lv_has ls 10 [(0, va_rf (some h0)), (1, .int x1), (2, .int x2), (3, .int x3), (4, .int x4)]) : W p l e rm_Mo_make s m args below meth c H locs 0 0 (MQ below (mQW D cA z0 (some (.int r.1)) r.2) args s 0 0 (mA z0)) (F0 m 15 ls []) := by
  have hx := X.ex
  have hb := X.by_
  unfold f_Mo_make_15 at hf
  refine lv_iconst (v := 0) hx hb d_Mo_make_15 (by decide) ?_
  exact w_Mo_make_16 X G I hf hl

set_option maxHeartbeats 4000000 in
set_option maxRecDepth 100000 in
theorem w_Mo_make {h0 : Nat} {r : Int32 × mM} (X : mX p m meth c s args b_Mo_make 10 (some .int) "ColourLinkerModel") (G : mG D cA dA z0 s) {H : Heap} {locs : List Loc} {μ : mM} {ls : Array Slot} {x1 : Int32} {x2 : Int32} {x3 : Int32} {x4 : Int32} {x5 : Int32} (I : mI D cA z0 s μ H locs s.heap.size) (hf : f_Mo_make h0 μ x1 x2 x3 x4 x5 = some r) (hl : lv_has ls 10 [(0, va_rf (some h0)), (1, .int x1), (2, .int x2), (3, .int x3), (4, .int x4), (5, .int x5)]) : W p l e rm_Mo_make s m args below meth c H locs 0 0 (MQ below (mQW D cA z0 (some (.int r.1)) r.2) args s 0 0 (mA z0)) (F0 m 0 ls []) := by
  have hx := X.ex
  have hb := X.by_
  unfold f_Mo_make at hf
  refine lv_iload hx hb d_Mo_make_0 (lv_at hl 5 rfl) ?_
  refine lv_if_eq (tgt := 15) hx hb d_Mo_make_2 (by decide) (fun hc => ?_) (fun hc => ?_)
  · have hf := mift hf hc
    exact w_Mo_make_15 X G I hf (lv_sub hl [0, 1, 2, 3, 4] rfl)
  · have hf := miff hf hc
    refine lv_iload hx hb d_Mo_make_5 (lv_at hl 4 rfl) ?_
    refine lv_iconst (v := 3) hx hb d_Mo_make_7 (by decide) ?_
    refine lv_icmp_eq (tgt := 15) hx hb d_Mo_make_8 (by decide) (fun hc => ?_) (fun hc => ?_)
    · have hf := mift hf hc
      exact w_Mo_make_15 X G I hf (lv_sub hl [0, 1, 2, 3, 4] rfl)
    · have hf := miff hf hc
      refine lv_iconst (v := 1) hx hb d_Mo_make_11 (by decide) ?_
      refine lv_goto (tgt := 16) hx hb d_Mo_make_12 (by decide) ?_
      exact w_Mo_make_16 X G I hf (lv_sub hl [0, 1, 2, 3, 4] rfl)

set_option maxHeartbeats 4000000 in
set_option maxRecDepth 100000 in
theorem c_Mo_make {l : Launch} {D : va_G} {cA : Nat → ClassId} {dA z0 : Nat} {μ : mM} {h0 : Nat} {x1 : Int32} {x2 : Int32} {x3 : Int32} {x4 : Int32} {x5 : Int32} {r : Int32 × mM} (hf : f_Mo_make h0 μ x1 x2 x3 x4 x5 = some r) : Met l y_Mo_make (mW y_Mo_make b_Mo_make 10 (some .int)) rm_Mo_make (va_Pc [.ref h0, .int x1, .int x2, .int x3, .int x4, .int x5] (mPr D cA dA z0 μ)) (mQW D cA z0 (some (.int r.1)) r.2) 0 0 (mA z0) := by
  refine Met.ofW (cc := b_Mo_make) (maxL := 10) (ret := (some .int)) (by decide) rfl ?_
  intro p e s m args below meth c s₁ B hml hv
  obtain ⟨rfl, G, hP⟩ := hv
  have X := mX.of B hml
  exact m_entry (lv := [(0, va_rf (some h0)), (1, .int x1), (2, .int x2), (3, .int x3), (4, .int x4), (5, .int x5)]) (Nat.le_of_ble_eq_true rfl) rfl (fun ls hl => w_Mo_make X G (mI.start hP) hf hl)

end WK
