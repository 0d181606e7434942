section WK
variable {p : Program} {l : Launch} {e : Env} {s : State} {m : MethodId} {args : Array Value} {below : List Frame} {meth : Method} {c : Code} {D : va_G} {cA : Nat → ClassId} {dA z0 : Nat}
abbrev rm_CL_chainPassage (k n : Nat) : Room := { frames := 4, cells := k, slots := n, locals := 89 }
theorem h_CL_chainPassage : mCV y_CL_chainPassage b_CL_chainPassage 7 none 4 := ⟨k_716, k_75, ⟨by decide, by decide, by decide +kernel⟩, k_715, k_24⟩
set_option maxHeartbeats 4000000 in
set_option maxRecDepth 100000 in
theorem w_CL_chainPassage_98 {h0 : Nat} {ws : Nat} {r : mM × Nat × Nat} (X : mX p m meth c s args b_CL_chainPassage 7 none "ColourLinker") (G : mG D cA dA z0 s) {H : Heap} {locs : List Loc} {μ : mM} {z w : Nat} {ls : Array Slot} {x2 : Option Nat} {x3 : Int32} (hq : mq ws w z r.2.1 r.2.2) (I : mI D cA z0 s μ H locs z) (hf : f_CL_chainPassage_98 h0 μ z w x2 x3 = some r) (hl : lv_has ls 7 [(0, va_rf (some h0)), (2, va_rf x2), (3, .int x3)]) : W p l e (rm_CL_chainPassage (r.2.1 - s.heap.size) (r.2.2 - ws)) s m args below meth c H locs (z - s.heap.size) (w - ws) (MQ below (mQN D cA z0 none r.1 r.2.1) args s (r.2.1 - s.heap.size) (r.2.2 - ws) (mA z0)) (F0 m 98 ls []) := by
  have hx := X.ex
  have hb := X.by_
  unfold f_CL_chainPassage_98 at hf
  refine r_aload_n X d_CL_chainPassage_98 rfl (lv_at hl 0 rfl) ?_
  refine r_aload_n X d_CL_chainPassage_99 rfl (lv_at hl 1 rfl) ?_
  refine lv_iload_n hx hb d_CL_chainPassage_100 rfl (lv_at hl 2 rfl) ?_
  refine lv_iconst (v := 0) hx hb d_CL_chainPassage_101 (by decide) ?_
  obtain ⟨q14, hv, hf⟩ := mbind hf
  obtain ⟨a, ha, hv⟩ := mbind hv
  obtain ⟨ha, fs, hm⟩ := mrc_e ha
  refine m_caR (m_runV (As := [.int x3, .int (0 : Int32)]) (r := x2) (rest := [va_rf (some h0)]) X G I h_Profile_backPiece k_667 (c_Profile_backPiece hv) mPr_blind (m_pre G I) hm rfl ha rfl rfl hl.1 (Nat.le_of_ble_eq_true rfl) rfl rfl ⟨Nat.le_of_ble_eq_true rfl, Nat.le_of_ble_eq_true rfl⟩ hq.rm d_CL_chainPassage_102) ?_
  obtain ⟨q15, hv, hf⟩ := mbind hf
  obtain ⟨a, ha, hv⟩ := mbind hv
  obtain ⟨ha, fs, hm⟩ := mrc_e ha
  refine m_caWv (m_runV (As := [va_rf q14]) (r := some h0) (rest := []) X G I h_CL_chainPiece k_709 (c_CL_chainPiece hv) mPr_blind (m_pre G I) hm rfl ha rfl rfl hl.1 (Nat.le_of_ble_eq_true rfl) rfl rfl ⟨Nat.le_of_ble_eq_true rfl, Nat.le_of_ble_eq_true rfl⟩ hq.rm d_CL_chainPassage_105) I (fun H locs I => ?_)
  refine r_aload_n X d_CL_chainPassage_108 rfl (lv_at hl 0 rfl) ?_
  refine r_aload_n X d_CL_chainPassage_109 rfl (lv_at hl 1 rfl) ?_
  refine lv_iload_n hx hb d_CL_chainPassage_110 rfl (lv_at hl 2 rfl) ?_
  refine lv_iconst (v := 1) hx hb d_CL_chainPassage_111 (by decide) ?_
  obtain ⟨q16, hv, hf⟩ := mbind hf
  obtain ⟨a, ha, hv⟩ := mbind hv
  obtain ⟨ha, fs, hm⟩ := mrc_e ha
  refine m_caR (m_runV (As := [.int x3, .int (1 : Int32)]) (r := x2) (rest := [va_rf (some h0)]) X G I h_Profile_backPiece k_667 (c_Profile_backPiece hv) mPr_blind (m_pre G I) hm rfl ha rfl rfl hl.1 (Nat.le_of_ble_eq_true rfl) rfl rfl ⟨Nat.le_of_ble_eq_true rfl, Nat.le_of_ble_eq_true rfl⟩ hq.rm d_CL_chainPassage_112) ?_
  obtain ⟨q17, hv, hf⟩ := mbind hf
  obtain ⟨a, ha, hv⟩ := mbind hv
  obtain ⟨ha, fs, hm⟩ := mrc_e ha
  refine m_caWv (m_runV (As := [va_rf q16]) (r := some h0) (rest := []) X G I h_CL_chainPiece k_709 (c_CL_chainPiece hv) mPr_blind (m_pre G I) hm rfl ha rfl rfl hl.1 (Nat.le_of_ble_eq_true rfl) rfl rfl ⟨Nat.le_of_ble_eq_true rfl, Nat.le_of_ble_eq_true rfl⟩ hq.rm d_CL_chainPassage_115) I (fun H locs I => ?_)
  obtain rfl := Option.some.inj hf
  exact r_vretN X I d_CL_chainPassage_118

set_option maxHeartbeats 4000000 in
set_option maxRecDepth 100000 in
theorem w_CL_chainPassage_95 {h0 : Nat} {ws : Nat} {r : mM × Nat × Nat} (X : mX p m meth c s args b_CL_chainPassage 7 none "ColourLinker") (G : mG D cA dA z0 s) {H : Heap} {locs : List Loc} {μ : mM} {z w : Nat} {ls : Array Slot} {x2 : Option Nat} {x3 : Int32} {s0 : Option Nat} {s1 : Option Nat} (hq : mq ws w z r.2.1 r.2.2) (I : mI D cA z0 s μ H locs z) (hf : f_CL_chainPassage_95 h0 μ z w x2 x3 s0 s1 = some r) (hl : lv_has ls 7 [(0, va_rf (some h0)), (2, va_rf x2), (3, .int x3)]) : W p l e (rm_CL_chainPassage (r.2.1 - s.heap.size) (r.2.2 - ws)) s m args below meth c H locs (z - s.heap.size) (w - ws) (MQ below (mQN D cA z0 none r.1 r.2.1) args s (r.2.1 - s.heap.size) (r.2.2 - ws) (mA z0)) (F0 m 95 ls [va_rf s1, va_rf s0]) := by
  have hx := X.ex
  have hb := X.by_
  unfold f_CL_chainPassage_95 at hf
  obtain ⟨q13, hv, hf⟩ := mbind hf
  obtain ⟨a, ha, hv⟩ := mbind hv
  obtain ⟨ha, fs, hm⟩ := mrc_e ha
  refine m_caWv (m_runV (As := [va_rf s1]) (r := s0) (rest := []) X G I h_CL_chainPiece k_709 (c_CL_chainPiece hv) mPr_blind (m_pre G I) hm rfl ha rfl rfl hl.1 (Nat.le_of_ble_eq_true rfl) rfl rfl ⟨Nat.le_of_ble_eq_true rfl, Nat.le_of_ble_eq_true rfl⟩ hq.rm d_CL_chainPassage_95) I (fun H locs I => ?_)
  exact w_CL_chainPassage_98 X G hq I hf hl

set_option maxHeartbeats 4000000 in
set_option maxRecDepth 100000 in
theorem w_CL_chainPassage_68 {h0 : Nat} {ws : Nat} {r : mM × Nat × Nat} (X : mX p m meth c s args b_CL_chainPassage 7 none "ColourLinker") (G : mG D cA dA z0 s) {H : Heap} {locs : List Loc} {μ : mM} {z w : Nat} {ls : Array Slot} {x2 : Option Nat} {x3 : Int32} {x5 : Int32} (hq : mq ws w z r.2.1 r.2.2) (I : mI D cA z0 s μ H locs z) (hf : f_CL_chainPassage_68 h0 μ z w x2 x3 x5 = some r) (hl : lv_has ls 7 [(0, va_rf (some h0)), (2, va_rf x2), (3, .int x3), (5, .int x5)]) : W p l e (rm_CL_chainPassage (r.2.1 - s.heap.size) (r.2.2 - ws)) s m args below meth c H locs (z - s.heap.size) (w - ws) (MQ below (mQN D cA z0 none r.1 r.2.1) args s (r.2.1 - s.heap.size) (r.2.2 - ws) (mA z0)) (F0 m 68 ls []) := by
  have hx := X.ex
  have hb := X.by_
  unfold f_CL_chainPassage_68 at hf
  refine lv_iload hx hb d_CL_chainPassage_68 (lv_at hl 3 rfl) ?_
  refine r_aload_n X d_CL_chainPassage_70 rfl (lv_at hl 1 rfl) ?_
  obtain ⟨q10, hv, hf⟩ := mbind hf
  obtain ⟨a, ha, hv⟩ := mbind hv
  obtain ⟨ha, fs, hm⟩ := mrc_e ha
  refine m_caR (m_runV (As := []) (r := x2) (rest := [.int x5]) X G I h_Profile_space k_718 (c_Profile_space hv) mPr_blind (m_pre G I) hm rfl ha rfl rfl hl.1 (Nat.le_of_ble_eq_true rfl) rfl rfl ⟨Nat.le_of_ble_eq_true rfl, Nat.le_of_ble_eq_true rfl⟩ hq.rm d_CL_chainPassage_71) ?_
  refine lv_icmp_eq (tgt := 98) hx hb d_CL_chainPassage_74 (by decide) (fun hc => ?_) (fun hc => ?_)
  · have hf := mift hf hc
    exact w_CL_chainPassage_98 X G hq I hf (lv_sub hl [0, 1, 2] rfl)
  · have hf := miff hf hc
    refine r_aload_n X d_CL_chainPassage_77 rfl (lv_at hl 0 rfl) ?_
    refine lv_iload hx hb d_CL_chainPassage_78 (lv_at hl 3 rfl) ?_
    refine lv_iconst (v := 1) hx hb d_CL_chainPassage_80 (by decide) ?_
    refine lv_icmp_ne (tgt := 91) hx hb d_CL_chainPassage_81 (by decide) (fun hc => ?_) (fun hc => ?_)
    · have hf := miff hf hc
      refine r_aload_n X d_CL_chainPassage_91 rfl (lv_at hl 0 rfl) ?_
      obtain ⟨v11, hv, hf⟩ := mbind hf
      refine r_getf X G I (mfA_e hv) o_CL_toLab k_151 (Or.inl rfl) d_CL_chainPassage_92 ?_
      exact w_CL_chainPassage_95 X G hq I hf (lv_sub hl [0, 1, 2] rfl)
    · have hf := mift hf hc
      refine r_aload_n X d_CL_chainPassage_84 rfl (lv_at hl 0 rfl) ?_
      obtain ⟨v12, hv, hf⟩ := mbind hf
      refine r_getf X G I (mfA_e hv) o_CL_toXyz k_152 (Or.inl rfl) d_CL_chainPassage_85 ?_
      refine lv_goto (tgt := 95) hx hb d_CL_chainPassage_88 (by decide) ?_
      exact w_CL_chainPassage_95 X G hq I hf (lv_sub hl [0, 1, 2] rfl)

set_option maxHeartbeats 4000000 in
set_option maxRecDepth 100000 in
theorem w_CL_chainPassage_56 {h0 : Nat} {ws : Nat} {r : mM × Nat × Nat} (X : mX p m meth c s args b_CL_chainPassage 7 none "ColourLinker") (G : mG D cA dA z0 s) {H : Heap} {locs : List Loc} {μ : mM} {z w : Nat} {ls : Array Slot} {x2 : Option Nat} {x3 : Int32} {x6 : Option Nat} {s0 : Option Nat} {s1 : Option Nat} (hq : mq ws w z r.2.1 r.2.2) (I : mI D cA z0 s μ H locs z) (hf : f_CL_chainPassage_56 h0 μ z w x2 x3 x6 s0 s1 = some r) (hl : lv_has ls 7 [(0, va_rf (some h0)), (2, va_rf x2), (3, .int x3), (6, va_rf x6)]) : W p l e (rm_CL_chainPassage (r.2.1 - s.heap.size) (r.2.2 - ws)) s m args below meth c H locs (z - s.heap.size) (w - ws) (MQ below (mQN D cA z0 none r.1 r.2.1) args s (r.2.1 - s.heap.size) (r.2.2 - ws) (mA z0)) (F0 m 56 ls [va_rf s1, va_rf s0]) := by
  have hx := X.ex
  have hb := X.by_
  unfold f_CL_chainPassage_56 at hf
  obtain ⟨q8, hv, hf⟩ := mbind hf
  obtain ⟨a, ha, hv⟩ := mbind hv
  obtain ⟨ha, fs, hm⟩ := mrc_e ha
  refine m_caWv (m_runV (As := [va_rf s1]) (r := s0) (rest := []) X G I h_CL_chainPiece k_709 (c_CL_chainPiece hv) mPr_blind (m_pre G I) hm rfl ha rfl rfl hl.1 (Nat.le_of_ble_eq_true rfl) rfl rfl ⟨Nat.le_of_ble_eq_true rfl, Nat.le_of_ble_eq_true rfl⟩ hq.rm d_CL_chainPassage_56) I (fun H locs I => ?_)
  refine r_aload_n X d_CL_chainPassage_59 rfl (lv_at hl 0 rfl) ?_
  refine r_aload X d_CL_chainPassage_60 (lv_at hl 3 rfl) ?_
  obtain ⟨q9, hv, hf⟩ := mbind hf
  obtain ⟨a, ha, hv⟩ := mbind hv
  obtain ⟨ha, fs, hm⟩ := mrc_e ha
  refine m_caWv (m_runV (As := [va_rf x6]) (r := some h0) (rest := []) X G I h_CL_chainPiece k_709 (c_CL_chainPiece hv) mPr_blind (m_pre G I) hm rfl ha rfl rfl hl.1 (Nat.le_of_ble_eq_true rfl) rfl rfl ⟨Nat.le_of_ble_eq_true rfl, Nat.le_of_ble_eq_true rfl⟩ hq.rm d_CL_chainPassage_62) I (fun H locs I => ?_)
  refine lv_iconst (v := 0) hx hb d_CL_chainPassage_65 (by decide) ?_
  refine lv_istore (i := 5) (lv' := [(5, .int (0 : Int32)), (0, va_rf (some h0)), (2, va_rf x2), (3, .int x3), (6, va_rf x6)]) hx hb d_CL_chainPassage_66 hl (by decide) rfl (fun ls hl => ?_)
  exact w_CL_chainPassage_68 X G hq I hf (lv_sub hl [1, 2, 3, 0] rfl)

set_option maxHeartbeats 4000000 in
set_option maxRecDepth 100000 in
theorem w_CL_chainPassage {h0 : Nat} {ws : Nat} {r : mM × Nat × Nat} (X : mX p m meth c s args b_CL_chainPassage 7 none "ColourLinker") (G : mG D cA dA z0 s) {H : Heap} {locs : List Loc} {μ : mM} {z w : Nat} {ls : Array Slot} {x1 : Option Nat} {x2 : Option Nat} {x3 : Int32} {x4 : Int32} (hw : ws ≤ w) (I : mI D cA z0 s μ H locs z) (hf : f_CL_chainPassage h0 μ z w x1 x2 x3 x4 = some r) (hl : lv_has ls 7 [(0, va_rf (some h0)), (1, va_rf x1), (2, va_rf x2), (3, .int x3), (4, .int x4)]) : W p l e (rm_CL_chainPassage (r.2.1 - s.heap.size) (r.2.2 - ws)) s m args below meth c H locs (z - s.heap.size) (w - ws) (MQ below (mQN D cA z0 none r.1 r.2.1) args s (r.2.1 - s.heap.size) (r.2.2 - ws) (mA z0)) (F0 m 0 ls []) := by
  have hx := X.ex
  have hb := X.by_
  unfold f_CL_chainPassage at hf
  obtain ⟨-, -, hz2, hw2, hf⟩ := mmV_e hf
  have hq : mq ws w z r.2.1 r.2.2 := ⟨hw, hz2, hw2⟩
  refine r_aload_n X d_CL_chainPassage_0 rfl (lv_at hl 0 rfl) ?_
  refine r_aload_n X d_CL_chainPassage_1 rfl (lv_at hl 1 rfl) ?_
  refine lv_iload_n hx hb d_CL_chainPassage_2 rfl (lv_at hl 3 rfl) ?_
  refine lv_iconst (v := 0) hx hb d_CL_chainPassage_3 (by decide) ?_
  obtain ⟨q1, hv, hf⟩ := mbind hf
  obtain ⟨a, ha, hv⟩ := mbind hv
  obtain ⟨ha, fs, hm⟩ := mrc_e ha
  refine m_caR (m_runV (As := [.int x3, .int (0 : Int32)]) (r := x1) (rest := [va_rf (some h0)]) X G I h_Profile_forthPiece k_717 (c_Profile_forthPiece hv) mPr_blind (m_pre G I) hm rfl ha rfl rfl hl.1 (Nat.le_of_ble_eq_true rfl) rfl rfl ⟨Nat.le_of_ble_eq_true rfl, Nat.le_of_ble_eq_true rfl⟩ hq.rm d_CL_chainPassage_4) ?_
  obtain ⟨q2, hv, hf⟩ := mbind hf
  obtain ⟨a, ha, hv⟩ := mbind hv
  obtain ⟨ha, fs, hm⟩ := mrc_e ha
  refine m_caWv (m_runV (As := [va_rf q1]) (r := some h0) (rest := []) X G I h_CL_chainPiece k_709 (c_CL_chainPiece hv) mPr_blind (m_pre G I) hm rfl ha rfl rfl hl.1 (Nat.le_of_ble_eq_true rfl) rfl rfl ⟨Nat.le_of_ble_eq_true rfl, Nat.le_of_ble_eq_true rfl⟩ hq.rm d_CL_chainPassage_7) I (fun H locs I => ?_)
  refine r_aload_n X d_CL_chainPassage_10 rfl (lv_at hl 0 rfl) ?_
  refine r_aload_n X d_CL_chainPassage_11 rfl (lv_at hl 1 rfl) ?_
  refine lv_iload_n hx hb d_CL_chainPassage_12 rfl (lv_at hl 3 rfl) ?_
  refine lv_iconst (v := 1) hx hb d_CL_chainPassage_13 (by decide) ?_
  obtain ⟨q3, hv, hf⟩ := mbind hf
  obtain ⟨a, ha, hv⟩ := mbind hv
  obtain ⟨ha, fs, hm⟩ := mrc_e ha
  refine m_caR (m_runV (As := [.int x3, .int (1 : Int32)]) (r := x1) (rest := [va_rf (some h0)]) X G I h_Profile_forthPiece k_717 (c_Profile_forthPiece hv) mPr_blind (m_pre G I) hm rfl ha rfl rfl hl.1 (Nat.le_of_ble_eq_true rfl) rfl rfl ⟨Nat.le_of_ble_eq_true rfl, Nat.le_of_ble_eq_true rfl⟩ hq.rm d_CL_chainPassage_14) ?_
  obtain ⟨q4, hv, hf⟩ := mbind hf
  obtain ⟨a, ha, hv⟩ := mbind hv
  obtain ⟨ha, fs, hm⟩ := mrc_e ha
  refine m_caWv (m_runV (As := [va_rf q3]) (r := some h0) (rest := []) X G I h_CL_chainPiece k_709 (c_CL_chainPiece hv) mPr_blind (m_pre G I) hm rfl ha rfl rfl hl.1 (Nat.le_of_ble_eq_true rfl) rfl rfl ⟨Nat.le_of_ble_eq_true rfl, Nat.le_of_ble_eq_true rfl⟩ hq.rm d_CL_chainPassage_17) I (fun H locs I => ?_)
  refine r_aload_n X d_CL_chainPassage_20 rfl (lv_at hl 1 rfl) ?_
  obtain ⟨q5, hv, hf⟩ := mbind hf
  obtain ⟨a, ha, hv⟩ := mbind hv
  obtain ⟨ha, fs, hm⟩ := mrc_e ha
  refine m_caR (m_runV (As := []) (r := x1) (rest := []) X G I h_Profile_space k_718 (c_Profile_space hv) mPr_blind (m_pre G I) hm rfl ha rfl rfl hl.1 (Nat.le_of_ble_eq_true rfl) rfl rfl ⟨Nat.le_of_ble_eq_true rfl, Nat.le_of_ble_eq_true rfl⟩ hq.rm d_CL_chainPassage_21) ?_
  refine lv_istore (i := 5) (lv' := [(5, .int q5), (0, va_rf (some h0)), (1, va_rf x1), (2, va_rf x2), (3, .int x3), (4, .int x4)]) hx hb d_CL_chainPassage_24 hl (by decide) rfl (fun ls hl => ?_)
  refine r_aload_n X d_CL_chainPassage_26 rfl (lv_at hl 2 rfl) ?_
  refine r_aload_n X d_CL_chainPassage_27 rfl (lv_at hl 3 rfl) ?_
  refine lv_iload_n hx hb d_CL_chainPassage_28 rfl (lv_at hl 4 rfl) ?_
  refine lv_iload hx hb d_CL_chainPassage_29 (lv_at hl 5 rfl) ?_
  obtain ⟨q6, hv, hf⟩ := mbind hf
  obtain ⟨hz1, hw1, hz2, hw2, hf⟩ := mmV_e hf
  have hrn := hq.rmN I hz1 hw1 hz2 hw2
  refine m_caN (m_runS (As := [va_rf x1, va_rf x2, .int x3, .int x4]) (rest := []) X h_CL_adjustment k_719 (c_CL_adjustment hv) mPn_blind (m_preN G I) rfl rfl hl.1 (Nat.le_of_ble_eq_true rfl) rfl rfl ⟨Nat.le_of_ble_eq_true rfl, Nat.le_of_ble_eq_true rfl⟩ hrn d_CL_chainPassage_31) I hq.1 hz1 hw1 (fun H locs I => ?_)
  have hq := hq.up hw1 hz2 hw2
  refine r_astore (i := 6) (lv' := [(6, va_rf q6.1), (5, .int q5), (0, va_rf (some h0)), (1, va_rf x1), (2, va_rf x2), (3, .int x3), (4, .int x4)]) X d_CL_chainPassage_34 hl (by decide) rfl (fun ls hl => ?_)
  refine r_aload X d_CL_chainPassage_36 (lv_at hl 0 rfl) ?_
  refine r_ifnull (tgt := 68) X d_CL_chainPassage_38 (by decide) (fun hc => ?_) (fun hc => ?_)
  · have hf := mift hf hc
    exact w_CL_chainPassage_68 X G hq I hf (lv_sub hl [2, 4, 5, 1] rfl)
  · have hf := miff hf hc
    refine r_aload_n X d_CL_chainPassage_41 rfl (lv_at hl 2 rfl) ?_
    refine lv_iload hx hb d_CL_chainPassage_42 (lv_at hl 1 rfl) ?_
    refine lv_iconst (v := 1) hx hb d_CL_chainPassage_44 (by decide) ?_
    refine lv_icmp_ne (tgt := 55) hx hb d_CL_chainPassage_45 (by decide) (fun hc => ?_) (fun hc => ?_)
    · have hf := miff hf hc
      refine r_null X d_CL_chainPassage_55 ?_
      exact w_CL_chainPassage_56 X G hq I hf (lv_sub hl [2, 4, 5, 0] rfl)
    · have hf := mift hf hc
      refine r_aload_n X d_CL_chainPassage_48 rfl (lv_at hl 2 rfl) ?_
      obtain ⟨v7, hv, hf⟩ := mbind hf
      refine r_getf X G I (mfA_e hv) o_CL_toXyz k_152 (Or.inl rfl) d_CL_chainPassage_49 ?_
      refine lv_goto (tgt := 56) hx hb d_CL_chainPassage_52 (by decide) ?_
      exact w_CL_chainPassage_56 X G hq I hf (lv_sub hl [2, 4, 5, 0] rfl)

set_option maxHeartbeats 4000000 in
set_option maxRecDepth 100000 in
theorem c_CL_chainPassage {l : Launch} {D : va_G} {cA : Nat → ClassId} {dA z0 : Nat} {μ : mM} {h0 : Nat} {z w : Nat} {x1 : Option Nat} {x2 : Option Nat} {x3 : Int32} {x4 : Int32} {r : mM × Nat × Nat} (hf : f_CL_chainPassage h0 μ z w x1 x2 x3 x4 = some r) : Met l y_CL_chainPassage (mW y_CL_chainPassage b_CL_chainPassage 7 none) (rm_CL_chainPassage (r.2.1 - z) (r.2.2 - w)) (va_Pc [.ref h0, va_rf x1, va_rf x2, .int x3, .int x4] (mPn D cA dA z0 μ z)) (mQN D cA z0 none r.1 r.2.1) (r.2.1 - z) (r.2.2 - w) (mA z0) := by
  refine Met.ofW (cc := b_CL_chainPassage) (maxL := 7) (ret := none) (by decide) rfl ?_
  intro p e s m args below meth c s₁ B hml hv
  obtain ⟨rfl, G, hP, rfl⟩ := hv
  have X := mX.of B hml
  refine m_entry (lv := [(0, va_rf (some h0)), (1, va_rf x1), (2, va_rf x2), (3, .int x3), (4, .int x4)]) (by simp [lg_sl, mrf_cat, mc_int, mc_long, mc_ref]) (by simp [lv_args, mrf_cat, mc_int, mc_long, mc_ref, mrf_some]) (fun ls hl => ?_)
  have h := w_CL_chainPassage (p := p) (l := l) (e := e) (below := below) X G (Nat.le_refl w) (mI.start hP) hf hl
  rw [Nat.sub_self s.heap.size, Nat.sub_self w] at h
  exact h

abbrev rm_Link_init (k n : Nat) : Room := { frames := 1, cells := k, slots := n, locals := 20 }
theorem h_Link_init : mCI y_Link_init b_Link_init 9 7 := ⟨k_742, k_90, ⟨by decide, by decide, by decide +kernel⟩, k_741, rfl⟩
set_option maxHeartbeats 4000000 in
set_option maxRecDepth 100000 in
theorem w_Link_init_98 {h0 : Nat} {ws : Nat} {r : mM × Nat × Nat} (X : mX p m meth c s args b_Link_init 9 none "ColourLinker$Link") (G : mG D cA dA z0 s) (hN : meth.name = "<init>") {H : Heap} {locs : List Loc} {μ : mM} {z w : Nat} {ls : Array Slot}  (hq : mq ws w z r.2.1 r.2.2) (I : mI D cA z0 s μ H locs z) (hf : f_Link_init_98 h0 μ z w = some r) (hl : lv_has ls 9 [(0, va_rf (some h0))]) : W p l e (rm_Link_init (r.2.1 - s.heap.size) (r.2.2 - ws)) s m args below meth c H locs (z - s.heap.size) (w - ws) (MQ below (mQN D cA z0 none r.1 r.2.1) args s (r.2.1 - s.heap.size) (r.2.2 - ws) (mA z0)) (F0 m 98 ls []) := by
  have hx := X.ex
  have hb := X.by_
  unfold f_Link_init_98 at hf
  obtain rfl := Option.some.inj hf
  exact r_vretN X I d_Link_init_98

set_option maxHeartbeats 4000000 in
set_option maxRecDepth 100000 in
theorem w_Link_init_73 {h0 : Nat} {ws : Nat} {r : mM × Nat × Nat} (X : mX p m meth c s args b_Link_init 9 none "ColourLinker$Link") (G : mG D cA dA z0 s) (hN : meth.name = "<init>") {kx98 : mM → Nat → Nat → Option (mM × Nat × Nat)} (hkx98 : ∀ (H : Heap) (locs : List Loc) (μ : mM) (z w : Nat) (ls : Array Slot), mq ws w z r.2.1 r.2.2 → mI D cA z0 s μ H locs z → kx98 μ z w = some r → lv_has ls 9 [(0, va_rf (some h0))] → W p l e (rm_Link_init (r.2.1 - s.heap.size) (r.2.2 - ws)) s m args below meth c H locs (z - s.heap.size) (w - ws) (MQ below (mQN D cA z0 none r.1 r.2.1) args s (r.2.1 - s.heap.size) (r.2.2 - ws) (mA z0)) (F0 m 98 ls [])) : ∀ (n : Nat) (H : Heap) (locs : List Loc) (μ : mM) (z w : Nat) (ls : Array Slot) (x6 : Option Nat) (x7 : Int32) (x8 : Int32), mq ws w z r.2.1 r.2.2 → mI D cA z0 s μ H locs z → f_Link_init_73 h0 kx98 n μ z w x6 x7 x8 = some r → lv_has ls 9 [(0, va_rf (some h0)), (6, va_rf x6), (7, .int x7), (8, .int x8)] → W p l e (rm_Link_init (r.2.1 - s.heap.size) (r.2.2 - ws)) s m args below meth c H locs (z - s.heap.size) (w - ws) (MQ below (mQN D cA z0 none r.1 r.2.1) args s (r.2.1 - s.heap.size) (r.2.2 - ws) (mA z0)) (F0 m 73 ls []) := by
  have hx := X.ex
  have hb := X.by_
  intro n
  induction n with
  | zero => intro H locs μ z w ls x6 x7 x8 hq I hf hl; rw [f_Link_init_73] at hf; cases hf
  | succ n ih =>
    intro H locs μ z w ls x6 x7 x8 hq I hf hl
    rw [f_Link_init_73] at hf
    refine lv_iload hx hb d_Link_init_73 (lv_at hl 3 rfl) ?_
    refine lv_iload hx hb d_Link_init_75 (lv_at hl 2 rfl) ?_
    refine lv_icmp_ge (tgt := 98) hx hb d_Link_init_77 (by decide) (fun hc => ?_) (fun hc => ?_)
    · have hf := mift hf hc
      exact hkx98 _ _ _ _ _ _ hq I hf (lv_sub hl [0] rfl)
    · have hf := miff hf hc
      refine r_aload_n X d_Link_init_80 rfl (lv_at hl 0 rfl) ?_
      obtain ⟨v12, hv, hf⟩ := mbind hf
      refine r_getf X G I (mfA_e hv) o_Link_row k_754 (Or.inl rfl) d_Link_init_81 ?_
      refine lv_iload hx hb d_Link_init_84 (lv_at hl 3 rfl) ?_
      refine r_aload X d_Link_init_86 (lv_at hl 1 rfl) ?_
      refine lv_iload hx hb d_Link_init_88 (lv_at hl 3 rfl) ?_
      obtain ⟨v13, hv, hf⟩ := mbind hf
      refine r_aald X G I hv d_Link_init_90 ?_
      obtain ⟨m14, hv, hf⟩ := mbind hf
      refine r_aast X G I hv d_Link_init_91 (fun H locs I => ?_)
      refine lv_iinc (i := 8) (k := 3) (v := (x8 + (1 : Int32))) (lv' := [(8, .int (x8 + (1 : Int32))), (0, va_rf (some h0)), (6, va_rf x6), (7, .int x7)]) hx hb d_Link_init_92 hl rfl (congrArg (fun t => x8 + t) (by decide : Int32.ofInt (1) = (1 : Int32))) (by decide) rfl (fun ls hl => ?_)
      refine lv_goto (tgt := 73) hx hb d_Link_init_95 (by decide) ?_
      exact ih _ _ _ _ _ _ _ _ _ hq I hf (lv_sub hl [1, 2, 3, 0] rfl)

set_option maxHeartbeats 4000000 in
set_option maxRecDepth 100000 in
theorem w_Link_init_58 {h0 : Nat} {ws : Nat} {r : mM × Nat × Nat} (X : mX p m meth c s args b_Link_init 9 none "ColourLinker$Link") (G : mG D cA dA z0 s) (hN : meth.name = "<init>") {H : Heap} {locs : List Loc} {μ : mM} {z w : Nat} {ls : Array Slot} {x6 : Option Nat} {x7 : Int32} {s0 : Option Nat} {s1 : Option Nat} (hq : mq ws w z r.2.1 r.2.2) (I : mI D cA z0 s μ H locs z) (hf : f_Link_init_58 h0 μ z w x6 x7 s0 s1 = some r) (hl : lv_has ls 9 [(0, va_rf (some h0)), (6, va_rf x6), (7, .int x7)]) : W p l e (rm_Link_init (r.2.1 - s.heap.size) (r.2.2 - ws)) s m args below meth c H locs (z - s.heap.size) (w - ws) (MQ below (mQN D cA z0 none r.1 r.2.1) args s (r.2.1 - s.heap.size) (r.2.2 - ws) (mA z0)) (F0 m 58 ls [va_rf s1, va_rf s0]) := by
  have hx := X.ex
  have hb := X.by_
  unfold f_Link_init_58 at hf
  obtain ⟨m9, hv, hf⟩ := mbind hf
  refine r_putF (ty := (.object "ColourLinker$Profile")) X G I hv o_Link_first k_752 hN (by decide) (mn_nA _) (mn_fA _) d_Link_init_58 (fun H locs I => ?_)
  refine r_aload_n X d_Link_init_61 rfl (lv_at hl 0 rfl) ?_
  refine lv_iload hx hb d_Link_init_62 (lv_at hl 2 rfl) ?_
  obtain ⟨m10, hv, hf⟩ := mbind hf
  obtain ⟨hz1, hw1, hz2, hw2, hf⟩ := mmV_e hf
  refine r_anew (k := 2) X G I hq.1 rfl rfl hv hz2 hw2 (by decide) rfl k_745 d_Link_init_64 (fun H I => ?_)
  have hq := hq.up hw1 hz2 hw2
  obtain ⟨m11, hv, hf⟩ := mbind hf
  refine r_putF (ty := .array (.object "ColourLinker$Piece")) X G I hv o_Link_row k_754 hN (by decide) (mn_nR _) (mn_fR _) d_Link_init_67 (fun H locs I => ?_)
  refine lv_iconst (v := 0) hx hb d_Link_init_70 (by decide) ?_
  refine lv_istore (i := 8) (lv' := [(8, .int (0 : Int32)), (0, va_rf (some h0)), (6, va_rf x6), (7, .int x7)]) hx hb d_Link_init_71 hl (by decide) rfl (fun ls hl => ?_)
  exact w_Link_init_73 X G hN (fun H locs μ z w ls hq I hf hl => w_Link_init_98 X G hN hq I hf hl) 4096 _ _ _ _ _ _ _ _ _ hq I hf (lv_sub hl [1, 2, 3, 0] rfl)

set_option maxHeartbeats 4000000 in
set_option maxRecDepth 100000 in
theorem w_Link_init {h0 : Nat} {ws : Nat} {r : mM × Nat × Nat} (X : mX p m meth c s args b_Link_init 9 none "ColourLinker$Link") (G : mG D cA dA z0 s) (hN : meth.name = "<init>") {H : Heap} {locs : List Loc} {μ : mM} {z w : Nat} {ls : Array Slot} {x1 : Option Nat} {x2 : Option Nat} {x3 : Option Nat} {x4 : Int32} {x5 : Int32} {x6 : Option Nat} {x7 : Int32} (hw : ws ≤ w) (I : mI D cA z0 s μ H locs z) (hf : f_Link_init h0 μ z w x1 x2 x3 x4 x5 x6 x7 = some r) (hl : lv_has ls 9 [(0, va_rf (some h0)), (1, va_rf x1), (2, va_rf x2), (3, va_rf x3), (4, .int x4), (5, .int x5), (6, va_rf x6), (7, .int x7)]) : W p l e (rm_Link_init (r.2.1 - s.heap.size) (r.2.2 - ws)) s m args below meth c H locs (z - s.heap.size) (w - ws) (MQ below (mQN D cA z0 none r.1 r.2.1) args s (r.2.1 - s.heap.size) (r.2.2 - ws) (mA z0)) (F0 m 0 ls []) := by
  have hx := X.ex
  have hb := X.by_
  unfold f_Link_init at hf
  obtain ⟨-, -, hz2, hw2, hf⟩ := mmV_e hf
  have hq : mq ws w z r.2.1 r.2.2 := ⟨hw, hz2, hw2⟩
  refine r_aload_n X d_Link_init_0 rfl (lv_at hl 0 rfl) ?_
  refine W.objInit hx hb X.ow (X.w k_743) (X.w k_97) (X.w k_98) rfl (by rw [X.ml]; exact hl.1) rfl d_Link_init_1 (Nat.le_of_ble_eq_true rfl) (Nat.le_of_ble_eq_true rfl) ?_
  refine W.eq (g2 := F0 m 4 ls []) rfl ?_
  refine r_aload_n X d_Link_init_4 rfl (lv_at hl 0 rfl) ?_
  refine lv_ldc2 (v := -1) hx hb X.ow (X.w k_744) d_Link_init_5 ?_
  obtain ⟨m1, hv, hf⟩ := mbind hf
  refine r_put (ty := .long) X G I hv o_Link_latestColour k_756 (Or.inl rfl) (by decide) rfl rfl d_Link_init_8 (fun H locs I => ?_)
  refine r_aload_n X d_Link_init_11 rfl (lv_at hl 0 rfl) ?_
  refine lv_ldc2 (v := -1) hx hb X.ow (X.w k_744) d_Link_init_12 ?_
  obtain ⟨m2, hv, hf⟩ := mbind hf
  refine r_put (ty := .long) X G I hv o_Link_latestAnswer k_758 (Or.inl rfl) (by decide) rfl rfl d_Link_init_15 (fun H locs I => ?_)
  refine r_aload_n X d_Link_init_18 rfl (lv_at hl 0 rfl) ?_
  refine r_aload_n X d_Link_init_19 rfl (lv_at hl 1 rfl) ?_
  obtain ⟨m3, hv, hf⟩ := mbind hf
  refine r_putF (ty := (.object "ColourLinker$Link")) X G I hv o_Link_base k_746 hN (by decide) (mn_nA _) (mn_fA _) d_Link_init_20 (fun H locs I => ?_)
  refine r_aload_n X d_Link_init_23 rfl (lv_at hl 0 rfl) ?_
  refine r_aload_n X d_Link_init_24 rfl (lv_at hl 2 rfl) ?_
  obtain ⟨m4, hv, hf⟩ := mbind hf
  refine r_putF (ty := (.object "ColourLinker$Profile")) X G I hv o_Link_from k_747 hN (by decide) (mn_nA _) (mn_fA _) d_Link_init_25 (fun H locs I => ?_)
  refine r_aload_n X d_Link_init_28 rfl (lv_at hl 0 rfl) ?_
  refine r_aload_n X d_Link_init_29 rfl (lv_at hl 3 rfl) ?_
  obtain ⟨m5, hv, hf⟩ := mbind hf
  refine r_putF (ty := (.object "ColourLinker$Profile")) X G I hv o_Link_to k_748 hN (by decide) (mn_nA _) (mn_fA _) d_Link_init_30 (fun H locs I => ?_)
  refine r_aload_n X d_Link_init_33 rfl (lv_at hl 0 rfl) ?_
  refine lv_iload hx hb d_Link_init_34 (lv_at hl 4 rfl) ?_
  obtain ⟨m6, hv, hf⟩ := mbind hf
  refine r_putF (ty := .int) X G I hv o_Link_intent k_750 hN (by decide) rfl rfl d_Link_init_36 (fun H locs I => ?_)
  refine r_aload_n X d_Link_init_39 rfl (lv_at hl 0 rfl) ?_
  refine lv_iload hx hb d_Link_init_40 (lv_at hl 5 rfl) ?_
  obtain ⟨m7, hv, hf⟩ := mbind hf
  obtain ⟨hz, hv⟩ := mpZ_e hv
  refine r_putF (ty := .boolean) X G I hv o_Link_asked k_751 hN (by decide) (mn_nZ hz) (mn_fZ hz) d_Link_init_42 (fun H locs I => ?_)
  refine r_aload_n X d_Link_init_45 rfl (lv_at hl 0 rfl) ?_
  refine r_aload_n X d_Link_init_46 rfl (lv_at hl 1 rfl) ?_
  refine r_ifnonnull (tgt := 54) X d_Link_init_47 (by decide) (fun hc => ?_) (fun hc => ?_)
  · have hf := miff hf hc
    refine r_aload_n X d_Link_init_54 rfl (lv_at hl 1 rfl) ?_
    obtain ⟨v8, hv, hf⟩ := mbind hf
    refine r_getf X G I (mfA_e hv) o_Link_first k_752 (Or.inl rfl) d_Link_init_55 ?_
    exact w_Link_init_58 X G hN hq I hf (lv_sub hl [0, 6, 7] rfl)
  · have hf := mift hf hc
    refine r_aload_n X d_Link_init_50 rfl (lv_at hl 2 rfl) ?_
    refine lv_goto (tgt := 58) hx hb d_Link_init_51 (by decide) ?_
    exact w_Link_init_58 X G hN hq I hf (lv_sub hl [0, 6, 7] rfl)

set_option maxHeartbeats 4000000 in
set_option maxRecDepth 100000 in
theorem c_Link_init {l : Launch} {D : va_G} {cA : Nat → ClassId} {dA z0 : Nat} {μ : mM} {h0 : Nat} {z w : Nat} {x1 : Option Nat} {x2 : Option Nat} {x3 : Option Nat} {x4 : Int32} {x5 : Int32} {x6 : Option Nat} {x7 : Int32} {r : mM × Nat × Nat} (hf : f_Link_init h0 μ z w x1 x2 x3 x4 x5 x6 x7 = some r) : Met l y_Link_init (mW y_Link_init b_Link_init 9 none) (rm_Link_init (r.2.1 - z) (r.2.2 - w)) (va_Pc [.ref h0, va_rf x1, va_rf x2, va_rf x3, .int x4, .int x5, va_rf x6, .int x7] (mPn D cA dA z0 μ z)) (mQN D cA z0 none r.1 r.2.1) (r.2.1 - z) (r.2.2 - w) (mA z0) := by
  refine Met.ofW (cc := b_Link_init) (maxL := 9) (ret := none) (by decide) rfl ?_
  intro p e s m args below meth c s₁ B hml hv
  obtain ⟨rfl, G, hP, rfl⟩ := hv
  have X := mX.of B hml
  have hN : meth.name = "<init>" := (name_of_methodNamed B.named B.method).1
  refine m_entry (lv := [(0, va_rf (some h0)), (1, va_rf x1), (2, va_rf x2), (3, va_rf x3), (4, .int x4), (5, .int x5), (6, va_rf x6), (7, .int x7)]) (by simp [lg_sl, mrf_cat, mc_int, mc_long, mc_ref]) (by simp [lv_args, mrf_cat, mc_int, mc_long, mc_ref, mrf_some]) (fun ls hl => ?_)
  have h := w_Link_init (p := p) (l := l) (e := e) (below := below) X G hN (Nat.le_refl w) (mI.start hP) hf hl
  rw [Nat.sub_self s.heap.size, Nat.sub_self w] at h
  exact h

abbrev rm_CL_join (k n : Nat) : Room := { frames := 6, cells := k, slots := n, locals := 145 }
theorem h_CL_join : mCV y_CL_join b_CL_join 9 (some .int) 5 := ⟨k_659, k_75, ⟨by decide, by decide, by decide +kernel⟩, k_658, k_20⟩
set_option maxHeartbeats 4000000 in
set_option maxRecDepth 100000 in
theorem w_CL_join_26 {h0 : Nat} {ws : Nat} {r : Int32 × mM × Nat × Nat} (X : mX p m meth c s args b_CL_join 9 (some .int) "ColourLinker") (G : mG D cA dA z0 s) {H : Heap} {locs : List Loc} {μ : mM} {z w : Nat} {ls : Array Slot} {x1 : Option Nat} {x2 : Option Nat} {x3 : Option Nat} {x4 : Int32} {s0 : Int32} (hq : mq ws w z r.2.2.1 r.2.2.2) (I : mI D cA z0 s μ H locs z) (hf : f_CL_join_26 h0 μ z w x1 x2 x3 x4 s0 = some r) (hl : lv_has ls 9 [(0, va_rf (some h0)), (1, va_rf x1), (2, va_rf x2), (3, va_rf x3), (4, .int x4)]) : W p l e (rm_CL_join (r.2.2.1 - s.heap.size) (r.2.2.2 - ws)) s m args below meth c H locs (z - s.heap.size) (w - ws) (MQ below (mQN D cA z0 (some (.int r.1)) r.2.1 r.2.2.1) args s (r.2.2.1 - s.heap.size) (r.2.2.2 - ws) (mA z0)) (F0 m 26 ls [.int s0]) := by
  have hx := X.ex
  have hb := X.by_
  unfold f_CL_join_26 at hf
  refine lv_istore (i := 6) (lv' := [(6, .int s0), (0, va_rf (some h0)), (1, va_rf x1), (2, va_rf x2), (3, va_rf x3), (4, .int x4)]) hx hb d_CL_join_26 hl (by decide) rfl (fun ls hl => ?_)
  refine r_aload_n X d_CL_join_28 rfl (lv_at hl 3 rfl) ?_
  refine r_aload_n X d_CL_join_29 rfl (lv_at hl 4 rfl) ?_
  refine lv_iload hx hb d_CL_join_30 (lv_at hl 5 rfl) ?_
  refine lv_iload hx hb d_CL_join_32 (lv_at hl 0 rfl) ?_
  obtain ⟨q1, hv, hf⟩ := mbind hf
  refine m_caR (m_runS (As := [va_rf x2, va_rf x3, .int x4, .int s0]) (rest := []) X h_CL_refusal k_660 (c_CL_refusal hv) mPr_blind (m_pre G I) rfl rfl hl.1 (Nat.le_of_ble_eq_true rfl) rfl rfl ⟨Nat.le_of_ble_eq_true rfl, Nat.le_of_ble_eq_true rfl⟩ hq.rm d_CL_join_34) ?_
  refine lv_istore (i := 7) (lv' := [(7, .int q1), (6, .int s0), (0, va_rf (some h0)), (1, va_rf x1), (2, va_rf x2), (3, va_rf x3), (4, .int x4)]) hx hb d_CL_join_37 hl (by decide) rfl (fun ls hl => ?_)
  refine lv_iload hx hb d_CL_join_39 (lv_at hl 0 rfl) ?_
  refine lv_if_eq (tgt := 47) hx hb d_CL_join_41 (by decide) (fun hc => ?_) (fun hc => ?_)
  · have hf := mift hf hc
    refine r_aload_n X d_CL_join_47 rfl (lv_at hl 2 rfl) ?_
    refine r_aload_n X d_CL_join_48 rfl (lv_at hl 3 rfl) ?_
    refine r_aload_n X d_CL_join_49 rfl (lv_at hl 4 rfl) ?_
    refine r_aload_n X d_CL_join_50 rfl (lv_at hl 5 rfl) ?_
    refine lv_iload hx hb d_CL_join_51 (lv_at hl 6 rfl) ?_
    refine lv_iload hx hb d_CL_join_53 (lv_at hl 1 rfl) ?_
    obtain ⟨q2, hv, hf⟩ := mbind hf
    obtain ⟨a, ha, hv⟩ := mbind hv
    obtain ⟨ha, fs, hm⟩ := mrc_e ha
    refine m_caR (m_runV (As := [va_rf x1, va_rf x2, va_rf x3, .int x4, .int s0]) (r := some h0) (rest := []) X G I h_CL_findMade k_697 (c_CL_findMade hv) mPr_blind (m_pre G I) hm rfl ha rfl rfl hl.1 (Nat.le_of_ble_eq_true rfl) rfl rfl ⟨Nat.le_of_ble_eq_true rfl, Nat.le_of_ble_eq_true rfl⟩ hq.rm d_CL_join_55) ?_
    refine lv_istore (i := 8) (lv' := [(8, .int q2), (7, .int q1), (6, .int s0), (0, va_rf (some h0)), (1, va_rf x1), (2, va_rf x2), (3, va_rf x3), (4, .int x4)]) hx hb d_CL_join_58 hl (by decide) rfl (fun ls hl => ?_)
    refine lv_iload hx hb d_CL_join_60 (lv_at hl 0 rfl) ?_
    refine lv_iconst (v := -1) hx hb d_CL_join_62 (by decide) ?_
    refine lv_icmp_eq (tgt := 69) hx hb d_CL_join_63 (by decide) (fun hc => ?_) (fun hc => ?_)
    · have hf := mift hf hc
      refine r_aload_n X d_CL_join_69 rfl (lv_at hl 3 rfl) ?_
      refine lv_iconst (v := 0) hx hb d_CL_join_70 (by decide) ?_
      obtain ⟨m3, hv, hf⟩ := mbind hf
      refine r_put (ty := .int) X G I hv o_CL_chainCount k_154 (Or.inl rfl) (by decide) rfl rfl d_CL_join_71 (fun H locs I => ?_)
      refine r_aload_n X d_CL_join_74 rfl (lv_at hl 3 rfl) ?_
      refine r_aload_n X d_CL_join_75 rfl (lv_at hl 4 rfl) ?_
      obtain ⟨q4, hv, hf⟩ := mbind hf
      obtain ⟨a, ha, hv⟩ := mbind hv
      obtain ⟨ha, fs, hm⟩ := mrc_e ha
      refine m_caWv (m_runV (As := [va_rf x1]) (r := some h0) (rest := []) X G I h_CL_chainLink k_705 (c_CL_chainLink hv) mPr_blind (m_pre G I) hm rfl ha rfl rfl hl.1 (Nat.le_of_ble_eq_true rfl) rfl rfl ⟨Nat.le_of_ble_eq_true rfl, Nat.le_of_ble_eq_true rfl⟩ hq.rm d_CL_join_76) I (fun H locs I => ?_)
      refine r_aload_n X d_CL_join_79 rfl (lv_at hl 3 rfl) ?_
      refine r_aload_n X d_CL_join_80 rfl (lv_at hl 5 rfl) ?_
      refine r_aload_n X d_CL_join_81 rfl (lv_at hl 6 rfl) ?_
      refine lv_iload hx hb d_CL_join_82 (lv_at hl 7 rfl) ?_
      refine lv_iload hx hb d_CL_join_84 (lv_at hl 2 rfl) ?_
      obtain ⟨q5, hv, hf⟩ := mbind hf
      obtain ⟨hz1, hw1, hz2, hw2, hf⟩ := mmT_e hf
      have hrn := hq.rmN I hz1 hw1 hz2 hw2
      obtain ⟨a, ha, hv⟩ := mbind hv
      obtain ⟨ha, fs, hm⟩ := mrc_e ha
      refine m_caNv (m_runV (As := [va_rf x2, va_rf x3, .int x4, .int s0]) (r := some h0) (rest := []) X G I h_CL_chainPassage k_713 (c_CL_chainPassage hv) mPn_blind (m_preN G I) hm rfl ha rfl rfl hl.1 (Nat.le_of_ble_eq_true rfl) rfl rfl ⟨Nat.le_of_ble_eq_true rfl, Nat.le_of_ble_eq_true rfl⟩ hrn d_CL_join_86) I hq.1 hz1 hw1 (fun H locs I => ?_)
      have hq := hq.up hw1 hz2 hw2
      refine r_aload_n X d_CL_join_89 rfl (lv_at hl 3 rfl) ?_
      obtain ⟨v6, hv, hf⟩ := mbind hf
      refine r_getf X G I (mfI_e hv) o_CL_chainCount k_154 (Or.inl rfl) d_CL_join_90 ?_
      refine lv_bipush (v := 24) hx hb d_CL_join_93 (by decide) ?_
      refine lv_icmp_le (tgt := 101) hx hb d_CL_join_95 (by decide) (fun hc => ?_) (fun hc => ?_)
      · have hf := mift hf hc
        refine r_aload_n X d_CL_join_101 rfl (lv_at hl 3 rfl) ?_
        obtain ⟨v7, hv, hf⟩ := mbind hf
        refine r_getf X G I (mfI_e hv) o_CL_madeCount k_150 (Or.inl rfl) d_CL_join_102 ?_
        refine lv_bipush (v := 16) hx hb d_CL_join_105 (by decide) ?_
        refine lv_icmp_lt (tgt := 113) hx hb d_CL_join_107 (by decide) (fun hc => ?_) (fun hc => ?_)
        · have hf := mift hf hc
          refine r_aload_n X d_CL_join_113 rfl (lv_at hl 3 rfl) ?_
          obtain ⟨v8, hv, hf⟩ := mbind hf
          refine r_getf X G I (mfA_e hv) o_CL_made k_149 (Or.inl rfl) d_CL_join_114 ?_
          refine r_aload_n X d_CL_join_117 rfl (lv_at hl 3 rfl) ?_
          obtain ⟨v9, hv, hf⟩ := mbind hf
          refine r_getf X G I (mfI_e hv) o_CL_madeCount k_150 (Or.inl rfl) d_CL_join_118 ?_
          obtain ⟨m10, hv, hf⟩ := mbind hf
          obtain ⟨hz1, hw1, hz2, hw2, hf⟩ := mmT_e hf
          refine r_new (N := 9) X G I hq.1 rfl rfl hv hz2 hw2 (C := "ColourLinker$Link") (T := T_Link) rfl (by decide +kernel) k_116 k_739 k_90 d_CL_join_121 (fun H I => ?_)
          have hq := hq.up hw1 hz2 hw2
          refine lv_dup hx hb d_CL_join_124 (mrf_cat _) ?_
          refine r_aload_n X d_CL_join_125 rfl (lv_at hl 4 rfl) ?_
          refine r_aload_n X d_CL_join_126 rfl (lv_at hl 5 rfl) ?_
          refine r_aload_n X d_CL_join_127 rfl (lv_at hl 6 rfl) ?_
          refine lv_iload hx hb d_CL_join_128 (lv_at hl 7 rfl) ?_
          refine lv_iload hx hb d_CL_join_130 (lv_at hl 2 rfl) ?_
          refine r_aload_n X d_CL_join_132 rfl (lv_at hl 3 rfl) ?_
          obtain ⟨v11, hv, hf⟩ := mbind hf
          refine r_getf X G I (mfA_e hv) o_CL_chain k_153 (Or.inl rfl) d_CL_join_133 ?_
          refine r_aload_n X d_CL_join_136 rfl (lv_at hl 3 rfl) ?_
          obtain ⟨v12, hv, hf⟩ := mbind hf
          refine r_getf X G I (mfI_e hv) o_CL_chainCount k_154 (Or.inl rfl) d_CL_join_137 ?_
          obtain ⟨q13, hv, hf⟩ := mbind hf
          obtain ⟨hz1, hw1, hz2, hw2, hf⟩ := mmT_e hf
          have hrn := hq.rmN I hz1 hw1 hz2 hw2
          obtain ⟨a, ha, hv⟩ := mbind hv
          refine m_caNv (m_runI (As := [va_rf x1, va_rf x2, va_rf x3, .int x4, .int s0, va_rf v11, .int v12]) (r := some q5.2.1) (rest := [va_rf (some q5.2.1), .int v9, va_rf v8]) X h_Link_init k_740 (c_Link_init hv) mPn_blind (m_preN G I) ha rfl rfl hl.1 (Nat.le_of_ble_eq_true rfl) rfl rfl ⟨Nat.le_of_ble_eq_true rfl, Nat.le_of_ble_eq_true rfl⟩ hrn d_CL_join_140) I hq.1 hz1 hw1 (fun H locs I => ?_)
          have hq := hq.up hw1 hz2 hw2
          obtain ⟨m14, hv, hf⟩ := mbind hf
          refine r_aast X G I hv d_CL_join_143 (fun H locs I => ?_)
          refine r_aload_n X d_CL_join_144 rfl (lv_at hl 3 rfl) ?_
          refine lv_dup hx hb d_CL_join_145 (mrf_cat _) ?_
          obtain ⟨v15, hv, hf⟩ := mbind hf
          refine r_getf X G I (mfI_e hv) o_CL_madeCount k_150 (Or.inl rfl) d_CL_join_146 ?_
          refine lv_iconst (v := 1) hx hb d_CL_join_149 (by decide) ?_
          refine lv_iadd hx hb d_CL_join_150 ?_
          obtain ⟨m16, hv, hf⟩ := mbind hf
          refine r_put (ty := .int) X G I hv o_CL_madeCount k_150 (Or.inl rfl) (by decide) rfl rfl d_CL_join_151 (fun H locs I => ?_)
          refine r_aload_n X d_CL_join_154 rfl (lv_at hl 3 rfl) ?_
          obtain ⟨v17, hv, hf⟩ := mbind hf
          refine r_getf X G I (mfI_e hv) o_CL_madeCount k_150 (Or.inl rfl) d_CL_join_155 ?_
          refine lv_iconst (v := 1) hx hb d_CL_join_158 (by decide) ?_
          refine lv_isub hx hb d_CL_join_159 ?_
          obtain rfl := Option.some.inj hf
          exact r_iretN X I d_CL_join_160
        · have hf := miff hf hc
          refine lv_bipush (v := -8) hx hb d_CL_join_110 (by decide) ?_
          obtain rfl := Option.some.inj hf
          exact r_iretN X I d_CL_join_112
      · have hf := miff hf hc
        refine lv_bipush (v := -9) hx hb d_CL_join_98 (by decide) ?_
        obtain rfl := Option.some.inj hf
        exact r_iretN X I d_CL_join_100
    · have hf := miff hf hc
      refine lv_iload hx hb d_CL_join_66 (lv_at hl 0 rfl) ?_
      obtain rfl := Option.some.inj hf
      exact r_iretN X I d_CL_join_68
  · have hf := miff hf hc
    refine lv_iload hx hb d_CL_join_44 (lv_at hl 0 rfl) ?_
    obtain rfl := Option.some.inj hf
    exact r_iretN X I d_CL_join_46

set_option maxHeartbeats 4000000 in
set_option maxRecDepth 100000 in
theorem w_CL_join_25 {h0 : Nat} {ws : Nat} {r : Int32 × mM × Nat × Nat} (X : mX p m meth c s args b_CL_join 9 (some .int) "ColourLinker") (G : mG D cA dA z0 s) {H : Heap} {locs : List Loc} {μ : mM} {z w : Nat} {ls : Array Slot} {x1 : Option Nat} {x2 : Option Nat} {x3 : Option Nat} {x4 : Int32} (hq : mq ws w z r.2.2.1 r.2.2.2) (I : mI D cA z0 s μ H locs z) (hf : f_CL_join_25 h0 μ z w x1 x2 x3 x4 = some r) (hl : lv_has ls 9 [(0, va_rf (some h0)), (1, va_rf x1), (2, va_rf x2), (3, va_rf x3), (4, .int x4)]) : W p l e (rm_CL_join (r.2.2.1 - s.heap.size) (r.2.2.2 - ws)) s m args below meth c H locs (z - s.heap.size) (w - ws) (MQ below (mQN D cA z0 (some (.int r.1)) r.2.1 r.2.2.1) args s (r.2.2.1 - s.heap.size) (r.2.2.2 - ws) (mA z0)) (F0 m 25 ls []) := by
  have hx := X.ex
  have hb := X.by_
  unfold f_CL_join_25 at hf
  refine lv_iconst (v := 0) hx hb d_CL_join_25 (by decide) ?_
  exact w_CL_join_26 X G hq I hf hl

set_option maxHeartbeats 4000000 in
set_option maxRecDepth 100000 in
theorem w_CL_join_8 {h0 : Nat} {ws : Nat} {r : Int32 × mM × Nat × Nat} (X : mX p m meth c s args b_CL_join 9 (some .int) "ColourLinker") (G : mG D cA dA z0 s) {H : Heap} {locs : List Loc} {μ : mM} {z w : Nat} {ls : Array Slot}  (hq : mq ws w z r.2.2.1 r.2.2.2) (I : mI D cA z0 s μ H locs z) (hf : f_CL_join_8 h0 μ z w = some r) (hl : lv_has ls 9 [(0, va_rf (some h0))]) : W p l e (rm_CL_join (r.2.2.1 - s.heap.size) (r.2.2.2 - ws)) s m args below meth c H locs (z - s.heap.size) (w - ws) (MQ below (mQN D cA z0 (some (.int r.1)) r.2.1 r.2.2.1) args s (r.2.2.1 - s.heap.size) (r.2.2.2 - ws) (mA z0)) (F0 m 8 ls []) := by
  have hx := X.ex
  have hb := X.by_
  unfold f_CL_join_8 at hf
  refine lv_iconst (v := -1) hx hb d_CL_join_8 (by decide) ?_
  obtain rfl := Option.some.inj hf
  exact r_iretN X I d_CL_join_9

set_option maxHeartbeats 4000000 in
set_option maxRecDepth 100000 in
theorem w_CL_join {h0 : Nat} {ws : Nat} {r : Int32 × mM × Nat × Nat} (X : mX p m meth c s args b_CL_join 9 (some .int) "ColourLinker") (G : mG D cA dA z0 s) {H : Heap} {locs : List Loc} {μ : mM} {z w : Nat} {ls : Array Slot} {x1 : Option Nat} {x2 : Option Nat} {x3 : Option Nat} {x4 : Int32} {x5 : Int32} (hw : ws ≤ w) (I : mI D cA z0 s μ H locs z) (hf : f_CL_join h0 μ z w x1 x2 x3 x4 x5 = some r) (hl : lv_has ls 9 [(0, va_rf (some h0)), (1, va_rf x1), (2, va_rf x2), (3, va_rf x3), (4, .int x4), (5, .int x5)]) : W p l e (rm_CL_join (r.2.2.1 - s.heap.size) (r.2.2.2 - ws)) s m args below meth c H locs (z - s.heap.size) (w - ws) (MQ below (mQN D cA z0 (some (.int r.1)) r.2.1 r.2.2.1) args s (r.2.2.1 - s.heap.size) (r.2.2.2 - ws) (mA z0)) (F0 m 0 ls []) := by
  have hx := X.ex
  have hb := X.by_
  unfold f_CL_join at hf
  obtain ⟨-, -, hz2, hw2, hf⟩ := mmT_e hf
  have hq : mq ws w z r.2.2.1 r.2.2.2 := ⟨hw, hz2, hw2⟩
  refine r_aload_n X d_CL_join_0 rfl (lv_at hl 2 rfl) ?_
  refine r_ifnull (tgt := 8) X d_CL_join_1 (by decide) (fun hc => ?_) (fun hc => ?_)
  · have hf := mift hf hc
    exact w_CL_join_8 X G hq I hf (lv_sub hl [0] rfl)
  · have hf := miff hf hc
    refine r_aload_n X d_CL_join_4 rfl (lv_at hl 3 rfl) ?_
    refine r_ifnonnull (tgt := 10) X d_CL_join_5 (by decide) (fun hc => ?_) (fun hc => ?_)
    · have hf := miff hf hc
      refine lv_iload hx hb d_CL_join_10 (lv_at hl 5 rfl) ?_
      refine lv_if_eq (tgt := 25) hx hb d_CL_join_12 (by decide) (fun hc => ?_) (fun hc => ?_)
      · have hf := mift hf hc
        exact w_CL_join_25 X G hq I hf (lv_sub hl [0, 1, 2, 3, 4] rfl)
      · have hf := miff hf hc
        refine lv_iload hx hb d_CL_join_15 (lv_at hl 4 rfl) ?_
        refine lv_iconst (v := 3) hx hb d_CL_join_17 (by decide) ?_
        refine lv_icmp_eq (tgt := 25) hx hb d_CL_join_18 (by decide) (fun hc => ?_) (fun hc => ?_)
        · have hf := mift hf hc
          exact w_CL_join_25 X G hq I hf (lv_sub hl [0, 1, 2, 3, 4] rfl)
        · have hf := miff hf hc
          refine lv_iconst (v := 1) hx hb d_CL_join_21 (by decide) ?_
          refine lv_goto (tgt := 26) hx hb d_CL_join_22 (by decide) ?_
          exact w_CL_join_26 X G hq I hf (lv_sub hl [0, 1, 2, 3, 4] rfl)
    · have hf := mift hf hc
      exact w_CL_join_8 X G hq I hf (lv_sub hl [0] rfl)

set_option maxHeartbeats 4000000 in
set_option maxRecDepth 100000 in
theorem c_CL_join {l : Launch} {D : va_G} {cA : Nat → ClassId} {dA z0 : Nat} {μ : mM} {h0 : Nat} {z w : Nat} {x1 : Option Nat} {x2 : Option Nat} {x3 : Option Nat} {x4 : Int32} {x5 : Int32} {r : Int32 × mM × Nat × Nat} (hf : f_CL_join h0 μ z w x1 x2 x3 x4 x5 = some r) : Met l y_CL_join (mW y_CL_join b_CL_join 9 (some .int)) (rm_CL_join (r.2.2.1 - z) (r.2.2.2 - w)) (va_Pc [.ref h0, va_rf x1, va_rf x2, va_rf x3, .int x4, .int x5] (mPn D cA dA z0 μ z)) (mQN D cA z0 (some (.int r.1)) r.2.1 r.2.2.1) (r.2.2.1 - z) (r.2.2.2 - w) (mA z0) := by
  refine Met.ofW (cc := b_CL_join) (maxL := 9) (ret := (some .int)) (by decide) rfl ?_
  intro p e s m args below meth c s₁ B hml hv
  obtain ⟨rfl, G, hP, rfl⟩ := hv
  have X := mX.of B hml
  refine m_entry (lv := [(0, va_rf (some h0)), (1, va_rf x1), (2, va_rf x2), (3, va_rf x3), (4, .int x4), (5, .int x5)]) (by simp [lg_sl, mrf_cat, mc_int, mc_long, mc_ref]) (by simp [lv_args, mrf_cat, mc_int, mc_long, mc_ref, mrf_some]) (fun ls hl => ?_)
  have h := w_CL_join (p := p) (l := l) (e := e) (below := below) X G (Nat.le_refl w) (mI.start hP) hf hl
  rw [Nat.sub_self s.heap.size, Nat.sub_self w] at h
  exact h

abbrev rm_CL_link (k n : Nat) : Room := { frames := 7, cells := k, slots := n, locals := 173 }
theorem h_CL_link : mCV y_CL_link b_CL_link 5 (some .int) 4 := ⟨k_655, k_75, ⟨by decide, by decide, by decide +kernel⟩, k_653, k_654⟩
set_option maxHeartbeats 4000000 in
set_option maxRecDepth 100000 in
theorem w_CL_link {h0 : Nat} {ws : Nat} {r : Int32 × mM × Nat × Nat} (X : mX p m meth c s args b_CL_link 5 (some .int) "ColourLinker") (G : mG D cA dA z0 s) {H : Heap} {locs : List Loc} {μ : mM} {z w : Nat} {ls : Array Slot} {x1 : Int32} {x2 : Int32} {x3 : Int32} {x4 : Int32} (hw : ws ≤ w) (I : mI D cA z0 s μ H locs z) (hf : f_CL_link h0 μ z w x1 x2 x3 x4 = some r) (hl : lv_has ls 5 [(0, va_rf (some h0)), (1, .int x1), (2, .int x2), (3, .int x3), (4, .int x4)]) : W p l e (rm_CL_link (r.2.2.1 - s.heap.size) (r.2.2.2 - ws)) s m args below meth c H locs (z - s.heap.size) (w - ws) (MQ below (mQN D cA z0 (some (.int r.1)) r.2.1 r.2.2.1) args s (r.2.2.1 - s.heap.size) (r.2.2.2 - ws) (mA z0)) (F0 m 0 ls []) := by
  have hx := X.ex
  have hb := X.by_
  unfold f_CL_link at hf
  obtain ⟨-, -, hz2, hw2, hf⟩ := mmT_e hf
  have hq : mq ws w z r.2.2.1 r.2.2.2 := ⟨hw, hz2, hw2⟩
  refine r_aload_n X d_CL_link_0 rfl (lv_at hl 0 rfl) ?_
  refine r_null X d_CL_link_1 ?_
  refine r_aload_n X d_CL_link_2 rfl (lv_at hl 0 rfl) ?_
  refine lv_iload_n hx hb d_CL_link_3 rfl (lv_at hl 1 rfl) ?_
  obtain ⟨q1, hv, hf⟩ := mbind hf
  obtain ⟨a, ha, hv⟩ := mbind hv
  obtain ⟨ha, fs, hm⟩ := mrc_e ha
  refine m_caR (m_runV (As := [.int x1]) (r := some h0) (rest := [va_rf none, va_rf (some h0)]) X G I h_CL_profileAt k_617 (c_CL_profileAt hv) mPr_blind (m_pre G I) hm rfl ha rfl rfl hl.1 (Nat.le_of_ble_eq_true rfl) rfl rfl ⟨Nat.le_of_ble_eq_true rfl, Nat.le_of_ble_eq_true rfl⟩ hq.rm d_CL_link_4) ?_
  refine r_aload_n X d_CL_link_7 rfl (lv_at hl 0 rfl) ?_
  refine lv_iload_n hx hb d_CL_link_8 rfl (lv_at hl 2 rfl) ?_
  obtain ⟨q2, hv, hf⟩ := mbind hf
  obtain ⟨a, ha, hv⟩ := mbind hv
  obtain ⟨ha, fs, hm⟩ := mrc_e ha
  refine m_caR (m_runV (As := [.int x2]) (r := some h0) (rest := [va_rf q1, va_rf none, va_rf (some h0)]) X G I h_CL_profileAt k_617 (c_CL_profileAt hv) mPr_blind (m_pre G I) hm rfl ha rfl rfl hl.1 (Nat.le_of_ble_eq_true rfl) rfl rfl ⟨Nat.le_of_ble_eq_true rfl, Nat.le_of_ble_eq_true rfl⟩ hq.rm d_CL_link_9) ?_
  refine lv_iload_n hx hb d_CL_link_12 rfl (lv_at hl 3 rfl) ?_
  refine lv_iload hx hb d_CL_link_13 (lv_at hl 4 rfl) ?_
  obtain ⟨q3, hv, hf⟩ := mbind hf
  obtain ⟨hz1, hw1, hz2, hw2, hf⟩ := mmT_e hf
  have hrn := hq.rmN I hz1 hw1 hz2 hw2
  obtain ⟨a, ha, hv⟩ := mbind hv
  obtain ⟨ha, fs, hm⟩ := mrc_e ha
  refine m_caN (m_runV (As := [va_rf none, va_rf q1, va_rf q2, .int x3, .int x4]) (r := some h0) (rest := []) X G I h_CL_join k_656 (c_CL_join hv) mPn_blind (m_preN G I) hm rfl ha rfl rfl hl.1 (Nat.le_of_ble_eq_true rfl) rfl rfl ⟨Nat.le_of_ble_eq_true rfl, Nat.le_of_ble_eq_true rfl⟩ hrn d_CL_link_15) I hq.1 hz1 hw1 (fun H locs I => ?_)
  have hq := hq.up hw1 hz2 hw2
  obtain rfl := Option.some.inj hf
  exact r_iretN X I d_CL_link_18

set_option maxHeartbeats 4000000 in
set_option maxRecDepth 100000 in
theorem c_CL_link {l : Launch} {D : va_G} {cA : Nat → ClassId} {dA z0 : Nat} {μ : mM} {h0 : Nat} {z w : Nat} {x1 : Int32} {x2 : Int32} {x3 : Int32} {x4 : Int32} {r : Int32 × mM × Nat × Nat} (hf : f_CL_link h0 μ z w x1 x2 x3 x4 = some r) : Met l y_CL_link (mW y_CL_link b_CL_link 5 (some .int)) (rm_CL_link (r.2.2.1 - z) (r.2.2.2 - w)) (va_Pc [.ref h0, .int x1, .int x2, .int x3, .int x4] (mPn D cA dA z0 μ z)) (mQN D cA z0 (some (.int r.1)) r.2.1 r.2.2.1) (r.2.2.1 - z) (r.2.2.2 - w) (mA z0) := by
  refine Met.ofW (cc := b_CL_link) (maxL := 5) (ret := (some .int)) (by decide) rfl ?_
  intro p e s m args below meth c s₁ B hml hv
  obtain ⟨rfl, G, hP, rfl⟩ := hv
  have X := mX.of B hml
  refine m_entry (lv := [(0, va_rf (some h0)), (1, .int x1), (2, .int x2), (3, .int x3), (4, .int x4)]) (Nat.le_of_ble_eq_true rfl) rfl (fun ls hl => ?_)
  have h := w_CL_link (p := p) (l := l) (e := e) (below := below) X G (Nat.le_refl w) (mI.start hP) hf hl
  rw [Nat.sub_self s.heap.size, Nat.sub_self w] at h
  exact h

abbrev rm_Mo_single : Room := { frames := 1, cells := 0, slots := 0, locals := 22 }
theorem h_Mo_single : mCV y_Mo_single b_Mo_single 2 (some .boolean) 1 := ⟨k_1024, k_79, ⟨by decide, by decide, by decide +kernel⟩, k_1023, k_42⟩
set_option maxHeartbeats 4000000 in
set_option maxRecDepth 100000 in
theorem w_Mo_single_15 {μ : mM} {h0 : Nat} {r : Int32} (X : mX p m meth c s args b_Mo_single 2 (some .boolean) "ColourLinkerModel") (G : mG D cA dA z0 s) (I : mI D cA z0 s μ s.heap [] s.heap.size) {ls : Array Slot} {s0 : Int32} (hf : f_Mo_single_15 μ h0 s0 = some r) (hl : lv_has ls 2 [(0, va_rf (some h0))]) : W p l e rm_Mo_single s m args below meth c s.heap [] 0 0 (MQ below (mQR (some (.int r))) args s 0 0 (fun _ => False)) (F0 m 15 ls [.int s0]) := by
  have hx := X.ex
  have hb := X.by_
  unfold f_Mo_single_15 at hf
  obtain ⟨v2, hv, hf⟩ := mbind hf
  obtain ⟨hz0, hz⟩ := mz_e hv
  rw [hz0] at hf
  obtain rfl := Option.some.inj hf
  exact r_zretR X hz d_Mo_single_15

set_option maxHeartbeats 4000000 in
set_option maxRecDepth 100000 in
theorem w_Mo_single {μ : mM} {h0 : Nat} {r : Int32} (X : mX p m meth c s args b_Mo_single 2 (some .boolean) "ColourLinkerModel") (G : mG D cA dA z0 s) (I : mI D cA z0 s μ s.heap [] s.heap.size) {ls : Array Slot} {x1 : Int32} (hf : f_Mo_single μ h0 x1 = some r) (hl : lv_has ls 2 [(0, va_rf (some h0)), (1, .int x1)]) : W p l e rm_Mo_single s m args below meth c s.heap [] 0 0 (MQ below (mQR (some (.int r))) args s 0 0 (fun _ => False)) (F0 m 0 ls []) := by
  have hx := X.ex
  have hb := X.by_
  unfold f_Mo_single at hf
  refine r_aload_n X d_Mo_single_0 rfl (lv_at hl 0 rfl) ?_
  refine lv_iload_n hx hb d_Mo_single_1 rfl (lv_at hl 1 rfl) ?_
  refine lv_iconst (v := 3) hx hb d_Mo_single_2 (by decide) ?_
  obtain ⟨q1, hv, hf⟩ := mbind hf
  obtain ⟨a, ha, hv⟩ := mbind hv
  obtain ⟨ha, fs, hm⟩ := mrc_e ha
  refine m_caR (m_runV (As := [.int x1, .int (3 : Int32)]) (r := some h0) (rest := []) X G I h_Mo_part k_955 (c_Mo_part hv) mPr_blind (m_pre G I) hm rfl ha rfl rfl hl.1 (Nat.le_of_ble_eq_true rfl) rfl rfl ⟨Nat.le_of_ble_eq_true rfl, Nat.le_of_ble_eq_true rfl⟩ ⟨Nat.le_refl _, Nat.le_refl _⟩ d_Mo_single_3) ?_
  refine lv_iconst (v := 1) hx hb d_Mo_single_6 (by decide) ?_
  refine lv_icmp_ne (tgt := 14) hx hb d_Mo_single_7 (by decide) (fun hc => ?_) (fun hc => ?_)
  · have hf := miff hf hc
    refine lv_iconst (v := 0) hx hb d_Mo_single_14 (by decide) ?_
    exact w_Mo_single_15 X G I hf (lv_sub hl [0] rfl)
  · have hf := mift hf hc
    refine lv_iconst (v := 1) hx hb d_Mo_single_10 (by decide) ?_
    refine lv_goto (tgt := 15) hx hb d_Mo_single_11 (by decide) ?_
    exact w_Mo_single_15 X G I hf (lv_sub hl [0] rfl)

set_option maxHeartbeats 4000000 in
set_option maxRecDepth 100000 in
theorem c_Mo_single {l : Launch} {D : va_G} {cA : Nat → ClassId} {dA z0 : Nat} {μ : mM} {h0 : Nat} {x1 : Int32} {r : Int32} (hf : f_Mo_single μ h0 x1 = some r) : Met l y_Mo_single (mW y_Mo_single b_Mo_single 2 (some .boolean)) rm_Mo_single (va_Pc [.ref h0, .int x1] (mPr D cA dA z0 μ)) (mQR (some (.int r))) 0 0 (fun _ => False) := by
  refine Met.ofW (cc := b_Mo_single) (maxL := 2) (ret := (some .boolean)) (by decide) rfl ?_
  intro p e s m args below meth c s₁ B hml hv
  obtain ⟨rfl, G, hP⟩ := hv
  have X := mX.of B hml
  exact m_entry (lv := [(0, va_rf (some h0)), (1, .int x1)]) (Nat.le_of_ble_eq_true rfl) rfl (fun ls hl => w_Mo_single X G (mI.start hP) hf hl)

abbrev rm_Mo_grid : Room := { frames := 2, cells := 0, slots := 0, locals := 46 }
theorem h_Mo_grid : mCV y_Mo_grid b_Mo_grid 5 (some .int) 3 := ⟨k_1028, k_79, ⟨by decide, by decide, by decide +kernel⟩, k_1027, k_43⟩
set_option maxHeartbeats 4000000 in
set_option maxRecDepth 100000 in
theorem w_Mo_grid_43 {μ : mM} {h0 : Nat} {r : Int32} (X : mX p m meth c s args b_Mo_grid 5 (some .int) "ColourLinkerModel") (G : mG D cA dA z0 s) (I : mI D cA z0 s μ s.heap [] s.heap.size) {ls : Array Slot} {s0 : Int32} (hf : f_Mo_grid_43 μ h0 s0 = some r) (hl : lv_has ls 5 [(0, va_rf (some h0))]) : W p l e rm_Mo_grid s m args below meth c s.heap [] 0 0 (MQ below (mQR (some (.int r))) args s 0 0 (fun _ => False)) (F0 m 43 ls [.int s0]) := by
  have hx := X.ex
  have hb := X.by_
  unfold f_Mo_grid_43 at hf
  obtain rfl := Option.some.inj hf
  exact r_iretR X d_Mo_grid_43

set_option maxHeartbeats 4000000 in
set_option maxRecDepth 100000 in
theorem w_Mo_grid_11 {μ : mM} {h0 : Nat} {r : Int32} (X : mX p m meth c s args b_Mo_grid 5 (some .int) "ColourLinkerModel") (G : mG D cA dA z0 s) (I : mI D cA z0 s μ s.heap [] s.heap.size) {ls : Array Slot} {x1 : Int32} {x2 : Int32} {s0 : Int32} {s1 : Int32} (hf : f_Mo_grid_11 μ h0 x1 x2 s0 s1 = some r) (hl : lv_has ls 5 [(0, va_rf (some h0)), (1, .int x1), (2, .int x2)]) : W p l e rm_Mo_grid s m args below meth c s.heap [] 0 0 (MQ below (mQR (some (.int r))) args s 0 0 (fun _ => False)) (F0 m 11 ls [.int s1, .int s0]) := by
  have hx := X.ex
  have hb := X.by_
  unfold f_Mo_grid_11 at hf
  refine lv_iadd hx hb d_Mo_grid_11 ?_
  refine lv_istore (i := 4) (lv' := [(4, .int (s0 + s1)), (0, va_rf (some h0)), (1, .int x1), (2, .int x2)]) hx hb d_Mo_grid_12 hl (by decide) rfl (fun ls hl => ?_)
  refine r_aload_n X d_Mo_grid_14 rfl (lv_at hl 1 rfl) ?_
  refine lv_iload_n hx hb d_Mo_grid_15 rfl (lv_at hl 2 rfl) ?_
  refine lv_iload hx hb d_Mo_grid_16 (lv_at hl 0 rfl) ?_
  obtain ⟨q1, hv, hf⟩ := mbind hf
  obtain ⟨a, ha, hv⟩ := mbind hv
  obtain ⟨ha, fs, hm⟩ := mrc_e ha
  refine m_caR (m_runV (As := [.int x1, .int (s0 + s1)]) (r := some h0) (rest := []) X G I h_Mo_entry k_951 (c_Mo_entry hv) mPr_blind (m_pre G I) hm rfl ha rfl rfl hl.1 (Nat.le_of_ble_eq_true rfl) rfl rfl ⟨Nat.le_of_ble_eq_true rfl, Nat.le_of_ble_eq_true rfl⟩ ⟨Nat.le_refl _, Nat.le_refl _⟩ d_Mo_grid_18) ?_
  refine lv_if_le (tgt := 29) hx hb d_Mo_grid_21 (by decide) (fun hc => ?_) (fun hc => ?_)
  · have hf := mift hf hc
    refine r_aload_n X d_Mo_grid_29 rfl (lv_at hl 1 rfl) ?_
    refine lv_iload_n hx hb d_Mo_grid_30 rfl (lv_at hl 2 rfl) ?_
    refine lv_iload_n hx hb d_Mo_grid_31 rfl (lv_at hl 3 rfl) ?_
    obtain ⟨q2, hv, hf⟩ := mbind hf
    obtain ⟨a, ha, hv⟩ := mbind hv
    obtain ⟨ha, fs, hm⟩ := mrc_e ha
    refine m_caR (m_runV (As := [.int x1, .int x2]) (r := some h0) (rest := []) X G I h_Mo_entry k_951 (c_Mo_entry hv) mPr_blind (m_pre G I) hm rfl ha rfl rfl hl.1 (Nat.le_of_ble_eq_true rfl) rfl rfl ⟨Nat.le_of_ble_eq_true rfl, Nat.le_of_ble_eq_true rfl⟩ ⟨Nat.le_refl _, Nat.le_refl _⟩ d_Mo_grid_32) ?_
    refine lv_if_le (tgt := 42) hx hb d_Mo_grid_35 (by decide) (fun hc => ?_) (fun hc => ?_)
    · have hf := mift hf hc
      refine lv_iconst (v := 0) hx hb d_Mo_grid_42 (by decide) ?_
      exact w_Mo_grid_43 X G I hf (lv_sub hl [1] rfl)
    · have hf := miff hf hc
      refine lv_iload_n hx hb d_Mo_grid_38 rfl (lv_at hl 3 rfl) ?_
      refine lv_goto (tgt := 43) hx hb d_Mo_grid_39 (by decide) ?_
      exact w_Mo_grid_43 X G I hf (lv_sub hl [1] rfl)
  · have hf := miff hf hc
    refine lv_iload hx hb d_Mo_grid_24 (lv_at hl 0 rfl) ?_
    refine lv_goto (tgt := 43) hx hb d_Mo_grid_26 (by decide) ?_
    exact w_Mo_grid_43 X G I hf (lv_sub hl [1] rfl)

set_option maxHeartbeats 4000000 in
set_option maxRecDepth 100000 in
theorem w_Mo_grid {μ : mM} {h0 : Nat} {r : Int32} (X : mX p m meth c s args b_Mo_grid 5 (some .int) "ColourLinkerModel") (G : mG D cA dA z0 s) (I : mI D cA z0 s μ s.heap [] s.heap.size) {ls : Array Slot} {x1 : Int32} {x2 : Int32} {x3 : Int32} (hf : f_Mo_grid μ h0 x1 x2 x3 = some r) (hl : lv_has ls 5 [(0, va_rf (some h0)), (1, .int x1), (2, .int x2), (3, .int x3)]) : W p l e rm_Mo_grid s m args below meth c s.heap [] 0 0 (MQ below (mQR (some (.int r))) args s 0 0 (fun _ => False)) (F0 m 0 ls []) := by
  have hx := X.ex
  have hb := X.by_
  unfold f_Mo_grid at hf
  refine lv_iload_n hx hb d_Mo_grid_0 rfl (lv_at hl 2 rfl) ?_
  refine lv_iload_n hx hb d_Mo_grid_1 rfl (lv_at hl 3 rfl) ?_
  refine lv_iconst (v := 3) hx hb d_Mo_grid_2 (by decide) ?_
  refine lv_icmp_ne (tgt := 10) hx hb d_Mo_grid_3 (by decide) (fun hc => ?_) (fun hc => ?_)
  · have hf := miff hf hc
    refine lv_iload_n hx hb d_Mo_grid_10 rfl (lv_at hl 3 rfl) ?_
    exact w_Mo_grid_11 X G I hf (lv_sub hl [0, 1, 2] rfl)
  · have hf := mift hf hc
    refine lv_iconst (v := 1) hx hb d_Mo_grid_6 (by decide) ?_
    refine lv_goto (tgt := 11) hx hb d_Mo_grid_7 (by decide) ?_
    exact w_Mo_grid_11 X G I hf (lv_sub hl [0, 1, 2] rfl)

set_option maxHeartbeats 4000000 in
set_option maxRecDepth 100000 in
theorem c_Mo_grid {l : Launch} {D : va_G} {cA : Nat → ClassId} {dA z0 : Nat} {μ : mM} {h0 : Nat} {x1 : Int32} {x2 : Int32} {x3 : Int32} {r : Int32} (hf : f_Mo_grid μ h0 x1 x2 x3 = some r) : Met l y_Mo_grid (mW y_Mo_grid b_Mo_grid 5 (some .int)) rm_Mo_grid (va_Pc [.ref h0, .int x1, .int x2, .int x3] (mPr D cA dA z0 μ)) (mQR (some (.int r))) 0 0 (fun _ => False) := by
  refine Met.ofW (cc := b_Mo_grid) (maxL := 5) (ret := (some .int)) (by decide) rfl ?_
  intro p e s m args below meth c s₁ B hml hv
  obtain ⟨rfl, G, hP⟩ := hv
  have X := mX.of B hml
  exact m_entry (lv := [(0, va_rf (some h0)), (1, .int x1), (2, .int x2), (3, .int x3)]) (Nat.le_of_ble_eq_true rfl) rfl (fun ls hl => w_Mo_grid X G (mI.start hP) hf hl)

abbrev rm_Mo_lab : Room := { frames := 1, cells := 0, slots := 0, locals := 22 }
theorem h_Mo_lab : mCV y_Mo_lab b_Mo_lab 2 (some .boolean) 1 := ⟨k_1036, k_79, ⟨by decide, by decide, by decide +kernel⟩, k_1035, k_45⟩
set_option maxHeartbeats 4000000 in
set_option maxRecDepth 100000 in
theorem w_Mo_lab_15 {μ : mM} {h0 : Nat} {r : Int32} (X : mX p m meth c s args b_Mo_lab 2 (some .boolean) "ColourLinkerModel") (G : mG D cA dA z0 s) (I : mI D cA z0 s μ s.heap [] s.heap.size) {ls : Array Slot} {s0 : Int32} (hf : f_Mo_lab_15 μ h0 s0 = some r) (hl : lv_has ls 2 [(0, va_rf (some h0))]) : W p l e rm_Mo_lab s m args below meth c s.heap [] 0 0 (MQ below (mQR (some (.int r))) args s 0 0 (fun _ => False)) (F0 m 15 ls [.int s0]) := by
  have hx := X.ex
  have hb := X.by_
  unfold f_Mo_lab_15 at hf
  obtain ⟨v2, hv, hf⟩ := mbind hf
  obtain ⟨hz0, hz⟩ := mz_e hv
  rw [hz0] at hf
  obtain rfl := Option.some.inj hf
  exact r_zretR X hz d_Mo_lab_15

set_option maxHeartbeats 4000000 in
set_option maxRecDepth 100000 in
theorem w_Mo_lab {μ : mM} {h0 : Nat} {r : Int32} (X : mX p m meth c s args b_Mo_lab 2 (some .boolean) "ColourLinkerModel") (G : mG D cA dA z0 s) (I : mI D cA z0 s μ s.heap [] s.heap.size) {ls : Array Slot} {x1 : Int32} (hf : f_Mo_lab μ h0 x1 = some r) (hl : lv_has ls 2 [(0, va_rf (some h0)), (1, .int x1)]) : W p l e rm_Mo_lab s m args below meth c s.heap [] 0 0 (MQ below (mQR (some (.int r))) args s 0 0 (fun _ => False)) (F0 m 0 ls []) := by
  have hx := X.ex
  have hb := X.by_
  unfold f_Mo_lab at hf
  refine r_aload_n X d_Mo_lab_0 rfl (lv_at hl 0 rfl) ?_
  refine lv_iload_n hx hb d_Mo_lab_1 rfl (lv_at hl 1 rfl) ?_
  refine lv_iconst (v := 4) hx hb d_Mo_lab_2 (by decide) ?_
  obtain ⟨q1, hv, hf⟩ := mbind hf
  obtain ⟨a, ha, hv⟩ := mbind hv
  obtain ⟨ha, fs, hm⟩ := mrc_e ha
  refine m_caR (m_runV (As := [.int x1, .int (4 : Int32)]) (r := some h0) (rest := []) X G I h_Mo_part k_955 (c_Mo_part hv) mPr_blind (m_pre G I) hm rfl ha rfl rfl hl.1 (Nat.le_of_ble_eq_true rfl) rfl rfl ⟨Nat.le_of_ble_eq_true rfl, Nat.le_of_ble_eq_true rfl⟩ ⟨Nat.le_refl _, Nat.le_refl _⟩ d_Mo_lab_3) ?_
  refine lv_iconst (v := 1) hx hb d_Mo_lab_6 (by decide) ?_
  refine lv_icmp_ne (tgt := 14) hx hb d_Mo_lab_7 (by decide) (fun hc => ?_) (fun hc => ?_)
  · have hf := miff hf hc
    refine lv_iconst (v := 0) hx hb d_Mo_lab_14 (by decide) ?_
    exact w_Mo_lab_15 X G I hf (lv_sub hl [0] rfl)
  · have hf := mift hf hc
    refine lv_iconst (v := 1) hx hb d_Mo_lab_10 (by decide) ?_
    refine lv_goto (tgt := 15) hx hb d_Mo_lab_11 (by decide) ?_
    exact w_Mo_lab_15 X G I hf (lv_sub hl [0] rfl)

set_option maxHeartbeats 4000000 in
set_option maxRecDepth 100000 in
theorem c_Mo_lab {l : Launch} {D : va_G} {cA : Nat → ClassId} {dA z0 : Nat} {μ : mM} {h0 : Nat} {x1 : Int32} {r : Int32} (hf : f_Mo_lab μ h0 x1 = some r) : Met l y_Mo_lab (mW y_Mo_lab b_Mo_lab 2 (some .boolean)) rm_Mo_lab (va_Pc [.ref h0, .int x1] (mPr D cA dA z0 μ)) (mQR (some (.int r))) 0 0 (fun _ => False) := by
  refine Met.ofW (cc := b_Mo_lab) (maxL := 2) (ret := (some .boolean)) (by decide) rfl ?_
  intro p e s m args below meth c s₁ B hml hv
  obtain ⟨rfl, G, hP⟩ := hv
  have X := mX.of B hml
  exact m_entry (lv := [(0, va_rf (some h0)), (1, .int x1)]) (Nat.le_of_ble_eq_true rfl) rfl (fun ls hl => w_Mo_lab X G (mI.start hP) hf hl)

abbrev rm_Mo_shaped : Room := { frames := 2, cells := 0, slots := 0, locals := 46 }
theorem h_Mo_shaped : mCV y_Mo_shaped b_Mo_shaped 2 (some .boolean) 1 := ⟨k_1032, k_79, ⟨by decide, by decide, by decide +kernel⟩, k_1031, k_44⟩
set_option maxHeartbeats 4000000 in
set_option maxRecDepth 100000 in
theorem w_Mo_shaped_49 {μ : mM} {h0 : Nat} {r : Int32} (X : mX p m meth c s args b_Mo_shaped 2 (some .boolean) "ColourLinkerModel") (G : mG D cA dA z0 s) (I : mI D cA z0 s μ s.heap [] s.heap.size) {ls : Array Slot} {s0 : Int32} (hf : f_Mo_shaped_49 μ h0 s0 = some r) (hl : lv_has ls 2 [(0, va_rf (some h0))]) : W p l e rm_Mo_shaped s m args below meth c s.heap [] 0 0 (MQ below (mQR (some (.int r))) args s 0 0 (fun _ => False)) (F0 m 49 ls [.int s0]) := by
  have hx := X.ex
  have hb := X.by_
  unfold f_Mo_shaped_49 at hf
  obtain ⟨v6, hv, hf⟩ := mbind hf
  obtain ⟨hz0, hz⟩ := mz_e hv
  rw [hz0] at hf
  obtain rfl := Option.some.inj hf
  exact r_zretR X hz d_Mo_shaped_49

set_option maxHeartbeats 4000000 in
set_option maxRecDepth 100000 in
theorem w_Mo_shaped_48 {μ : mM} {h0 : Nat} {r : Int32} (X : mX p m meth c s args b_Mo_shaped 2 (some .boolean) "ColourLinkerModel") (G : mG D cA dA z0 s) (I : mI D cA z0 s μ s.heap [] s.heap.size) {ls : Array Slot}  (hf : f_Mo_shaped_48 μ h0 = some r) (hl : lv_has ls 2 [(0, va_rf (some h0))]) : W p l e rm_Mo_shaped s m args below meth c s.heap [] 0 0 (MQ below (mQR (some (.int r))) args s 0 0 (fun _ => False)) (F0 m 48 ls []) := by
  have hx := X.ex
  have hb := X.by_
  unfold f_Mo_shaped_48 at hf
  refine lv_iconst (v := 0) hx hb d_Mo_shaped_48 (by decide) ?_
  exact w_Mo_shaped_49 X G I hf hl

set_option maxHeartbeats 4000000 in
set_option maxRecDepth 100000 in
theorem w_Mo_shaped {μ : mM} {h0 : Nat} {r : Int32} (X : mX p m meth c s args b_Mo_shaped 2 (some .boolean) "ColourLinkerModel") (G : mG D cA dA z0 s) (I : mI D cA z0 s μ s.heap [] s.heap.size) {ls : Array Slot} {x1 : Int32} (hf : f_Mo_shaped μ h0 x1 = some r) (hl : lv_has ls 2 [(0, va_rf (some h0)), (1, .int x1)]) : W p l e rm_Mo_shaped s m args below meth c s.heap [] 0 0 (MQ below (mQR (some (.int r))) args s 0 0 (fun _ => False)) (F0 m 0 ls []) := by
  have hx := X.ex
  have hb := X.by_
  unfold f_Mo_shaped at hf
  refine r_aload_n X d_Mo_shaped_0 rfl (lv_at hl 0 rfl) ?_
  refine lv_iload_n hx hb d_Mo_shaped_1 rfl (lv_at hl 1 rfl) ?_
  refine lv_iconst (v := 2) hx hb d_Mo_shaped_2 (by decide) ?_
  obtain ⟨q1, hv, hf⟩ := mbind hf
  obtain ⟨a, ha, hv⟩ := mbind hv
  obtain ⟨ha, fs, hm⟩ := mrc_e ha
  refine m_caR (m_runV (As := [.int x1, .int (2 : Int32)]) (r := some h0) (rest := []) X G I h_Mo_entry k_951 (c_Mo_entry hv) mPr_blind (m_pre G I) hm rfl ha rfl rfl hl.1 (Nat.le_of_ble_eq_true rfl) rfl rfl ⟨Nat.le_of_ble_eq_true rfl, Nat.le_of_ble_eq_true rfl⟩ ⟨Nat.le_refl _, Nat.le_refl _⟩ d_Mo_shaped_3) ?_
  refine lv_if_le (tgt := 48) hx hb d_Mo_shaped_6 (by decide) (fun hc => ?_) (fun hc => ?_)
  · have hf := mift hf hc
    exact w_Mo_shaped_48 X G I hf (lv_sub hl [0] rfl)
  · have hf := miff hf hc
    refine r_aload_n X d_Mo_shaped_9 rfl (lv_at hl 0 rfl) ?_
    refine lv_iload_n hx hb d_Mo_shaped_10 rfl (lv_at hl 1 rfl) ?_
    refine lv_iconst (v := 3) hx hb d_Mo_shaped_11 (by decide) ?_
    obtain ⟨q2, hv, hf⟩ := mbind hf
    obtain ⟨a, ha, hv⟩ := mbind hv
    obtain ⟨ha, fs, hm⟩ := mrc_e ha
    refine m_caR (m_runV (As := [.int x1, .int (3 : Int32)]) (r := some h0) (rest := []) X G I h_Mo_entry k_951 (c_Mo_entry hv) mPr_blind (m_pre G I) hm rfl ha rfl rfl hl.1 (Nat.le_of_ble_eq_true rfl) rfl rfl ⟨Nat.le_of_ble_eq_true rfl, Nat.le_of_ble_eq_true rfl⟩ ⟨Nat.le_refl _, Nat.le_refl _⟩ d_Mo_shaped_12) ?_
    refine lv_if_le (tgt := 48) hx hb d_Mo_shaped_15 (by decide) (fun hc => ?_) (fun hc => ?_)
    · have hf := mift hf hc
      exact w_Mo_shaped_48 X G I hf (lv_sub hl [0] rfl)
    · have hf := miff hf hc
      refine r_aload_n X d_Mo_shaped_18 rfl (lv_at hl 0 rfl) ?_
      refine lv_iload_n hx hb d_Mo_shaped_19 rfl (lv_at hl 1 rfl) ?_
      refine lv_iconst (v := 4) hx hb d_Mo_shaped_20 (by decide) ?_
      obtain ⟨q3, hv, hf⟩ := mbind hf
      obtain ⟨a, ha, hv⟩ := mbind hv
      obtain ⟨ha, fs, hm⟩ := mrc_e ha
      refine m_caR (m_runV (As := [.int x1, .int (4 : Int32)]) (r := some h0) (rest := []) X G I h_Mo_entry k_951 (c_Mo_entry hv) mPr_blind (m_pre G I) hm rfl ha rfl rfl hl.1 (Nat.le_of_ble_eq_true rfl) rfl rfl ⟨Nat.le_of_ble_eq_true rfl, Nat.le_of_ble_eq_true rfl⟩ ⟨Nat.le_refl _, Nat.le_refl _⟩ d_Mo_shaped_21) ?_
      refine lv_if_le (tgt := 48) hx hb d_Mo_shaped_24 (by decide) (fun hc => ?_) (fun hc => ?_)
      · have hf := mift hf hc
        exact w_Mo_shaped_48 X G I hf (lv_sub hl [0] rfl)
      · have hf := miff hf hc
        refine r_aload_n X d_Mo_shaped_27 rfl (lv_at hl 0 rfl) ?_
        refine lv_iload_n hx hb d_Mo_shaped_28 rfl (lv_at hl 1 rfl) ?_
        refine lv_iconst (v := 5) hx hb d_Mo_shaped_29 (by decide) ?_
        obtain ⟨q4, hv, hf⟩ := mbind hf
        obtain ⟨a, ha, hv⟩ := mbind hv
        obtain ⟨ha, fs, hm⟩ := mrc_e ha
        refine m_caR (m_runV (As := [.int x1, .int (5 : Int32)]) (r := some h0) (rest := []) X G I h_Mo_entry k_951 (c_Mo_entry hv) mPr_blind (m_pre G I) hm rfl ha rfl rfl hl.1 (Nat.le_of_ble_eq_true rfl) rfl rfl ⟨Nat.le_of_ble_eq_true rfl, Nat.le_of_ble_eq_true rfl⟩ ⟨Nat.le_refl _, Nat.le_refl _⟩ d_Mo_shaped_30) ?_
        refine lv_if_le (tgt := 48) hx hb d_Mo_shaped_33 (by decide) (fun hc => ?_) (fun hc => ?_)
        · have hf := mift hf hc
          exact w_Mo_shaped_48 X G I hf (lv_sub hl [0] rfl)
        · have hf := miff hf hc
          refine r_aload_n X d_Mo_shaped_36 rfl (lv_at hl 0 rfl) ?_
          refine lv_iload_n hx hb d_Mo_shaped_37 rfl (lv_at hl 1 rfl) ?_
          obtain ⟨q5, hv, hf⟩ := mbind hf
          obtain ⟨a, ha, hv⟩ := mbind hv
          obtain ⟨ha, fs, hm⟩ := mrc_e ha
          refine m_caR (m_runV (As := [.int x1]) (r := some h0) (rest := []) X G I h_Mo_lab k_1033 (c_Mo_lab hv) mPr_blind (m_pre G I) hm rfl ha rfl rfl hl.1 (Nat.le_of_ble_eq_true rfl) rfl rfl ⟨Nat.le_of_ble_eq_true rfl, Nat.le_of_ble_eq_true rfl⟩ ⟨Nat.le_refl _, Nat.le_refl _⟩ d_Mo_shaped_38) ?_
          refine lv_if_ne (tgt := 48) hx hb d_Mo_shaped_41 (by decide) (fun hc => ?_) (fun hc => ?_)
          · have hf := miff hf hc
            exact w_Mo_shaped_48 X G I hf (lv_sub hl [0] rfl)
          · have hf := mift hf hc
            refine lv_iconst (v := 1) hx hb d_Mo_shaped_44 (by decide) ?_
            refine lv_goto (tgt := 49) hx hb d_Mo_shaped_45 (by decide) ?_
            exact w_Mo_shaped_49 X G I hf (lv_sub hl [0] rfl)

set_option maxHeartbeats 4000000 in
set_option maxRecDepth 100000 in
theorem c_Mo_shaped {l : Launch} {D : va_G} {cA : Nat → ClassId} {dA z0 : Nat} {μ : mM} {h0 : Nat} {x1 : Int32} {r : Int32} (hf : f_Mo_shaped μ h0 x1 = some r) : Met l y_Mo_shaped (mW y_Mo_shaped b_Mo_shaped 2 (some .boolean)) rm_Mo_shaped (va_Pc [.ref h0, .int x1] (mPr D cA dA z0 μ)) (mQR (some (.int r))) 0 0 (fun _ => False) := by
  refine Met.ofW (cc := b_Mo_shaped) (maxL := 2) (ret := (some .boolean)) (by decide) rfl ?_
  intro p e s m args below meth c s₁ B hml hv
  obtain ⟨rfl, G, hP⟩ := hv
  have X := mX.of B hml
  exact m_entry (lv := [(0, va_rf (some h0)), (1, .int x1)]) (Nat.le_of_ble_eq_true rfl) rfl (fun ls hl => w_Mo_shaped X G (mI.start hP) hf hl)

abbrev rm_Mo_takeMatrix : Room := { frames := 3, cells := 0, slots := 0, locals := 69 }
theorem h_Mo_takeMatrix : mCV y_Mo_takeMatrix b_Mo_takeMatrix 5 none 1 := ⟨k_1040, k_79, ⟨by decide, by decide, by decide +kernel⟩, k_1039, k_46⟩
set_option maxHeartbeats 4000000 in
set_option maxRecDepth 100000 in
theorem w_Mo_takeMatrix_61 {h0 : Nat} {r : mM} (X : mX p m meth c s args b_Mo_takeMatrix 5 none "ColourLinkerModel") (G : mG D cA dA z0 s) {H : Heap} {locs : List Loc} {μ : mM} {ls : Array Slot}  (I : mI D cA z0 s μ H locs s.heap.size) (hf : f_Mo_takeMatrix_61 h0 μ = some r) (hl : lv_has ls 5 [(0, va_rf (some h0))]) : W p l e rm_Mo_takeMatrix s m args below meth c H locs 0 0 (MQ below (mQW D cA z0 none r) args s 0 0 (mA z0)) (F0 m 61 ls []) := by
  have hx := X.ex
  have hb := X.by_
  unfold f_Mo_takeMatrix_61 at hf
  obtain rfl := Option.some.inj hf
  exact r_vretW X I d_Mo_takeMatrix_61

set_option maxHeartbeats 4000000 in
set_option maxRecDepth 100000 in
theorem w_Mo_takeMatrix_54 {h0 : Nat} {r : mM} (X : mX p m meth c s args b_Mo_takeMatrix 5 none "ColourLinkerModel") (G : mG D cA dA z0 s) {k : mM → Int32 → Int32 → Int32 → Option (mM)} {kx61 : mM → Option (mM)} (hk : ∀ (H : Heap) (locs : List Loc) (μ : mM) (ls : Array Slot) (x1 : Int32) (x2 : Int32) (x3 : Int32), mI D cA z0 s μ H locs s.heap.size → k μ x1 x2 x3 = some r → lv_has ls 5 [(0, va_rf (some h0)), (1, .int x1), (2, .int x2), (3, .int x3)] → W p l e rm_Mo_takeMatrix s m args below meth c H locs 0 0 (MQ below (mQW D cA z0 none r) args s 0 0 (mA z0)) (F0 m 9 ls [])) (hkx61 : ∀ (H : Heap) (locs : List Loc) (μ : mM) (ls : Array Slot), mI D cA z0 s μ H locs s.heap.size → kx61 μ = some r → lv_has ls 5 [(0, va_rf (some h0))] → W p l e rm_Mo_takeMatrix s m args below meth c H locs 0 0 (MQ below (mQW D cA z0 none r) args s 0 0 (mA z0)) (F0 m 61 ls [])) {H : Heap} {locs : List Loc} {μ : mM} {ls : Array Slot} {x1 : Int32} {x2 : Int32} {x3 : Int32} {s0 : Option Nat} {s1 : Int32} {s2 : Int64} (I : mI D cA z0 s μ H locs s.heap.size) (hf : f_Mo_takeMatrix_54 h0 k kx61 μ x1 x2 x3 s0 s1 s2 = some r) (hl : lv_has ls 5 [(0, va_rf (some h0)), (1, .int x1), (2, .int x2), (3, .int x3)]) : W p l e rm_Mo_takeMatrix s m args below meth c H locs 0 0 (MQ below (mQW D cA z0 none r) args s 0 0 (mA z0)) (F0 m 54 ls [.long s2, .int s1, va_rf s0]) := by
  have hx := X.ex
  have hb := X.by_
  unfold f_Mo_takeMatrix_54 at hf
  obtain ⟨m4, hv, hf⟩ := mbind hf
  refine r_last X G I hv d_Mo_takeMatrix_54 (fun H locs I => ?_)
  refine lv_iinc (i := 3) (k := 3) (v := (x3 + (1 : Int32))) (lv' := [(3, .int (x3 + (1 : Int32))), (0, va_rf (some h0)), (1, .int x1), (2, .int x2)]) hx hb d_Mo_takeMatrix_55 hl rfl (congrArg (fun t => x3 + t) (by decide : Int32.ofInt (1) = (1 : Int32))) (by decide) rfl (fun ls hl => ?_)
  refine lv_goto (tgt := 9) hx hb d_Mo_takeMatrix_58 (by decide) ?_
  exact hk _ _ _ _ _ _ _ I hf (lv_sub hl [1, 2, 3, 0] rfl)

set_option maxHeartbeats 4000000 in
set_option maxRecDepth 100000 in
theorem w_Mo_takeMatrix_9 {h0 : Nat} {r : mM} (X : mX p m meth c s args b_Mo_takeMatrix 5 none "ColourLinkerModel") (G : mG D cA dA z0 s) {kx61 : mM → Option (mM)} (hkx61 : ∀ (H : Heap) (locs : List Loc) (μ : mM) (ls : Array Slot), mI D cA z0 s μ H locs s.heap.size → kx61 μ = some r → lv_has ls 5 [(0, va_rf (some h0))] → W p l e rm_Mo_takeMatrix s m args below meth c H locs 0 0 (MQ below (mQW D cA z0 none r) args s 0 0 (mA z0)) (F0 m 61 ls [])) : ∀ (n : Nat) (H : Heap) (locs : List Loc) (μ : mM) (ls : Array Slot) (x1 : Int32) (x2 : Int32) (x3 : Int32), mI D cA z0 s μ H locs s.heap.size → f_Mo_takeMatrix_9 h0 kx61 n μ x1 x2 x3 = some r → lv_has ls 5 [(0, va_rf (some h0)), (1, .int x1), (2, .int x2), (3, .int x3)] → W p l e rm_Mo_takeMatrix s m args below meth c H locs 0 0 (MQ below (mQW D cA z0 none r) args s 0 0 (mA z0)) (F0 m 9 ls []) := by
  have hx := X.ex
  have hb := X.by_
  intro n
  induction n with
  | zero => intro H locs μ ls x1 x2 x3 I hf hl; rw [f_Mo_takeMatrix_9] at hf; cases hf
  | succ n ih =>
    intro H locs μ ls x1 x2 x3 I hf hl
    rw [f_Mo_takeMatrix_9] at hf
    refine lv_iload_n hx hb d_Mo_takeMatrix_9 rfl (lv_at hl 3 rfl) ?_
    refine lv_bipush (v := 9) hx hb d_Mo_takeMatrix_10 (by decide) ?_
    refine lv_icmp_ge (tgt := 61) hx hb d_Mo_takeMatrix_12 (by decide) (fun hc => ?_) (fun hc => ?_)
    · have hf := mift hf hc
      exact hkx61 _ _ _ _ I hf (lv_sub hl [0] rfl)
    · have hf := miff hf hc
      refine r_aload_n X d_Mo_takeMatrix_15 rfl (lv_at hl 0 rfl) ?_
      refine lv_iload_n hx hb d_Mo_takeMatrix_16 rfl (lv_at hl 1 rfl) ?_
      refine lv_iload_n hx hb d_Mo_takeMatrix_17 rfl (lv_at hl 2 rfl) ?_
      refine lv_iconst (v := 2) hx hb d_Mo_takeMatrix_18 (by decide) ?_
      refine lv_iadd hx hb d_Mo_takeMatrix_19 ?_
      refine lv_iconst (v := 2) hx hb d_Mo_takeMatrix_20 (by decide) ?_
      refine lv_iload_n hx hb d_Mo_takeMatrix_21 rfl (lv_at hl 3 rfl) ?_
      refine lv_imul hx hb d_Mo_takeMatrix_22 ?_
      refine lv_iadd hx hb d_Mo_takeMatrix_23 ?_
      obtain ⟨q2, hv, hf⟩ := mbind hf
      obtain ⟨a, ha, hv⟩ := mbind hv
      obtain ⟨ha, fs, hm⟩ := mrc_e ha
      refine m_caR (m_runV (As := [.int x1, .int ((x2 + (2 : Int32)) + ((2 : Int32) * x3))]) (r := some h0) (rest := []) X G I h_Mo_word k_984 (c_Mo_word hv) mPr_blind (m_pre G I) hm rfl ha rfl rfl hl.1 (Nat.le_of_ble_eq_true rfl) rfl rfl ⟨Nat.le_of_ble_eq_true rfl, Nat.le_of_ble_eq_true rfl⟩ ⟨Nat.le_refl _, Nat.le_refl _⟩ d_Mo_takeMatrix_24) ?_
      refine lv_istore (i := 4) (lv' := [(4, .int q2), (0, va_rf (some h0)), (1, .int x1), (2, .int x2), (3, .int x3)]) hx hb d_Mo_takeMatrix_27 hl (by decide) rfl (fun ls hl => ?_)
      refine r_aload_n X d_Mo_takeMatrix_29 rfl (lv_at hl 1 rfl) ?_
      obtain ⟨v3, hv, hf⟩ := mbind hf
      refine r_getf X G I (mfA_e hv) o_Mo_m k_854 (Or.inl rfl) d_Mo_takeMatrix_30 ?_
      refine lv_iload_n hx hb d_Mo_takeMatrix_33 rfl (lv_at hl 4 rfl) ?_
      refine lv_iload hx hb d_Mo_takeMatrix_34 (lv_at hl 0 rfl) ?_
      refine lv_sipush (v := 32767) hx hb d_Mo_takeMatrix_36 (by decide) ?_
      refine lv_icmp_le (tgt := 51) hx hb d_Mo_takeMatrix_39 (by decide) (fun hc => ?_) (fun hc => ?_)
      · have hf := mift hf hc
        refine lv_iload hx hb d_Mo_takeMatrix_51 (lv_at hl 0 rfl) ?_
        refine lv_i2l hx hb d_Mo_takeMatrix_53 rfl ?_
        exact w_Mo_takeMatrix_54 X G ih hkx61 I hf (lv_sub hl [1, 2, 3, 4] rfl)
      · have hf := miff hf hc
        refine lv_iload hx hb d_Mo_takeMatrix_42 (lv_at hl 0 rfl) ?_
        refine lv_ldc (v := 65536) hx hb X.ow (X.w k_1041) d_Mo_takeMatrix_44 ?_
        refine lv_isub hx hb d_Mo_takeMatrix_46 ?_
        refine lv_i2l hx hb d_Mo_takeMatrix_47 rfl ?_
        refine lv_goto (tgt := 54) hx hb d_Mo_takeMatrix_48 (by decide) ?_
        exact w_Mo_takeMatrix_54 X G ih hkx61 I hf (lv_sub hl [1, 2, 3, 4] rfl)

set_option maxHeartbeats 4000000 in
set_option maxRecDepth 100000 in
theorem w_Mo_takeMatrix {h0 : Nat} {r : mM} (X : mX p m meth c s args b_Mo_takeMatrix 5 none "ColourLinkerModel") (G : mG D cA dA z0 s) {H : Heap} {locs : List Loc} {μ : mM} {ls : Array Slot} {x1 : Int32} (I : mI D cA z0 s μ H locs s.heap.size) (hf : f_Mo_takeMatrix h0 μ x1 = some r) (hl : lv_has ls 5 [(0, va_rf (some h0)), (1, .int x1)]) : W p l e rm_Mo_takeMatrix s m args below meth c H locs 0 0 (MQ below (mQW D cA z0 none r) args s 0 0 (mA z0)) (F0 m 0 ls []) := by
  have hx := X.ex
  have hb := X.by_
  unfold f_Mo_takeMatrix at hf
  refine r_aload_n X d_Mo_takeMatrix_0 rfl (lv_at hl 0 rfl) ?_
  refine lv_iload_n hx hb d_Mo_takeMatrix_1 rfl (lv_at hl 1 rfl) ?_
  refine lv_iconst (v := 5) hx hb d_Mo_takeMatrix_2 (by decide) ?_
  obtain ⟨q1, hv, hf⟩ := mbind hf
  obtain ⟨a, ha, hv⟩ := mbind hv
  obtain ⟨ha, fs, hm⟩ := mrc_e ha
  refine m_caR (m_runV (As := [.int x1, .int (5 : Int32)]) (r := some h0) (rest := []) X G I h_Mo_data k_947 (c_Mo_data hv) mPr_blind (m_pre G I) hm rfl ha rfl rfl hl.1 (Nat.le_of_ble_eq_true rfl) rfl rfl ⟨Nat.le_of_ble_eq_true rfl, Nat.le_of_ble_eq_true rfl⟩ ⟨Nat.le_refl _, Nat.le_refl _⟩ d_Mo_takeMatrix_3) ?_
  refine lv_istore_n (i := 2) (lv' := [(2, .int q1), (0, va_rf (some h0)), (1, .int x1)]) hx hb d_Mo_takeMatrix_6 rfl hl (by decide) rfl (fun ls hl => ?_)
  refine lv_iconst (v := 0) hx hb d_Mo_takeMatrix_7 (by decide) ?_
  refine lv_istore_n (i := 3) (lv' := [(3, .int (0 : Int32)), (2, .int q1), (0, va_rf (some h0)), (1, .int x1)]) hx hb d_Mo_takeMatrix_8 rfl hl (by decide) rfl (fun ls hl => ?_)
  exact w_Mo_takeMatrix_9 X G (fun H locs μ ls I hf hl => w_Mo_takeMatrix_61 X G I hf hl) 4096 _ _ _ _ _ _ _ I hf (lv_sub hl [2, 3, 1, 0] rfl)

set_option maxHeartbeats 4000000 in
set_option maxRecDepth 100000 in
theorem c_Mo_takeMatrix {l : Launch} {D : va_G} {cA : Nat → ClassId} {dA z0 : Nat} {μ : mM} {h0 : Nat} {x1 : Int32} {r : mM} (hf : f_Mo_takeMatrix h0 μ x1 = some r) : Met l y_Mo_takeMatrix (mW y_Mo_takeMatrix b_Mo_takeMatrix 5 none) rm_Mo_takeMatrix (va_Pc [.ref h0, .int x1] (mPr D cA dA z0 μ)) (mQW D cA z0 none r) 0 0 (mA z0) := by
  refine Met.ofW (cc := b_Mo_takeMatrix) (maxL := 5) (ret := none) (by decide) rfl ?_
  intro p e s m args below meth c s₁ B hml hv
  obtain ⟨rfl, G, hP⟩ := hv
  have X := mX.of B hml
  exact m_entry (lv := [(0, va_rf (some h0)), (1, .int x1)]) (Nat.le_of_ble_eq_true rfl) rfl (fun ls hl => w_Mo_takeMatrix X G (mI.start hP) hf hl)

end WK
