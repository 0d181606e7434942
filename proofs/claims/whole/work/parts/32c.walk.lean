section WK
variable {p : Program} {l : Launch} {e : Env} {s : State} {m : MethodId} {args : Array Value} {below : List Frame} {meth : Method} {c : Code} {D : va_G} {cA : Nat → ClassId} {dA z0 : Nat}
abbrev rm_Mo_link : Room := { frames := 11, cells := 0, slots := 0, locals := 287 }
theorem h_Mo_link : mCV y_Mo_link b_Mo_link 5 (some .int) 4 := ⟨k_1012, k_79, ⟨by decide, by decide, by decide +kernel⟩, k_1010, k_1011⟩
set_option maxHeartbeats 4000000 in
set_option maxRecDepth 100000 in
theorem w_Mo_link_16 {h0 : Nat} {r : Int32 × mM} (X : mX p m meth c s args b_Mo_link 5 (some .int) "ColourLinkerModel") (G : mG D cA dA z0 s) {H : Heap} {locs : List Loc} {μ : mM} {ls : Array Slot}  (I : mI D cA z0 s μ H locs s.heap.size) (hf : f_Mo_link_16 h0 μ = some r) (hl : lv_has ls 5 [(0, va_rf (some h0))]) : W p l e rm_Mo_link s m args below meth c H locs 0 0 (MQ below (mQW D cA z0 (some (.int r.1)) r.2) args s 0 0 (mA z0)) (F0 m 16 ls []) := by
  have hx := X.ex
  have hb := X.by_
  unfold f_Mo_link_16 at hf
  refine lv_iconst (v := -1) hx hb d_Mo_link_16 (by decide) ?_
  obtain rfl := Option.some.inj hf
  exact r_iretW X I d_Mo_link_17

set_option maxHeartbeats 4000000 in
set_option maxRecDepth 100000 in
theorem w_Mo_link {h0 : Nat} {r : Int32 × mM} (X : mX p m meth c s args b_Mo_link 5 (some .int) "ColourLinkerModel") (G : mG D cA dA z0 s) {H : Heap} {locs : List Loc} {μ : mM} {ls : Array Slot} {x1 : Int32} {x2 : Int32} {x3 : Int32} {x4 : Int32} (I : mI D cA z0 s μ H locs s.heap.size) (hf : f_Mo_link h0 μ x1 x2 x3 x4 = some r) (hl : lv_has ls 5 [(0, va_rf (some h0)), (1, .int x1), (2, .int x2), (3, .int x3), (4, .int x4)]) : W p l e rm_Mo_link s m args below meth c H locs 0 0 (MQ below (mQW D cA z0 (some (.int r.1)) r.2) args s 0 0 (mA z0)) (F0 m 0 ls []) := by
  have hx := X.ex
  have hb := X.by_
  unfold f_Mo_link at hf
  refine r_aload_n X d_Mo_link_0 rfl (lv_at hl 0 rfl) ?_
  refine lv_iload_n hx hb d_Mo_link_1 rfl (lv_at hl 1 rfl) ?_
  obtain ⟨q1, hv, hf⟩ := mbind hf
  obtain ⟨a, ha, hv⟩ := mbind hv
  obtain ⟨ha, fs, hm⟩ := mrc_e ha
  refine m_caR (m_runV (As := [.int x1]) (r := some h0) (rest := []) X G I h_Mo_there k_943 (c_Mo_there hv) mPr_blind (m_pre G I) hm rfl ha rfl rfl hl.1 (Nat.le_of_ble_eq_true rfl) rfl rfl ⟨Nat.le_of_ble_eq_true rfl, Nat.le_of_ble_eq_true rfl⟩ ⟨Nat.le_refl _, Nat.le_refl _⟩ d_Mo_link_2) ?_
  refine lv_if_eq (tgt := 16) hx hb d_Mo_link_5 (by decide) (fun hc => ?_) (fun hc => ?_)
  · have hf := mift hf hc
    exact w_Mo_link_16 X G I hf (lv_sub hl [0] rfl)
  · have hf := miff hf hc
    refine r_aload_n X d_Mo_link_8 rfl (lv_at hl 0 rfl) ?_
    refine lv_iload_n hx hb d_Mo_link_9 rfl (lv_at hl 2 rfl) ?_
    obtain ⟨q2, hv, hf⟩ := mbind hf
    obtain ⟨a, ha, hv⟩ := mbind hv
    obtain ⟨ha, fs, hm⟩ := mrc_e ha
    refine m_caR (m_runV (As := [.int x2]) (r := some h0) (rest := []) X G I h_Mo_there k_943 (c_Mo_there hv) mPr_blind (m_pre G I) hm rfl ha rfl rfl hl.1 (Nat.le_of_ble_eq_true rfl) rfl rfl ⟨Nat.le_of_ble_eq_true rfl, Nat.le_of_ble_eq_true rfl⟩ ⟨Nat.le_refl _, Nat.le_refl _⟩ d_Mo_link_10) ?_
    refine lv_if_ne (tgt := 18) hx hb d_Mo_link_13 (by decide) (fun hc => ?_) (fun hc => ?_)
    · have hf := miff hf hc
      refine r_aload_n X d_Mo_link_18 rfl (lv_at hl 0 rfl) ?_
      refine lv_iconst (v := -1) hx hb d_Mo_link_19 (by decide) ?_
      refine lv_iload_n hx hb d_Mo_link_20 rfl (lv_at hl 1 rfl) ?_
      refine lv_iload_n hx hb d_Mo_link_21 rfl (lv_at hl 2 rfl) ?_
      refine lv_iload_n hx hb d_Mo_link_22 rfl (lv_at hl 3 rfl) ?_
      refine lv_iload hx hb d_Mo_link_23 (lv_at hl 4 rfl) ?_
      obtain ⟨q3, hv, hf⟩ := mbind hf
      obtain ⟨a, ha, hv⟩ := mbind hv
      obtain ⟨ha, fs, hm⟩ := mrc_e ha
      refine m_caW (m_runV (As := [.int (-1 : Int32), .int x1, .int x2, .int x3, .int x4]) (r := some h0) (rest := []) X G I h_Mo_make k_1013 (c_Mo_make hv) mPr_blind (m_pre G I) hm rfl ha rfl rfl hl.1 (Nat.le_of_ble_eq_true rfl) rfl rfl ⟨Nat.le_of_ble_eq_true rfl, Nat.le_of_ble_eq_true rfl⟩ ⟨Nat.le_refl _, Nat.le_refl _⟩ d_Mo_link_25) I (fun H locs I => ?_)
      obtain rfl := Option.some.inj hf
      exact r_iretW X I d_Mo_link_28
    · have hf := mift hf hc
      exact w_Mo_link_16 X G I hf (lv_sub hl [0] rfl)

set_option maxHeartbeats 4000000 in
set_option maxRecDepth 100000 in
theorem c_Mo_link {l : Launch} {D : va_G} {cA : Nat → ClassId} {dA z0 : Nat} {μ : mM} {h0 : Nat} {x1 : Int32} {x2 : Int32} {x3 : Int32} {x4 : Int32} {r : Int32 × mM} (hf : f_Mo_link h0 μ x1 x2 x3 x4 = some r) : Met l y_Mo_link (mW y_Mo_link b_Mo_link 5 (some .int)) rm_Mo_link (va_Pc [.ref h0, .int x1, .int x2, .int x3, .int x4] (mPr D cA dA z0 μ)) (mQW D cA z0 (some (.int r.1)) r.2) 0 0 (mA z0) := by
  refine Met.ofW (cc := b_Mo_link) (maxL := 5) (ret := (some .int)) (by decide) rfl ?_
  intro p e s m args below meth c s₁ B hml hv
  obtain ⟨rfl, G, hP⟩ := hv
  have X := mX.of B hml
  exact m_entry (lv := [(0, va_rf (some h0)), (1, .int x1), (2, .int x2), (3, .int x3), (4, .int x4)]) (Nat.le_of_ble_eq_true rfl) rfl (fun ls hl => w_Mo_link X G (mI.start hP) hf hl)

abbrev rm_CL_linkAt : Room := { frames := 0, cells := 0, slots := 0, locals := 0 }
theorem h_CL_linkAt : mCV y_CL_linkAt b_CL_linkAt 2 (some (.object "ColourLinker$Link")) 1 := ⟨k_786, k_75, ⟨by decide, by decide, by decide +kernel⟩, k_785, k_25⟩
set_option maxHeartbeats 4000000 in
set_option maxRecDepth 100000 in
theorem w_CL_linkAt_22 {μ : mM} {h0 : Nat} {r : Option Nat} (X : mX p m meth c s args b_CL_linkAt 2 (some (.object "ColourLinker$Link")) "ColourLinker") (G : mG D cA dA z0 s) (I : mI D cA z0 s μ s.heap [] s.heap.size) {ls : Array Slot} {s0 : Option Nat} (hf : f_CL_linkAt_22 μ h0 s0 = some r) (hl : lv_has ls 2 [(0, va_rf (some h0))]) : W p l e rm_CL_linkAt s m args below meth c s.heap [] 0 0 (MQ below (mQR (some (va_rf r))) args s 0 0 (fun _ => False)) (F0 m 22 ls [va_rf s0]) := by
  have hx := X.ex
  have hb := X.by_
  unfold f_CL_linkAt_22 at hf
  obtain rfl := Option.some.inj hf
  exact r_aretR X (Or.inl ⟨_, rfl⟩) d_CL_linkAt_22

set_option maxHeartbeats 4000000 in
set_option maxRecDepth 100000 in
theorem w_CL_linkAt_21 {μ : mM} {h0 : Nat} {r : Option Nat} (X : mX p m meth c s args b_CL_linkAt 2 (some (.object "ColourLinker$Link")) "ColourLinker") (G : mG D cA dA z0 s) (I : mI D cA z0 s μ s.heap [] s.heap.size) {ls : Array Slot}  (hf : f_CL_linkAt_21 μ h0 = some r) (hl : lv_has ls 2 [(0, va_rf (some h0))]) : W p l e rm_CL_linkAt s m args below meth c s.heap [] 0 0 (MQ below (mQR (some (va_rf r))) args s 0 0 (fun _ => False)) (F0 m 21 ls []) := by
  have hx := X.ex
  have hb := X.by_
  unfold f_CL_linkAt_21 at hf
  refine r_null X d_CL_linkAt_21 ?_
  exact w_CL_linkAt_22 X G I hf hl

set_option maxHeartbeats 4000000 in
set_option maxRecDepth 100000 in
theorem w_CL_linkAt {μ : mM} {h0 : Nat} {r : Option Nat} (X : mX p m meth c s args b_CL_linkAt 2 (some (.object "ColourLinker$Link")) "ColourLinker") (G : mG D cA dA z0 s) (I : mI D cA z0 s μ s.heap [] s.heap.size) {ls : Array Slot} {x1 : Int32} (hf : f_CL_linkAt μ h0 x1 = some r) (hl : lv_has ls 2 [(0, va_rf (some h0)), (1, .int x1)]) : W p l e rm_CL_linkAt s m args below meth c s.heap [] 0 0 (MQ below (mQR (some (va_rf r))) args s 0 0 (fun _ => False)) (F0 m 0 ls []) := by
  have hx := X.ex
  have hb := X.by_
  unfold f_CL_linkAt at hf
  refine lv_iload_n hx hb d_CL_linkAt_0 rfl (lv_at hl 1 rfl) ?_
  refine lv_if_lt (tgt := 21) hx hb d_CL_linkAt_1 (by decide) (fun hc => ?_) (fun hc => ?_)
  · have hf := mift hf hc
    exact w_CL_linkAt_21 X G I hf (lv_sub hl [0] rfl)
  · have hf := miff hf hc
    refine lv_iload_n hx hb d_CL_linkAt_4 rfl (lv_at hl 1 rfl) ?_
    refine r_aload_n X d_CL_linkAt_5 rfl (lv_at hl 0 rfl) ?_
    obtain ⟨v1, hv, hf⟩ := mbind hf
    refine r_getf X G I (mfI_e hv) o_CL_madeCount k_150 (Or.inl rfl) d_CL_linkAt_6 ?_
    refine lv_icmp_ge (tgt := 21) hx hb d_CL_linkAt_9 (by decide) (fun hc => ?_) (fun hc => ?_)
    · have hf := mift hf hc
      exact w_CL_linkAt_21 X G I hf (lv_sub hl [0] rfl)
    · have hf := miff hf hc
      refine r_aload_n X d_CL_linkAt_12 rfl (lv_at hl 0 rfl) ?_
      obtain ⟨v2, hv, hf⟩ := mbind hf
      refine r_getf X G I (mfA_e hv) o_CL_made k_149 (Or.inl rfl) d_CL_linkAt_13 ?_
      refine lv_iload_n hx hb d_CL_linkAt_16 rfl (lv_at hl 1 rfl) ?_
      obtain ⟨v3, hv, hf⟩ := mbind hf
      refine r_aald X G I hv d_CL_linkAt_17 ?_
      refine lv_goto (tgt := 22) hx hb d_CL_linkAt_18 (by decide) ?_
      exact w_CL_linkAt_22 X G I hf (lv_sub hl [0] rfl)

set_option maxHeartbeats 4000000 in
set_option maxRecDepth 100000 in
theorem c_CL_linkAt {l : Launch} {D : va_G} {cA : Nat → ClassId} {dA z0 : Nat} {μ : mM} {h0 : Nat} {x1 : Int32} {r : Option Nat} (hf : f_CL_linkAt μ h0 x1 = some r) : Met l y_CL_linkAt (mW y_CL_linkAt b_CL_linkAt 2 (some (.object "ColourLinker$Link"))) rm_CL_linkAt (va_Pc [.ref h0, .int x1] (mPr D cA dA z0 μ)) (mQR (some (va_rf r))) 0 0 (fun _ => False) := by
  refine Met.ofW (cc := b_CL_linkAt) (maxL := 2) (ret := (some (.object "ColourLinker$Link"))) (by decide) rfl ?_
  intro p e s m args below meth c s₁ B hml hv
  obtain ⟨rfl, G, hP⟩ := hv
  have X := mX.of B hml
  exact m_entry (lv := [(0, va_rf (some h0)), (1, .int x1)]) (Nat.le_of_ble_eq_true rfl) rfl (fun ls hl => w_CL_linkAt X G (mI.start hP) hf hl)

abbrev rm_CL_extend (k n : Nat) : Room := { frames := 7, cells := k, slots := n, locals := 173 }
theorem h_CL_extend : mCV y_CL_extend b_CL_extend 6 (some .int) 4 := ⟨k_782, k_75, ⟨by decide, by decide, by decide +kernel⟩, k_780, k_781⟩
set_option maxHeartbeats 4000000 in
set_option maxRecDepth 100000 in
theorem w_CL_extend_35 {h0 : Nat} {ws : Nat} {r : Int32 × mM × Nat × Nat} (X : mX p m meth c s args b_CL_extend 6 (some .int) "ColourLinker") (G : mG D cA dA z0 s) {H : Heap} {locs : List Loc} {μ : mM} {z w : Nat} {ls : Array Slot} {s0 : Int32} (hq : mq ws w z r.2.2.1 r.2.2.2) (I : mI D cA z0 s μ H locs z) (hf : f_CL_extend_35 h0 μ z w s0 = some r) (hl : lv_has ls 6 [(0, va_rf (some h0))]) : W p l e (rm_CL_extend (r.2.2.1 - s.heap.size) (r.2.2.2 - ws)) s m args below meth c H locs (z - s.heap.size) (w - ws) (MQ below (mQN D cA z0 (some (.int r.1)) r.2.1 r.2.2.1) args s (r.2.2.1 - s.heap.size) (r.2.2.2 - ws) (mA z0)) (F0 m 35 ls [.int s0]) := by
  have hx := X.ex
  have hb := X.by_
  unfold f_CL_extend_35 at hf
  obtain rfl := Option.some.inj hf
  exact r_iretN X I d_CL_extend_35

set_option maxHeartbeats 4000000 in
set_option maxRecDepth 100000 in
theorem w_CL_extend {h0 : Nat} {ws : Nat} {r : Int32 × mM × Nat × Nat} (X : mX p m meth c s args b_CL_extend 6 (some .int) "ColourLinker") (G : mG D cA dA z0 s) {H : Heap} {locs : List Loc} {μ : mM} {z w : Nat} {ls : Array Slot} {x1 : Int32} {x2 : Int32} {x3 : Int32} {x4 : Int32} (hw : ws ≤ w) (I : mI D cA z0 s μ H locs z) (hf : f_CL_extend h0 μ z w x1 x2 x3 x4 = some r) (hl : lv_has ls 6 [(0, va_rf (some h0)), (1, .int x1), (2, .int x2), (3, .int x3), (4, .int x4)]) : W p l e (rm_CL_extend (r.2.2.1 - s.heap.size) (r.2.2.2 - ws)) s m args below meth c H locs (z - s.heap.size) (w - ws) (MQ below (mQN D cA z0 (some (.int r.1)) r.2.1 r.2.2.1) args s (r.2.2.1 - s.heap.size) (r.2.2.2 - ws) (mA z0)) (F0 m 0 ls []) := by
  have hx := X.ex
  have hb := X.by_
  unfold f_CL_extend at hf
  obtain ⟨-, -, hz2, hw2, hf⟩ := mmT_e hf
  have hq : mq ws w z r.2.2.1 r.2.2.2 := ⟨hw, hz2, hw2⟩
  refine r_aload_n X d_CL_extend_0 rfl (lv_at hl 0 rfl) ?_
  refine lv_iload_n hx hb d_CL_extend_1 rfl (lv_at hl 1 rfl) ?_
  obtain ⟨q1, hv, hf⟩ := mbind hf
  obtain ⟨a, ha, hv⟩ := mbind hv
  obtain ⟨ha, fs, hm⟩ := mrc_e ha
  refine m_caR (m_runV (As := [.int x1]) (r := some h0) (rest := []) X G I h_CL_linkAt k_783 (c_CL_linkAt hv) mPr_blind (m_pre G I) hm rfl ha rfl rfl hl.1 (Nat.le_of_ble_eq_true rfl) rfl rfl ⟨Nat.le_of_ble_eq_true rfl, Nat.le_of_ble_eq_true rfl⟩ hq.rm d_CL_extend_2) ?_
  refine r_astore (i := 5) (lv' := [(5, va_rf q1), (0, va_rf (some h0)), (1, .int x1), (2, .int x2), (3, .int x3), (4, .int x4)]) X d_CL_extend_5 hl (by decide) rfl (fun ls hl => ?_)
  refine r_aload X d_CL_extend_7 (lv_at hl 0 rfl) ?_
  refine r_ifnonnull (tgt := 16) X d_CL_extend_9 (by decide) (fun hc => ?_) (fun hc => ?_)
  · have hf := miff hf hc
    refine r_aload_n X d_CL_extend_16 rfl (lv_at hl 1 rfl) ?_
    refine r_aload X d_CL_extend_17 (lv_at hl 0 rfl) ?_
    refine r_aload X d_CL_extend_19 (lv_at hl 0 rfl) ?_
    obtain ⟨v2, hv, hf⟩ := mbind hf
    refine r_getfN X G I (mfA_e hv) o_Link_to k_749 (Or.inl rfl) d_CL_extend_21 ?_
    refine r_aload_n X d_CL_extend_24 rfl (lv_at hl 1 rfl) ?_
    refine lv_iload_n hx hb d_CL_extend_25 rfl (lv_at hl 3 rfl) ?_
    obtain ⟨q3, hv, hf⟩ := mbind hf
    obtain ⟨a, ha, hv⟩ := mbind hv
    obtain ⟨ha, fs, hm⟩ := mrc_e ha
    refine m_caR (m_runV (As := [.int x2]) (r := some h0) (rest := [va_rf v2, va_rf q1, va_rf (some h0)]) X G I h_CL_profileAt k_617 (c_CL_profileAt hv) mPr_blind (m_pre G I) hm rfl ha rfl rfl hl.1 (Nat.le_of_ble_eq_true rfl) rfl rfl ⟨Nat.le_of_ble_eq_true rfl, Nat.le_of_ble_eq_true rfl⟩ hq.rm d_CL_extend_26) ?_
    refine lv_iload_n hx hb d_CL_extend_29 rfl (lv_at hl 4 rfl) ?_
    refine lv_iload hx hb d_CL_extend_30 (lv_at hl 5 rfl) ?_
    obtain ⟨q4, hv, hf⟩ := mbind hf
    obtain ⟨hz1, hw1, hz2, hw2, hf⟩ := mmT_e hf
    have hrn := hq.rmN I hz1 hw1 hz2 hw2
    obtain ⟨a, ha, hv⟩ := mbind hv
    obtain ⟨ha, fs, hm⟩ := mrc_e ha
    refine m_caN (m_runV (As := [va_rf q1, va_rf v2, va_rf q3, .int x3, .int x4]) (r := some h0) (rest := []) X G I h_CL_join k_656 (c_CL_join hv) mPn_blind (m_preN G I) hm rfl ha rfl rfl hl.1 (Nat.le_of_ble_eq_true rfl) rfl rfl ⟨Nat.le_of_ble_eq_true rfl, Nat.le_of_ble_eq_true rfl⟩ hrn d_CL_extend_32) I hq.1 hz1 hw1 (fun H locs I => ?_)
    have hq := hq.up hw1 hz2 hw2
    exact w_CL_extend_35 X G hq I hf (lv_sub hl [1] rfl)
  · have hf := mift hf hc
    refine lv_iconst (v := -1) hx hb d_CL_extend_12 (by decide) ?_
    refine lv_goto (tgt := 35) hx hb d_CL_extend_13 (by decide) ?_
    exact w_CL_extend_35 X G hq I hf (lv_sub hl [1] rfl)

set_option maxHeartbeats 4000000 in
set_option maxRecDepth 100000 in
theorem c_CL_extend {l : Launch} {D : va_G} {cA : Nat → ClassId} {dA z0 : Nat} {μ : mM} {h0 : Nat} {z w : Nat} {x1 : Int32} {x2 : Int32} {x3 : Int32} {x4 : Int32} {r : Int32 × mM × Nat × Nat} (hf : f_CL_extend h0 μ z w x1 x2 x3 x4 = some r) : Met l y_CL_extend (mW y_CL_extend b_CL_extend 6 (some .int)) (rm_CL_extend (r.2.2.1 - z) (r.2.2.2 - w)) (va_Pc [.ref h0, .int x1, .int x2, .int x3, .int x4] (mPn D cA dA z0 μ z)) (mQN D cA z0 (some (.int r.1)) r.2.1 r.2.2.1) (r.2.2.1 - z) (r.2.2.2 - w) (mA z0) := by
  refine Met.ofW (cc := b_CL_extend) (maxL := 6) (ret := (some .int)) (by decide) rfl ?_
  intro p e s m args below meth c s₁ B hml hv
  obtain ⟨rfl, G, hP, rfl⟩ := hv
  have X := mX.of B hml
  refine m_entry (lv := [(0, va_rf (some h0)), (1, .int x1), (2, .int x2), (3, .int x3), (4, .int x4)]) (Nat.le_of_ble_eq_true rfl) rfl (fun ls hl => ?_)
  have h := w_CL_extend (p := p) (l := l) (e := e) (below := below) X G (Nat.le_refl w) (mI.start hP) hf hl
  rw [Nat.sub_self s.heap.size, Nat.sub_self w] at h
  exact h

abbrev rm_Mo_linked : Room := { frames := 0, cells := 0, slots := 0, locals := 0 }
theorem h_Mo_linked : mCV y_Mo_linked b_Mo_linked 2 (some .boolean) 1 := ⟨k_1170, k_79, ⟨by decide, by decide, by decide +kernel⟩, k_1169, k_69⟩
set_option maxHeartbeats 4000000 in
set_option maxRecDepth 100000 in
theorem w_Mo_linked_17 {μ : mM} {h0 : Nat} {r : Int32} (X : mX p m meth c s args b_Mo_linked 2 (some .boolean) "ColourLinkerModel") (G : mG D cA dA z0 s) (I : mI D cA z0 s μ s.heap [] s.heap.size) {ls : Array Slot} {s0 : Int32} (hf : f_Mo_linked_17 μ h0 s0 = some r) (hl : lv_has ls 2 [(0, va_rf (some h0))]) : W p l e rm_Mo_linked s m args below meth c s.heap [] 0 0 (MQ below (mQR (some (.int r))) args s 0 0 (fun _ => False)) (F0 m 17 ls [.int s0]) := by
  have hx := X.ex
  have hb := X.by_
  unfold f_Mo_linked_17 at hf
  obtain ⟨v2, hv, hf⟩ := mbind hf
  obtain ⟨hz0, hz⟩ := mz_e hv
  rw [hz0] at hf
  obtain rfl := Option.some.inj hf
  exact r_zretR X hz d_Mo_linked_17

set_option maxHeartbeats 4000000 in
set_option maxRecDepth 100000 in
theorem w_Mo_linked_16 {μ : mM} {h0 : Nat} {r : Int32} (X : mX p m meth c s args b_Mo_linked 2 (some .boolean) "ColourLinkerModel") (G : mG D cA dA z0 s) (I : mI D cA z0 s μ s.heap [] s.heap.size) {ls : Array Slot}  (hf : f_Mo_linked_16 μ h0 = some r) (hl : lv_has ls 2 [(0, va_rf (some h0))]) : W p l e rm_Mo_linked s m args below meth c s.heap [] 0 0 (MQ below (mQR (some (.int r))) args s 0 0 (fun _ => False)) (F0 m 16 ls []) := by
  have hx := X.ex
  have hb := X.by_
  unfold f_Mo_linked_16 at hf
  refine lv_iconst (v := 0) hx hb d_Mo_linked_16 (by decide) ?_
  exact w_Mo_linked_17 X G I hf hl

set_option maxHeartbeats 4000000 in
set_option maxRecDepth 100000 in
theorem w_Mo_linked {μ : mM} {h0 : Nat} {r : Int32} (X : mX p m meth c s args b_Mo_linked 2 (some .boolean) "ColourLinkerModel") (G : mG D cA dA z0 s) (I : mI D cA z0 s μ s.heap [] s.heap.size) {ls : Array Slot} {x1 : Int32} (hf : f_Mo_linked μ h0 x1 = some r) (hl : lv_has ls 2 [(0, va_rf (some h0)), (1, .int x1)]) : W p l e rm_Mo_linked s m args below meth c s.heap [] 0 0 (MQ below (mQR (some (.int r))) args s 0 0 (fun _ => False)) (F0 m 0 ls []) := by
  have hx := X.ex
  have hb := X.by_
  unfold f_Mo_linked at hf
  refine lv_iload_n hx hb d_Mo_linked_0 rfl (lv_at hl 1 rfl) ?_
  refine lv_if_lt (tgt := 16) hx hb d_Mo_linked_1 (by decide) (fun hc => ?_) (fun hc => ?_)
  · have hf := mift hf hc
    exact w_Mo_linked_16 X G I hf (lv_sub hl [0] rfl)
  · have hf := miff hf hc
    refine lv_iload_n hx hb d_Mo_linked_4 rfl (lv_at hl 1 rfl) ?_
    refine r_aload_n X d_Mo_linked_5 rfl (lv_at hl 0 rfl) ?_
    obtain ⟨v1, hv, hf⟩ := mbind hf
    refine r_getf X G I (mfI_e hv) o_Mo_links k_844 (Or.inl rfl) d_Mo_linked_6 ?_
    refine lv_icmp_ge (tgt := 16) hx hb d_Mo_linked_9 (by decide) (fun hc => ?_) (fun hc => ?_)
    · have hf := mift hf hc
      exact w_Mo_linked_16 X G I hf (lv_sub hl [0] rfl)
    · have hf := miff hf hc
      refine lv_iconst (v := 1) hx hb d_Mo_linked_12 (by decide) ?_
      refine lv_goto (tgt := 17) hx hb d_Mo_linked_13 (by decide) ?_
      exact w_Mo_linked_17 X G I hf (lv_sub hl [0] rfl)

set_option maxHeartbeats 4000000 in
set_option maxRecDepth 100000 in
theorem c_Mo_linked {l : Launch} {D : va_G} {cA : Nat → ClassId} {dA z0 : Nat} {μ : mM} {h0 : Nat} {x1 : Int32} {r : Int32} (hf : f_Mo_linked μ h0 x1 = some r) : Met l y_Mo_linked (mW y_Mo_linked b_Mo_linked 2 (some .boolean)) rm_Mo_linked (va_Pc [.ref h0, .int x1] (mPr D cA dA z0 μ)) (mQR (some (.int r))) 0 0 (fun _ => False) := by
  refine Met.ofW (cc := b_Mo_linked) (maxL := 2) (ret := (some .boolean)) (by decide) rfl ?_
  intro p e s m args below meth c s₁ B hml hv
  obtain ⟨rfl, G, hP⟩ := hv
  have X := mX.of B hml
  exact m_entry (lv := [(0, va_rf (some h0)), (1, .int x1)]) (Nat.le_of_ble_eq_true rfl) rfl (fun ls hl => w_Mo_linked X G (mI.start hP) hf hl)

abbrev rm_Mo_extend : Room := { frames := 11, cells := 0, slots := 0, locals := 287 }
theorem h_Mo_extend : mCV y_Mo_extend b_Mo_extend 5 (some .int) 4 := ⟨k_1166, k_79, ⟨by decide, by decide, by decide +kernel⟩, k_1164, k_1165⟩
set_option maxHeartbeats 4000000 in
set_option maxRecDepth 100000 in
theorem w_Mo_extend_16 {h0 : Nat} {r : Int32 × mM} (X : mX p m meth c s args b_Mo_extend 5 (some .int) "ColourLinkerModel") (G : mG D cA dA z0 s) {H : Heap} {locs : List Loc} {μ : mM} {ls : Array Slot}  (I : mI D cA z0 s μ H locs s.heap.size) (hf : f_Mo_extend_16 h0 μ = some r) (hl : lv_has ls 5 [(0, va_rf (some h0))]) : W p l e rm_Mo_extend s m args below meth c H locs 0 0 (MQ below (mQW D cA z0 (some (.int r.1)) r.2) args s 0 0 (mA z0)) (F0 m 16 ls []) := by
  have hx := X.ex
  have hb := X.by_
  unfold f_Mo_extend_16 at hf
  refine lv_iconst (v := -1) hx hb d_Mo_extend_16 (by decide) ?_
  obtain rfl := Option.some.inj hf
  exact r_iretW X I d_Mo_extend_17

set_option maxHeartbeats 4000000 in
set_option maxRecDepth 100000 in
theorem w_Mo_extend {h0 : Nat} {r : Int32 × mM} (X : mX p m meth c s args b_Mo_extend 5 (some .int) "ColourLinkerModel") (G : mG D cA dA z0 s) {H : Heap} {locs : List Loc} {μ : mM} {ls : Array Slot} {x1 : Int32} {x2 : Int32} {x3 : Int32} {x4 : Int32} (I : mI D cA z0 s μ H locs s.heap.size) (hf : f_Mo_extend h0 μ x1 x2 x3 x4 = some r) (hl : lv_has ls 5 [(0, va_rf (some h0)), (1, .int x1), (2, .int x2), (3, .int x3), (4, .int x4)]) : W p l e rm_Mo_extend s m args below meth c H locs 0 0 (MQ below (mQW D cA z0 (some (.int r.1)) r.2) args s 0 0 (mA z0)) (F0 m 0 ls []) := by
  have hx := X.ex
  have hb := X.by_
  unfold f_Mo_extend at hf
  refine r_aload_n X d_Mo_extend_0 rfl (lv_at hl 0 rfl) ?_
  refine lv_iload_n hx hb d_Mo_extend_1 rfl (lv_at hl 1 rfl) ?_
  obtain ⟨q1, hv, hf⟩ := mbind hf
  obtain ⟨a, ha, hv⟩ := mbind hv
  obtain ⟨ha, fs, hm⟩ := mrc_e ha
  refine m_caR (m_runV (As := [.int x1]) (r := some h0) (rest := []) X G I h_Mo_linked k_1167 (c_Mo_linked hv) mPr_blind (m_pre G I) hm rfl ha rfl rfl hl.1 (Nat.le_of_ble_eq_true rfl) rfl rfl ⟨Nat.le_of_ble_eq_true rfl, Nat.le_of_ble_eq_true rfl⟩ ⟨Nat.le_refl _, Nat.le_refl _⟩ d_Mo_extend_2) ?_
  refine lv_if_eq (tgt := 16) hx hb d_Mo_extend_5 (by decide) (fun hc => ?_) (fun hc => ?_)
  · have hf := mift hf hc
    exact w_Mo_extend_16 X G I hf (lv_sub hl [0] rfl)
  · have hf := miff hf hc
    refine r_aload_n X d_Mo_extend_8 rfl (lv_at hl 0 rfl) ?_
    refine lv_iload_n hx hb d_Mo_extend_9 rfl (lv_at hl 2 rfl) ?_
    obtain ⟨q2, hv, hf⟩ := mbind hf
    obtain ⟨a, ha, hv⟩ := mbind hv
    obtain ⟨ha, fs, hm⟩ := mrc_e ha
    refine m_caR (m_runV (As := [.int x2]) (r := some h0) (rest := []) X G I h_Mo_there k_943 (c_Mo_there hv) mPr_blind (m_pre G I) hm rfl ha rfl rfl hl.1 (Nat.le_of_ble_eq_true rfl) rfl rfl ⟨Nat.le_of_ble_eq_true rfl, Nat.le_of_ble_eq_true rfl⟩ ⟨Nat.le_refl _, Nat.le_refl _⟩ d_Mo_extend_10) ?_
    refine lv_if_ne (tgt := 18) hx hb d_Mo_extend_13 (by decide) (fun hc => ?_) (fun hc => ?_)
    · have hf := miff hf hc
      refine r_aload_n X d_Mo_extend_18 rfl (lv_at hl 0 rfl) ?_
      refine lv_iload_n hx hb d_Mo_extend_19 rfl (lv_at hl 1 rfl) ?_
      refine r_aload_n X d_Mo_extend_20 rfl (lv_at hl 0 rfl) ?_
      obtain ⟨v3, hv, hf⟩ := mbind hf
      refine r_getf X G I (mfA_e hv) o_Mo_target k_840 (Or.inl rfl) d_Mo_extend_21 ?_
      refine lv_iload_n hx hb d_Mo_extend_24 rfl (lv_at hl 1 rfl) ?_
      obtain ⟨v4, hv, hf⟩ := mbind hf
      refine r_iald X G I hv d_Mo_extend_25 ?_
      refine lv_iload_n hx hb d_Mo_extend_26 rfl (lv_at hl 2 rfl) ?_
      refine lv_iload_n hx hb d_Mo_extend_27 rfl (lv_at hl 3 rfl) ?_
      refine lv_iload hx hb d_Mo_extend_28 (lv_at hl 4 rfl) ?_
      obtain ⟨q5, hv, hf⟩ := mbind hf
      obtain ⟨a, ha, hv⟩ := mbind hv
      obtain ⟨ha, fs, hm⟩ := mrc_e ha
      refine m_caW (m_runV (As := [.int x1, .int v4, .int x2, .int x3, .int x4]) (r := some h0) (rest := []) X G I h_Mo_make k_1013 (c_Mo_make hv) mPr_blind (m_pre G I) hm rfl ha rfl rfl hl.1 (Nat.le_of_ble_eq_true rfl) rfl rfl ⟨Nat.le_of_ble_eq_true rfl, Nat.le_of_ble_eq_true rfl⟩ ⟨Nat.le_refl _, Nat.le_refl _⟩ d_Mo_extend_30) I (fun H locs I => ?_)
      obtain rfl := Option.some.inj hf
      exact r_iretW X I d_Mo_extend_33
    · have hf := mift hf hc
      exact w_Mo_extend_16 X G I hf (lv_sub hl [0] rfl)

set_option maxHeartbeats 4000000 in
set_option maxRecDepth 100000 in
theorem c_Mo_extend {l : Launch} {D : va_G} {cA : Nat → ClassId} {dA z0 : Nat} {μ : mM} {h0 : Nat} {x1 : Int32} {x2 : Int32} {x3 : Int32} {x4 : Int32} {r : Int32 × mM} (hf : f_Mo_extend h0 μ x1 x2 x3 x4 = some r) : Met l y_Mo_extend (mW y_Mo_extend b_Mo_extend 5 (some .int)) rm_Mo_extend (va_Pc [.ref h0, .int x1, .int x2, .int x3, .int x4] (mPr D cA dA z0 μ)) (mQW D cA z0 (some (.int r.1)) r.2) 0 0 (mA z0) := by
  refine Met.ofW (cc := b_Mo_extend) (maxL := 5) (ret := (some .int)) (by decide) rfl ?_
  intro p e s m args below meth c s₁ B hml hv
  obtain ⟨rfl, G, hP⟩ := hv
  have X := mX.of B hml
  exact m_entry (lv := [(0, va_rf (some h0)), (1, .int x1), (2, .int x2), (3, .int x3), (4, .int x4)]) (Nat.le_of_ble_eq_true rfl) rfl (fun ls hl => w_Mo_extend X G (mI.start hP) hf hl)

abbrev rm_CL_links : Room := { frames := 0, cells := 0, slots := 0, locals := 0 }
theorem h_CL_links : mCV y_CL_links b_CL_links 1 (some .int) 0 := ⟨k_790, k_75, ⟨by decide, by decide, by decide +kernel⟩, k_788, k_789⟩
set_option maxHeartbeats 4000000 in
set_option maxRecDepth 100000 in
theorem w_CL_links {μ : mM} {h0 : Nat} {r : Int32} (X : mX p m meth c s args b_CL_links 1 (some .int) "ColourLinker") (G : mG D cA dA z0 s) (I : mI D cA z0 s μ s.heap [] s.heap.size) {ls : Array Slot}  (hf : f_CL_links μ h0 = some r) (hl : lv_has ls 1 [(0, va_rf (some h0))]) : W p l e rm_CL_links s m args below meth c s.heap [] 0 0 (MQ below (mQR (some (.int r))) args s 0 0 (fun _ => False)) (F0 m 0 ls []) := by
  have hx := X.ex
  have hb := X.by_
  unfold f_CL_links at hf
  refine r_aload_n X d_CL_links_0 rfl (lv_at hl 0 rfl) ?_
  obtain ⟨v1, hv, hf⟩ := mbind hf
  refine r_getf X G I (mfI_e hv) o_CL_madeCount k_150 (Or.inl rfl) d_CL_links_1 ?_
  obtain rfl := Option.some.inj hf
  exact r_iretR X d_CL_links_4

set_option maxHeartbeats 4000000 in
set_option maxRecDepth 100000 in
theorem c_CL_links {l : Launch} {D : va_G} {cA : Nat → ClassId} {dA z0 : Nat} {μ : mM} {h0 : Nat} {r : Int32} (hf : f_CL_links μ h0 = some r) : Met l y_CL_links (mW y_CL_links b_CL_links 1 (some .int)) rm_CL_links (va_Pc [.ref h0] (mPr D cA dA z0 μ)) (mQR (some (.int r))) 0 0 (fun _ => False) := by
  refine Met.ofW (cc := b_CL_links) (maxL := 1) (ret := (some .int)) (by decide) rfl ?_
  intro p e s m args below meth c s₁ B hml hv
  obtain ⟨rfl, G, hP⟩ := hv
  have X := mX.of B hml
  exact m_entry (lv := [(0, va_rf (some h0))]) (Nat.le_of_ble_eq_true rfl) rfl (fun ls hl => w_CL_links X G (mI.start hP) hf hl)

abbrev rm_Mo_links : Room := { frames := 0, cells := 0, slots := 0, locals := 0 }
theorem h_Mo_links : mCV y_Mo_links b_Mo_links 1 (some .int) 0 := ⟨k_1174, k_79, ⟨by decide, by decide, by decide +kernel⟩, k_1172, k_1173⟩
set_option maxHeartbeats 4000000 in
set_option maxRecDepth 100000 in
theorem w_Mo_links {μ : mM} {h0 : Nat} {r : Int32} (X : mX p m meth c s args b_Mo_links 1 (some .int) "ColourLinkerModel") (G : mG D cA dA z0 s) (I : mI D cA z0 s μ s.heap [] s.heap.size) {ls : Array Slot}  (hf : f_Mo_links μ h0 = some r) (hl : lv_has ls 1 [(0, va_rf (some h0))]) : W p l e rm_Mo_links s m args below meth c s.heap [] 0 0 (MQ below (mQR (some (.int r))) args s 0 0 (fun _ => False)) (F0 m 0 ls []) := by
  have hx := X.ex
  have hb := X.by_
  unfold f_Mo_links at hf
  refine r_aload_n X d_Mo_links_0 rfl (lv_at hl 0 rfl) ?_
  obtain ⟨v1, hv, hf⟩ := mbind hf
  refine r_getf X G I (mfI_e hv) o_Mo_links k_844 (Or.inl rfl) d_Mo_links_1 ?_
  obtain rfl := Option.some.inj hf
  exact r_iretR X d_Mo_links_4

set_option maxHeartbeats 4000000 in
set_option maxRecDepth 100000 in
theorem c_Mo_links {l : Launch} {D : va_G} {cA : Nat → ClassId} {dA z0 : Nat} {μ : mM} {h0 : Nat} {r : Int32} (hf : f_Mo_links μ h0 = some r) : Met l y_Mo_links (mW y_Mo_links b_Mo_links 1 (some .int)) rm_Mo_links (va_Pc [.ref h0] (mPr D cA dA z0 μ)) (mQR (some (.int r))) 0 0 (fun _ => False) := by
  refine Met.ofW (cc := b_Mo_links) (maxL := 1) (ret := (some .int)) (by decide) rfl ?_
  intro p e s m args below meth c s₁ B hml hv
  obtain ⟨rfl, G, hP⟩ := hv
  have X := mX.of B hml
  exact m_entry (lv := [(0, va_rf (some h0))]) (Nat.le_of_ble_eq_true rfl) rfl (fun ls hl => w_Mo_links X G (mI.start hP) hf hl)

abbrev rm_CL_pieces : Room := { frames := 1, cells := 0, slots := 0, locals := 21 }
theorem h_CL_pieces : mCV y_CL_pieces b_CL_pieces 3 (some .int) 1 := ⟨k_794, k_75, ⟨by decide, by decide, by decide +kernel⟩, k_792, k_793⟩
set_option maxHeartbeats 4000000 in
set_option maxRecDepth 100000 in
theorem w_CL_pieces_19 {μ : mM} {h0 : Nat} {r : Int32} (X : mX p m meth c s args b_CL_pieces 3 (some .int) "ColourLinker") (G : mG D cA dA z0 s) (I : mI D cA z0 s μ s.heap [] s.heap.size) {ls : Array Slot} {s0 : Int32} (hf : f_CL_pieces_19 μ h0 s0 = some r) (hl : lv_has ls 3 [(0, va_rf (some h0))]) : W p l e rm_CL_pieces s m args below meth c s.heap [] 0 0 (MQ below (mQR (some (.int r))) args s 0 0 (fun _ => False)) (F0 m 19 ls [.int s0]) := by
  have hx := X.ex
  have hb := X.by_
  unfold f_CL_pieces_19 at hf
  obtain rfl := Option.some.inj hf
  exact r_iretR X d_CL_pieces_19

set_option maxHeartbeats 4000000 in
set_option maxRecDepth 100000 in
theorem w_CL_pieces {μ : mM} {h0 : Nat} {r : Int32} (X : mX p m meth c s args b_CL_pieces 3 (some .int) "ColourLinker") (G : mG D cA dA z0 s) (I : mI D cA z0 s μ s.heap [] s.heap.size) {ls : Array Slot} {x1 : Int32} (hf : f_CL_pieces μ h0 x1 = some r) (hl : lv_has ls 3 [(0, va_rf (some h0)), (1, .int x1)]) : W p l e rm_CL_pieces s m args below meth c s.heap [] 0 0 (MQ below (mQR (some (.int r))) args s 0 0 (fun _ => False)) (F0 m 0 ls []) := by
  have hx := X.ex
  have hb := X.by_
  unfold f_CL_pieces at hf
  refine r_aload_n X d_CL_pieces_0 rfl (lv_at hl 0 rfl) ?_
  refine lv_iload_n hx hb d_CL_pieces_1 rfl (lv_at hl 1 rfl) ?_
  obtain ⟨q1, hv, hf⟩ := mbind hf
  obtain ⟨a, ha, hv⟩ := mbind hv
  obtain ⟨ha, fs, hm⟩ := mrc_e ha
  refine m_caR (m_runV (As := [.int x1]) (r := some h0) (rest := []) X G I h_CL_linkAt k_783 (c_CL_linkAt hv) mPr_blind (m_pre G I) hm rfl ha rfl rfl hl.1 (Nat.le_of_ble_eq_true rfl) rfl rfl ⟨Nat.le_of_ble_eq_true rfl, Nat.le_of_ble_eq_true rfl⟩ ⟨Nat.le_refl _, Nat.le_refl _⟩ d_CL_pieces_2) ?_
  refine r_astore_n (i := 2) (lv' := [(2, va_rf q1), (0, va_rf (some h0)), (1, .int x1)]) X d_CL_pieces_5 rfl hl (by decide) rfl (fun ls hl => ?_)
  refine r_aload_n X d_CL_pieces_6 rfl (lv_at hl 0 rfl) ?_
  refine r_ifnonnull (tgt := 14) X d_CL_pieces_7 (by decide) (fun hc => ?_) (fun hc => ?_)
  · have hf := miff hf hc
    refine r_aload_n X d_CL_pieces_14 rfl (lv_at hl 0 rfl) ?_
    obtain ⟨v2, hv, hf⟩ := mbind hf
    refine r_getfN X G I (mfA_e hv) o_Link_row k_755 (Or.inl rfl) d_CL_pieces_15 ?_
    obtain ⟨v3, hv, hf⟩ := mbind hf
    refine r_alen X G I hv d_CL_pieces_18 ?_
    exact w_CL_pieces_19 X G I hf (lv_sub hl [1] rfl)
  · have hf := mift hf hc
    refine lv_iconst (v := -1) hx hb d_CL_pieces_10 (by decide) ?_
    refine lv_goto (tgt := 19) hx hb d_CL_pieces_11 (by decide) ?_
    exact w_CL_pieces_19 X G I hf (lv_sub hl [1] rfl)

set_option maxHeartbeats 4000000 in
set_option maxRecDepth 100000 in
theorem c_CL_pieces {l : Launch} {D : va_G} {cA : Nat → ClassId} {dA z0 : Nat} {μ : mM} {h0 : Nat} {x1 : Int32} {r : Int32} (hf : f_CL_pieces μ h0 x1 = some r) : Met l y_CL_pieces (mW y_CL_pieces b_CL_pieces 3 (some .int)) rm_CL_pieces (va_Pc [.ref h0, .int x1] (mPr D cA dA z0 μ)) (mQR (some (.int r))) 0 0 (fun _ => False) := by
  refine Met.ofW (cc := b_CL_pieces) (maxL := 3) (ret := (some .int)) (by decide) rfl ?_
  intro p e s m args below meth c s₁ B hml hv
  obtain ⟨rfl, G, hP⟩ := hv
  have X := mX.of B hml
  exact m_entry (lv := [(0, va_rf (some h0)), (1, .int x1)]) (Nat.le_of_ble_eq_true rfl) rfl (fun ls hl => w_CL_pieces X G (mI.start hP) hf hl)

abbrev rm_Mo_pieces : Room := { frames := 10, cells := 0, slots := 0, locals := 258 }
theorem h_Mo_pieces : mCV y_Mo_pieces b_Mo_pieces 2 (some .int) 1 := ⟨k_1178, k_79, ⟨by decide, by decide, by decide +kernel⟩, k_1176, k_1177⟩
set_option maxHeartbeats 4000000 in
set_option maxRecDepth 100000 in
theorem w_Mo_pieces {h0 : Nat} {r : Int32 × mM} (X : mX p m meth c s args b_Mo_pieces 2 (some .int) "ColourLinkerModel") (G : mG D cA dA z0 s) {H : Heap} {locs : List Loc} {μ : mM} {ls : Array Slot} {x1 : Int32} (I : mI D cA z0 s μ H locs s.heap.size) (hf : f_Mo_pieces h0 μ x1 = some r) (hl : lv_has ls 2 [(0, va_rf (some h0)), (1, .int x1)]) : W p l e rm_Mo_pieces s m args below meth c H locs 0 0 (MQ below (mQW D cA z0 (some (.int r.1)) r.2) args s 0 0 (mA z0)) (F0 m 0 ls []) := by
  have hx := X.ex
  have hb := X.by_
  unfold f_Mo_pieces at hf
  refine r_aload_n X d_Mo_pieces_0 rfl (lv_at hl 0 rfl) ?_
  refine lv_iload_n hx hb d_Mo_pieces_1 rfl (lv_at hl 1 rfl) ?_
  obtain ⟨q1, hv, hf⟩ := mbind hf
  obtain ⟨a, ha, hv⟩ := mbind hv
  obtain ⟨ha, fs, hm⟩ := mrc_e ha
  refine m_caR (m_runV (As := [.int x1]) (r := some h0) (rest := []) X G I h_Mo_linked k_1167 (c_Mo_linked hv) mPr_blind (m_pre G I) hm rfl ha rfl rfl hl.1 (Nat.le_of_ble_eq_true rfl) rfl rfl ⟨Nat.le_of_ble_eq_true rfl, Nat.le_of_ble_eq_true rfl⟩ ⟨Nat.le_refl _, Nat.le_refl _⟩ d_Mo_pieces_2) ?_
  refine lv_if_ne (tgt := 10) hx hb d_Mo_pieces_5 (by decide) (fun hc => ?_) (fun hc => ?_)
  · have hf := miff hf hc
    refine r_aload_n X d_Mo_pieces_10 rfl (lv_at hl 0 rfl) ?_
    refine lv_iload_n hx hb d_Mo_pieces_11 rfl (lv_at hl 1 rfl) ?_
    obtain ⟨q2, hv, hf⟩ := mbind hf
    obtain ⟨a, ha, hv⟩ := mbind hv
    obtain ⟨ha, fs, hm⟩ := mrc_e ha
    refine m_caWv (m_runV (As := [.int x1]) (r := some h0) (rest := []) X G I h_Mo_lay k_1150 (c_Mo_lay hv) mPr_blind (m_pre G I) hm rfl ha rfl rfl hl.1 (Nat.le_of_ble_eq_true rfl) rfl rfl ⟨Nat.le_of_ble_eq_true rfl, Nat.le_of_ble_eq_true rfl⟩ ⟨Nat.le_refl _, Nat.le_refl _⟩ d_Mo_pieces_12) I (fun H locs I => ?_)
    refine r_aload_n X d_Mo_pieces_15 rfl (lv_at hl 0 rfl) ?_
    obtain ⟨v3, hv, hf⟩ := mbind hf
    refine r_getf X G I (mfI_e hv) o_Mo_row k_850 (Or.inl rfl) d_Mo_pieces_16 ?_
    obtain rfl := Option.some.inj hf
    exact r_iretW X I d_Mo_pieces_19
  · have hf := mift hf hc
    refine lv_iconst (v := -1) hx hb d_Mo_pieces_8 (by decide) ?_
    obtain rfl := Option.some.inj hf
    exact r_iretW X I d_Mo_pieces_9

set_option maxHeartbeats 4000000 in
set_option maxRecDepth 100000 in
theorem c_Mo_pieces {l : Launch} {D : va_G} {cA : Nat → ClassId} {dA z0 : Nat} {μ : mM} {h0 : Nat} {x1 : Int32} {r : Int32 × mM} (hf : f_Mo_pieces h0 μ x1 = some r) : Met l y_Mo_pieces (mW y_Mo_pieces b_Mo_pieces 2 (some .int)) rm_Mo_pieces (va_Pc [.ref h0, .int x1] (mPr D cA dA z0 μ)) (mQW D cA z0 (some (.int r.1)) r.2) 0 0 (mA z0) := by
  refine Met.ofW (cc := b_Mo_pieces) (maxL := 2) (ret := (some .int)) (by decide) rfl ?_
  intro p e s m args below meth c s₁ B hml hv
  obtain ⟨rfl, G, hP⟩ := hv
  have X := mX.of B hml
  exact m_entry (lv := [(0, va_rf (some h0)), (1, .int x1)]) (Nat.le_of_ble_eq_true rfl) rfl (fun ls hl => w_Mo_pieces X G (mI.start hP) hf hl)

abbrev rm_CL_piece : Room := { frames := 1, cells := 0, slots := 0, locals := 21 }
theorem h_CL_piece : mCV y_CL_piece b_CL_piece 4 (some .int) 2 := ⟨k_798, k_75, ⟨by decide, by decide, by decide +kernel⟩, k_796, k_797⟩
set_option maxHeartbeats 4000000 in
set_option maxRecDepth 100000 in
theorem w_CL_piece_23 {μ : mM} {h0 : Nat} {r : Int32} (X : mX p m meth c s args b_CL_piece 4 (some .int) "ColourLinker") (G : mG D cA dA z0 s) (I : mI D cA z0 s μ s.heap [] s.heap.size) {ls : Array Slot}  (hf : f_CL_piece_23 μ h0 = some r) (hl : lv_has ls 4 [(0, va_rf (some h0))]) : W p l e rm_CL_piece s m args below meth c s.heap [] 0 0 (MQ below (mQR (some (.int r))) args s 0 0 (fun _ => False)) (F0 m 23 ls []) := by
  have hx := X.ex
  have hb := X.by_
  unfold f_CL_piece_23 at hf
  refine lv_iconst (v := -1) hx hb d_CL_piece_23 (by decide) ?_
  obtain rfl := Option.some.inj hf
  exact r_iretR X d_CL_piece_24

set_option maxHeartbeats 4000000 in
set_option maxRecDepth 100000 in
theorem w_CL_piece {μ : mM} {h0 : Nat} {r : Int32} (X : mX p m meth c s args b_CL_piece 4 (some .int) "ColourLinker") (G : mG D cA dA z0 s) (I : mI D cA z0 s μ s.heap [] s.heap.size) {ls : Array Slot} {x1 : Int32} {x2 : Int32} (hf : f_CL_piece μ h0 x1 x2 = some r) (hl : lv_has ls 4 [(0, va_rf (some h0)), (1, .int x1), (2, .int x2)]) : W p l e rm_CL_piece s m args below meth c s.heap [] 0 0 (MQ below (mQR (some (.int r))) args s 0 0 (fun _ => False)) (F0 m 0 ls []) := by
  have hx := X.ex
  have hb := X.by_
  unfold f_CL_piece at hf
  refine r_aload_n X d_CL_piece_0 rfl (lv_at hl 0 rfl) ?_
  refine lv_iload_n hx hb d_CL_piece_1 rfl (lv_at hl 1 rfl) ?_
  obtain ⟨q1, hv, hf⟩ := mbind hf
  obtain ⟨a, ha, hv⟩ := mbind hv
  obtain ⟨ha, fs, hm⟩ := mrc_e ha
  refine m_caR (m_runV (As := [.int x1]) (r := some h0) (rest := []) X G I h_CL_linkAt k_783 (c_CL_linkAt hv) mPr_blind (m_pre G I) hm rfl ha rfl rfl hl.1 (Nat.le_of_ble_eq_true rfl) rfl rfl ⟨Nat.le_of_ble_eq_true rfl, Nat.le_of_ble_eq_true rfl⟩ ⟨Nat.le_refl _, Nat.le_refl _⟩ d_CL_piece_2) ?_
  refine r_astore_n (i := 3) (lv' := [(3, va_rf q1), (0, va_rf (some h0)), (1, .int x1), (2, .int x2)]) X d_CL_piece_5 rfl hl (by decide) rfl (fun ls hl => ?_)
  refine r_aload_n X d_CL_piece_6 rfl (lv_at hl 0 rfl) ?_
  refine r_ifnull (tgt := 23) X d_CL_piece_7 (by decide) (fun hc => ?_) (fun hc => ?_)
  · have hf := mift hf hc
    exact w_CL_piece_23 X G I hf (lv_sub hl [1] rfl)
  · have hf := miff hf hc
    refine lv_iload_n hx hb d_CL_piece_10 rfl (lv_at hl 3 rfl) ?_
    refine lv_if_lt (tgt := 23) hx hb d_CL_piece_11 (by decide) (fun hc => ?_) (fun hc => ?_)
    · have hf := mift hf hc
      exact w_CL_piece_23 X G I hf (lv_sub hl [1] rfl)
    · have hf := miff hf hc
      refine lv_iload_n hx hb d_CL_piece_14 rfl (lv_at hl 3 rfl) ?_
      refine r_aload_n X d_CL_piece_15 rfl (lv_at hl 0 rfl) ?_
      obtain ⟨v2, hv, hf⟩ := mbind hf
      refine r_getfN X G I (mfA_e hv) o_Link_row k_755 (Or.inl rfl) d_CL_piece_16 ?_
      obtain ⟨v3, hv, hf⟩ := mbind hf
      refine r_alen X G I hv d_CL_piece_19 ?_
      refine lv_icmp_lt (tgt := 25) hx hb d_CL_piece_20 (by decide) (fun hc => ?_) (fun hc => ?_)
      · have hf := mift hf hc
        refine r_aload_n X d_CL_piece_25 rfl (lv_at hl 0 rfl) ?_
        obtain ⟨v4, hv, hf⟩ := mbind hf
        refine r_getfN X G I (mfA_e hv) o_Link_row k_755 (Or.inl rfl) d_CL_piece_26 ?_
        refine lv_iload_n hx hb d_CL_piece_29 rfl (lv_at hl 3 rfl) ?_
        obtain ⟨v5, hv, hf⟩ := mbind hf
        refine r_aald X G I hv d_CL_piece_30 ?_
        obtain ⟨v6, hv, hf⟩ := mbind hf
        refine r_getf X G I (mfI_e hv) o_Piece_kind k_136 (Or.inl rfl) d_CL_piece_31 ?_
        obtain rfl := Option.some.inj hf
        exact r_iretR X d_CL_piece_34
      · have hf := miff hf hc
        exact w_CL_piece_23 X G I hf (lv_sub hl [1] rfl)

set_option maxHeartbeats 4000000 in
set_option maxRecDepth 100000 in
theorem c_CL_piece {l : Launch} {D : va_G} {cA : Nat → ClassId} {dA z0 : Nat} {μ : mM} {h0 : Nat} {x1 : Int32} {x2 : Int32} {r : Int32} (hf : f_CL_piece μ h0 x1 x2 = some r) : Met l y_CL_piece (mW y_CL_piece b_CL_piece 4 (some .int)) rm_CL_piece (va_Pc [.ref h0, .int x1, .int x2] (mPr D cA dA z0 μ)) (mQR (some (.int r))) 0 0 (fun _ => False) := by
  refine Met.ofW (cc := b_CL_piece) (maxL := 4) (ret := (some .int)) (by decide) rfl ?_
  intro p e s m args below meth c s₁ B hml hv
  obtain ⟨rfl, G, hP⟩ := hv
  have X := mX.of B hml
  exact m_entry (lv := [(0, va_rf (some h0)), (1, .int x1), (2, .int x2)]) (Nat.le_of_ble_eq_true rfl) rfl (fun ls hl => w_CL_piece X G (mI.start hP) hf hl)

abbrev rm_Mo_piece : Room := { frames := 11, cells := 0, slots := 0, locals := 279 }
theorem h_Mo_piece : mCV y_Mo_piece b_Mo_piece 4 (some .int) 2 := ⟨k_1182, k_79, ⟨by decide, by decide, by decide +kernel⟩, k_1180, k_1181⟩
set_option maxHeartbeats 4000000 in
set_option maxRecDepth 100000 in
theorem w_Mo_piece_25 {h0 : Nat} {r : Int32 × mM} (X : mX p m meth c s args b_Mo_piece 4 (some .int) "ColourLinkerModel") (G : mG D cA dA z0 s) {H : Heap} {locs : List Loc} {μ : mM} {ls : Array Slot} {s0 : Int32} (I : mI D cA z0 s μ H locs s.heap.size) (hf : f_Mo_piece_25 h0 μ s0 = some r) (hl : lv_has ls 4 [(0, va_rf (some h0))]) : W p l e rm_Mo_piece s m args below meth c H locs 0 0 (MQ below (mQW D cA z0 (some (.int r.1)) r.2) args s 0 0 (mA z0)) (F0 m 25 ls [.int s0]) := by
  have hx := X.ex
  have hb := X.by_
  unfold f_Mo_piece_25 at hf
  obtain rfl := Option.some.inj hf
  exact r_iretW X I d_Mo_piece_25

set_option maxHeartbeats 4000000 in
set_option maxRecDepth 100000 in
theorem w_Mo_piece_15 {h0 : Nat} {r : Int32 × mM} (X : mX p m meth c s args b_Mo_piece 4 (some .int) "ColourLinkerModel") (G : mG D cA dA z0 s) {H : Heap} {locs : List Loc} {μ : mM} {ls : Array Slot}  (I : mI D cA z0 s μ H locs s.heap.size) (hf : f_Mo_piece_15 h0 μ = some r) (hl : lv_has ls 4 [(0, va_rf (some h0))]) : W p l e rm_Mo_piece s m args below meth c H locs 0 0 (MQ below (mQW D cA z0 (some (.int r.1)) r.2) args s 0 0 (mA z0)) (F0 m 15 ls []) := by
  have hx := X.ex
  have hb := X.by_
  unfold f_Mo_piece_15 at hf
  refine lv_iconst (v := -1) hx hb d_Mo_piece_15 (by decide) ?_
  refine lv_goto (tgt := 25) hx hb d_Mo_piece_16 (by decide) ?_
  exact w_Mo_piece_25 X G I hf hl

set_option maxHeartbeats 4000000 in
set_option maxRecDepth 100000 in
theorem w_Mo_piece {h0 : Nat} {r : Int32 × mM} (X : mX p m meth c s args b_Mo_piece 4 (some .int) "ColourLinkerModel") (G : mG D cA dA z0 s) {H : Heap} {locs : List Loc} {μ : mM} {ls : Array Slot} {x1 : Int32} {x2 : Int32} (I : mI D cA z0 s μ H locs s.heap.size) (hf : f_Mo_piece h0 μ x1 x2 = some r) (hl : lv_has ls 4 [(0, va_rf (some h0)), (1, .int x1), (2, .int x2)]) : W p l e rm_Mo_piece s m args below meth c H locs 0 0 (MQ below (mQW D cA z0 (some (.int r.1)) r.2) args s 0 0 (mA z0)) (F0 m 0 ls []) := by
  have hx := X.ex
  have hb := X.by_
  unfold f_Mo_piece at hf
  refine r_aload_n X d_Mo_piece_0 rfl (lv_at hl 0 rfl) ?_
  refine lv_iload_n hx hb d_Mo_piece_1 rfl (lv_at hl 1 rfl) ?_
  obtain ⟨q1, hv, hf⟩ := mbind hf
  obtain ⟨a, ha, hv⟩ := mbind hv
  obtain ⟨ha, fs, hm⟩ := mrc_e ha
  refine m_caW (m_runV (As := [.int x1]) (r := some h0) (rest := []) X G I h_Mo_pieces k_1183 (c_Mo_pieces hv) mPr_blind (m_pre G I) hm rfl ha rfl rfl hl.1 (Nat.le_of_ble_eq_true rfl) rfl rfl ⟨Nat.le_of_ble_eq_true rfl, Nat.le_of_ble_eq_true rfl⟩ ⟨Nat.le_refl _, Nat.le_refl _⟩ d_Mo_piece_2) I (fun H locs I => ?_)
  refine lv_istore_n (i := 3) (lv' := [(3, .int q1.1), (0, va_rf (some h0)), (1, .int x1), (2, .int x2)]) hx hb d_Mo_piece_5 rfl hl (by decide) rfl (fun ls hl => ?_)
  refine lv_iload_n hx hb d_Mo_piece_6 rfl (lv_at hl 3 rfl) ?_
  refine lv_if_lt (tgt := 15) hx hb d_Mo_piece_7 (by decide) (fun hc => ?_) (fun hc => ?_)
  · have hf := mift hf hc
    exact w_Mo_piece_15 X G I hf (lv_sub hl [1] rfl)
  · have hf := miff hf hc
    refine lv_iload_n hx hb d_Mo_piece_10 rfl (lv_at hl 3 rfl) ?_
    refine lv_iload_n hx hb d_Mo_piece_11 rfl (lv_at hl 0 rfl) ?_
    refine lv_icmp_lt (tgt := 19) hx hb d_Mo_piece_12 (by decide) (fun hc => ?_) (fun hc => ?_)
    · have hf := mift hf hc
      refine r_aload_n X d_Mo_piece_19 rfl (lv_at hl 1 rfl) ?_
      obtain ⟨v2, hv, hf⟩ := mbind hf
      refine r_getf X G I (mfA_e hv) o_Mo_kind k_846 (Or.inl rfl) d_Mo_piece_20 ?_
      refine lv_iload_n hx hb d_Mo_piece_23 rfl (lv_at hl 3 rfl) ?_
      obtain ⟨v3, hv, hf⟩ := mbind hf
      refine r_iald X G I hv d_Mo_piece_24 ?_
      exact w_Mo_piece_25 X G I hf (lv_sub hl [1] rfl)
    · have hf := miff hf hc
      exact w_Mo_piece_15 X G I hf (lv_sub hl [1] rfl)

set_option maxHeartbeats 4000000 in
set_option maxRecDepth 100000 in
theorem c_Mo_piece {l : Launch} {D : va_G} {cA : Nat → ClassId} {dA z0 : Nat} {μ : mM} {h0 : Nat} {x1 : Int32} {x2 : Int32} {r : Int32 × mM} (hf : f_Mo_piece h0 μ x1 x2 = some r) : Met l y_Mo_piece (mW y_Mo_piece b_Mo_piece 4 (some .int)) rm_Mo_piece (va_Pc [.ref h0, .int x1, .int x2] (mPr D cA dA z0 μ)) (mQW D cA z0 (some (.int r.1)) r.2) 0 0 (mA z0) := by
  refine Met.ofW (cc := b_Mo_piece) (maxL := 4) (ret := (some .int)) (by decide) rfl ?_
  intro p e s m args below meth c s₁ B hml hv
  obtain ⟨rfl, G, hP⟩ := hv
  have X := mX.of B hml
  exact m_entry (lv := [(0, va_rf (some h0)), (1, .int x1), (2, .int x2)]) (Nat.le_of_ble_eq_true rfl) rfl (fun ls hl => w_Mo_piece X G (mI.start hP) hf hl)

abbrev rm_Profile_channels : Room := { frames := 0, cells := 0, slots := 0, locals := 0 }
theorem h_Profile_channels : mCV y_Profile_channels b_Profile_channels 1 (some .int) 0 := ⟨k_810, k_80, ⟨by decide, by decide, by decide +kernel⟩, k_808, k_809⟩
set_option maxHeartbeats 4000000 in
set_option maxRecDepth 100000 in
theorem w_Profile_channels {μ : mM} {h0 : Nat} {r : Int32} (X : mX p m meth c s args b_Profile_channels 1 (some .int) "ColourLinker$Profile") (G : mG D cA dA z0 s) (I : mI D cA z0 s μ s.heap [] s.heap.size) {ls : Array Slot}  (hf : f_Profile_channels μ h0 = some r) (hl : lv_has ls 1 [(0, va_rf (some h0))]) : W p l e rm_Profile_channels s m args below meth c s.heap [] 0 0 (MQ below (mQR (some (.int r))) args s 0 0 (fun _ => False)) (F0 m 0 ls []) := by
  have hx := X.ex
  have hb := X.by_
  unfold f_Profile_channels at hf
  refine r_aload_n X d_Profile_channels_0 rfl (lv_at hl 0 rfl) ?_
  obtain ⟨v1, hv, hf⟩ := mbind hf
  refine r_getf X G I (mfA_e hv) o_Profile_plain k_396 (Or.inl rfl) d_Profile_channels_1 ?_
  refine lv_iconst (v := 3) hx hb d_Profile_channels_4 (by decide) ?_
  obtain ⟨v2, hv, hf⟩ := mbind hf
  refine r_iald X G I hv d_Profile_channels_5 ?_
  obtain rfl := Option.some.inj hf
  exact r_iretR X d_Profile_channels_6

set_option maxHeartbeats 4000000 in
set_option maxRecDepth 100000 in
theorem c_Profile_channels {l : Launch} {D : va_G} {cA : Nat → ClassId} {dA z0 : Nat} {μ : mM} {h0 : Nat} {r : Int32} (hf : f_Profile_channels μ h0 = some r) : Met l y_Profile_channels (mW y_Profile_channels b_Profile_channels 1 (some .int)) rm_Profile_channels (va_Pc [.ref h0] (mPr D cA dA z0 μ)) (mQR (some (.int r))) 0 0 (fun _ => False) := by
  refine Met.ofW (cc := b_Profile_channels) (maxL := 1) (ret := (some .int)) (by decide) rfl ?_
  intro p e s m args below meth c s₁ B hml hv
  obtain ⟨rfl, G, hP⟩ := hv
  have X := mX.of B hml
  exact m_entry (lv := [(0, va_rf (some h0))]) (Nat.le_of_ble_eq_true rfl) rfl (fun ls hl => w_Profile_channels X G (mI.start hP) hf hl)

abbrev rm_CL_take : Room := { frames := 1, cells := 0, slots := 0, locals := 20 }
theorem h_CL_take : mCV y_CL_take b_CL_take 6 (some .boolean) 4 := ⟨k_806, k_75, ⟨by decide, by decide, by decide +kernel⟩, k_805, k_26⟩
set_option maxHeartbeats 4000000 in
set_option maxRecDepth 100000 in
theorem w_CL_take_86 {h0 : Nat} {r : Int32 × mM} (X : mX p m meth c s args b_CL_take 6 (some .boolean) "ColourLinker") (G : mG D cA dA z0 s) {H : Heap} {locs : List Loc} {μ : mM} {ls : Array Slot} {s0 : Option Nat} {s1 : Int32} {s2 : Int32} (I : mI D cA z0 s μ H locs s.heap.size) (hf : f_CL_take_86 h0 μ s0 s1 s2 = some r) (hl : lv_has ls 6 [(0, va_rf (some h0))]) : W p l e rm_CL_take s m args below meth c H locs 0 0 (MQ below (mQW D cA z0 (some (.int r.1)) r.2) args s 0 0 (mA z0)) (F0 m 86 ls [.int s2, .int s1, va_rf s0]) := by
  have hx := X.ex
  have hb := X.by_
  unfold f_CL_take_86 at hf
  obtain ⟨m11, hv, hf⟩ := mbind hf
  refine r_iast X G I hv d_CL_take_86 (fun H locs I => ?_)
  refine lv_iconst (v := 1) hx hb d_CL_take_87 (by decide) ?_
  obtain rfl := Option.some.inj hf
  exact r_zretW X I (Or.inr rfl) d_CL_take_88

set_option maxHeartbeats 4000000 in
set_option maxRecDepth 100000 in
theorem w_CL_take_69 {h0 : Nat} {r : Int32 × mM} (X : mX p m meth c s args b_CL_take 6 (some .boolean) "ColourLinker") (G : mG D cA dA z0 s) {H : Heap} {locs : List Loc} {μ : mM} {ls : Array Slot} {x4 : Int32} {x5 : Int32} {s0 : Option Nat} {s1 : Int32} {s2 : Int32} (I : mI D cA z0 s μ H locs s.heap.size) (hf : f_CL_take_69 h0 μ x4 x5 s0 s1 s2 = some r) (hl : lv_has ls 6 [(0, va_rf (some h0)), (4, .int x4), (5, .int x5)]) : W p l e rm_CL_take s m args below meth c H locs 0 0 (MQ below (mQW D cA z0 (some (.int r.1)) r.2) args s 0 0 (mA z0)) (F0 m 69 ls [.int s2, .int s1, va_rf s0]) := by
  have hx := X.ex
  have hb := X.by_
  unfold f_CL_take_69 at hf
  obtain ⟨m9, hv, hf⟩ := mbind hf
  refine r_iast X G I hv d_CL_take_69 (fun H locs I => ?_)
  refine r_aload_n X d_CL_take_70 rfl (lv_at hl 0 rfl) ?_
  obtain ⟨v10, hv, hf⟩ := mbind hf
  refine r_getf X G I (mfA_e hv) o_CL_colour k_155 (Or.inl rfl) d_CL_take_71 ?_
  refine lv_iconst (v := 2) hx hb d_CL_take_74 (by decide) ?_
  refine lv_iload hx hb d_CL_take_75 (lv_at hl 2 rfl) ?_
  refine lv_if_eq (tgt := 84) hx hb d_CL_take_77 (by decide) (fun hc => ?_) (fun hc => ?_)
  · have hf := mift hf hc
    refine lv_iload hx hb d_CL_take_84 (lv_at hl 1 rfl) ?_
    exact w_CL_take_86 X G I hf (lv_sub hl [0] rfl)
  · have hf := miff hf hc
    refine lv_iconst (v := 0) hx hb d_CL_take_80 (by decide) ?_
    refine lv_goto (tgt := 86) hx hb d_CL_take_81 (by decide) ?_
    exact w_CL_take_86 X G I hf (lv_sub hl [0] rfl)

set_option maxHeartbeats 4000000 in
set_option maxRecDepth 100000 in
theorem w_CL_take_47 {h0 : Nat} {r : Int32 × mM} (X : mX p m meth c s args b_CL_take 6 (some .boolean) "ColourLinker") (G : mG D cA dA z0 s) {H : Heap} {locs : List Loc} {μ : mM} {ls : Array Slot} {x2 : Int32} {x3 : Int32} {x4 : Int32} {x5 : Int32} (I : mI D cA z0 s μ H locs s.heap.size) (hf : f_CL_take_47 h0 μ x2 x3 x4 x5 = some r) (hl : lv_has ls 6 [(0, va_rf (some h0)), (2, .int x2), (3, .int x3), (4, .int x4), (5, .int x5)]) : W p l e rm_CL_take s m args below meth c H locs 0 0 (MQ below (mQW D cA z0 (some (.int r.1)) r.2) args s 0 0 (mA z0)) (F0 m 47 ls []) := by
  have hx := X.ex
  have hb := X.by_
  unfold f_CL_take_47 at hf
  refine r_aload_n X d_CL_take_47 rfl (lv_at hl 0 rfl) ?_
  obtain ⟨v6, hv, hf⟩ := mbind hf
  refine r_getf X G I (mfA_e hv) o_CL_colour k_155 (Or.inl rfl) d_CL_take_48 ?_
  refine lv_iconst (v := 0) hx hb d_CL_take_51 (by decide) ?_
  refine lv_iload_n hx hb d_CL_take_52 rfl (lv_at hl 1 rfl) ?_
  obtain ⟨m7, hv, hf⟩ := mbind hf
  refine r_iast X G I hv d_CL_take_53 (fun H locs I => ?_)
  refine r_aload_n X d_CL_take_54 rfl (lv_at hl 0 rfl) ?_
  obtain ⟨v8, hv, hf⟩ := mbind hf
  refine r_getf X G I (mfA_e hv) o_CL_colour k_155 (Or.inl rfl) d_CL_take_55 ?_
  refine lv_iconst (v := 1) hx hb d_CL_take_58 (by decide) ?_
  refine lv_iload hx hb d_CL_take_59 (lv_at hl 4 rfl) ?_
  refine lv_if_eq (tgt := 68) hx hb d_CL_take_61 (by decide) (fun hc => ?_) (fun hc => ?_)
  · have hf := mift hf hc
    refine lv_iload_n hx hb d_CL_take_68 rfl (lv_at hl 2 rfl) ?_
    exact w_CL_take_69 X G I hf (lv_sub hl [0, 3, 4] rfl)
  · have hf := miff hf hc
    refine lv_iconst (v := 0) hx hb d_CL_take_64 (by decide) ?_
    refine lv_goto (tgt := 69) hx hb d_CL_take_65 (by decide) ?_
    exact w_CL_take_69 X G I hf (lv_sub hl [0, 3, 4] rfl)

set_option maxHeartbeats 4000000 in
set_option maxRecDepth 100000 in
theorem w_CL_take_45 {h0 : Nat} {r : Int32 × mM} (X : mX p m meth c s args b_CL_take 6 (some .boolean) "ColourLinker") (G : mG D cA dA z0 s) {H : Heap} {locs : List Loc} {μ : mM} {ls : Array Slot}  (I : mI D cA z0 s μ H locs s.heap.size) (hf : f_CL_take_45 h0 μ = some r) (hl : lv_has ls 6 [(0, va_rf (some h0))]) : W p l e rm_CL_take s m args below meth c H locs 0 0 (MQ below (mQW D cA z0 (some (.int r.1)) r.2) args s 0 0 (mA z0)) (F0 m 45 ls []) := by
  have hx := X.ex
  have hb := X.by_
  unfold f_CL_take_45 at hf
  refine lv_iconst (v := 0) hx hb d_CL_take_45 (by decide) ?_
  obtain rfl := Option.some.inj hf
  exact r_zretW X I (Or.inl rfl) d_CL_take_46

set_option maxHeartbeats 4000000 in
set_option maxRecDepth 100000 in
theorem w_CL_take_16 {h0 : Nat} {r : Int32 × mM} (X : mX p m meth c s args b_CL_take 6 (some .boolean) "ColourLinker") (G : mG D cA dA z0 s) {H : Heap} {locs : List Loc} {μ : mM} {ls : Array Slot} {x2 : Int32} {x3 : Int32} {x4 : Int32} {s0 : Int32} (I : mI D cA z0 s μ H locs s.heap.size) (hf : f_CL_take_16 h0 μ x2 x3 x4 s0 = some r) (hl : lv_has ls 6 [(0, va_rf (some h0)), (2, .int x2), (3, .int x3), (4, .int x4)]) : W p l e rm_CL_take s m args below meth c H locs 0 0 (MQ below (mQW D cA z0 (some (.int r.1)) r.2) args s 0 0 (mA z0)) (F0 m 16 ls [.int s0]) := by
  have hx := X.ex
  have hb := X.by_
  unfold f_CL_take_16 at hf
  refine lv_istore (i := 5) (lv' := [(5, .int s0), (0, va_rf (some h0)), (2, .int x2), (3, .int x3), (4, .int x4)]) hx hb d_CL_take_16 hl (by decide) rfl (fun ls hl => ?_)
  refine lv_iload_n hx hb d_CL_take_18 rfl (lv_at hl 2 rfl) ?_
  obtain ⟨q3, hv, hf⟩ := mbind hf
  refine m_caR (m_runS (As := [.int x2]) (rest := []) X h_CL_isLevel k_642 (c_CL_isLevel hv) mPr_blind (m_pre G I) rfl rfl hl.1 (Nat.le_of_ble_eq_true rfl) rfl rfl ⟨Nat.le_of_ble_eq_true rfl, Nat.le_of_ble_eq_true rfl⟩ ⟨Nat.le_refl _, Nat.le_refl _⟩ d_CL_take_19) ?_
  refine lv_if_eq (tgt := 45) hx hb d_CL_take_22 (by decide) (fun hc => ?_) (fun hc => ?_)
  · have hf := mift hf hc
    exact w_CL_take_45 X G I hf (lv_sub hl [1] rfl)
  · have hf := miff hf hc
    refine lv_iload hx hb d_CL_take_25 (lv_at hl 0 rfl) ?_
    refine lv_if_ne (tgt := 47) hx hb d_CL_take_27 (by decide) (fun hc => ?_) (fun hc => ?_)
    · have hf := miff hf hc
      exact w_CL_take_47 X G I hf (lv_sub hl [1, 2, 3, 4, 0] rfl)
    · have hf := mift hf hc
      refine lv_iload_n hx hb d_CL_take_30 rfl (lv_at hl 3 rfl) ?_
      obtain ⟨q4, hv, hf⟩ := mbind hf
      refine m_caR (m_runS (As := [.int x3]) (rest := []) X h_CL_isLevel k_642 (c_CL_isLevel hv) mPr_blind (m_pre G I) rfl rfl hl.1 (Nat.le_of_ble_eq_true rfl) rfl rfl ⟨Nat.le_of_ble_eq_true rfl, Nat.le_of_ble_eq_true rfl⟩ ⟨Nat.le_refl _, Nat.le_refl _⟩ d_CL_take_31) ?_
      refine lv_if_eq (tgt := 45) hx hb d_CL_take_34 (by decide) (fun hc => ?_) (fun hc => ?_)
      · have hf := mift hf hc
        exact w_CL_take_45 X G I hf (lv_sub hl [1] rfl)
      · have hf := miff hf hc
        refine lv_iload hx hb d_CL_take_37 (lv_at hl 4 rfl) ?_
        obtain ⟨q5, hv, hf⟩ := mbind hf
        refine m_caR (m_runS (As := [.int x4]) (rest := []) X h_CL_isLevel k_642 (c_CL_isLevel hv) mPr_blind (m_pre G I) rfl rfl hl.1 (Nat.le_of_ble_eq_true rfl) rfl rfl ⟨Nat.le_of_ble_eq_true rfl, Nat.le_of_ble_eq_true rfl⟩ ⟨Nat.le_refl _, Nat.le_refl _⟩ d_CL_take_39) ?_
        refine lv_if_ne (tgt := 47) hx hb d_CL_take_42 (by decide) (fun hc => ?_) (fun hc => ?_)
        · have hf := miff hf hc
          exact w_CL_take_47 X G I hf (lv_sub hl [1, 2, 3, 4, 0] rfl)
        · have hf := mift hf hc
          exact w_CL_take_45 X G I hf (lv_sub hl [1] rfl)

set_option maxHeartbeats 4000000 in
set_option maxRecDepth 100000 in
theorem w_CL_take {h0 : Nat} {r : Int32 × mM} (X : mX p m meth c s args b_CL_take 6 (some .boolean) "ColourLinker") (G : mG D cA dA z0 s) {H : Heap} {locs : List Loc} {μ : mM} {ls : Array Slot} {x1 : Option Nat} {x2 : Int32} {x3 : Int32} {x4 : Int32} (I : mI D cA z0 s μ H locs s.heap.size) (hf : f_CL_take h0 μ x1 x2 x3 x4 = some r) (hl : lv_has ls 6 [(0, va_rf (some h0)), (1, va_rf x1), (2, .int x2), (3, .int x3), (4, .int x4)]) : W p l e rm_CL_take s m args below meth c H locs 0 0 (MQ below (mQW D cA z0 (some (.int r.1)) r.2) args s 0 0 (mA z0)) (F0 m 0 ls []) := by
  have hx := X.ex
  have hb := X.by_
  unfold f_CL_take at hf
  refine r_aload_n X d_CL_take_0 rfl (lv_at hl 1 rfl) ?_
  obtain ⟨v1, hv, hf⟩ := mbind hf
  refine r_getfN X G I (mfA_e hv) o_Link_first k_753 (Or.inl rfl) d_CL_take_1 ?_
  obtain ⟨q2, hv, hf⟩ := mbind hf
  obtain ⟨a, ha, hv⟩ := mbind hv
  obtain ⟨ha, fs, hm⟩ := mrc_e ha
  refine m_caR (m_runV (As := []) (r := v1) (rest := []) X G I h_Profile_channels k_807 (c_Profile_channels hv) mPr_blind (m_pre G I) hm rfl ha rfl rfl hl.1 (Nat.le_of_ble_eq_true rfl) rfl rfl ⟨Nat.le_of_ble_eq_true rfl, Nat.le_of_ble_eq_true rfl⟩ ⟨Nat.le_refl _, Nat.le_refl _⟩ d_CL_take_4) ?_
  refine lv_iconst (v := 1) hx hb d_CL_take_7 (by decide) ?_
  refine lv_icmp_ne (tgt := 15) hx hb d_CL_take_8 (by decide) (fun hc => ?_) (fun hc => ?_)
  · have hf := miff hf hc
    refine lv_iconst (v := 0) hx hb d_CL_take_15 (by decide) ?_
    exact w_CL_take_16 X G I hf (lv_sub hl [0, 2, 3, 4] rfl)
  · have hf := mift hf hc
    refine lv_iconst (v := 1) hx hb d_CL_take_11 (by decide) ?_
    refine lv_goto (tgt := 16) hx hb d_CL_take_12 (by decide) ?_
    exact w_CL_take_16 X G I hf (lv_sub hl [0, 2, 3, 4] rfl)

set_option maxHeartbeats 4000000 in
set_option maxRecDepth 100000 in
theorem c_CL_take {l : Launch} {D : va_G} {cA : Nat → ClassId} {dA z0 : Nat} {μ : mM} {h0 : Nat} {x1 : Option Nat} {x2 : Int32} {x3 : Int32} {x4 : Int32} {r : Int32 × mM} (hf : f_CL_take h0 μ x1 x2 x3 x4 = some r) : Met l y_CL_take (mW y_CL_take b_CL_take 6 (some .boolean)) rm_CL_take (va_Pc [.ref h0, va_rf x1, .int x2, .int x3, .int x4] (mPr D cA dA z0 μ)) (mQW D cA z0 (some (.int r.1)) r.2) 0 0 (mA z0) := by
  refine Met.ofW (cc := b_CL_take) (maxL := 6) (ret := (some .boolean)) (by decide) rfl ?_
  intro p e s m args below meth c s₁ B hml hv
  obtain ⟨rfl, G, hP⟩ := hv
  have X := mX.of B hml
  exact m_entry (lv := [(0, va_rf (some h0)), (1, va_rf x1), (2, .int x2), (3, .int x3), (4, .int x4)]) (by simp [lg_sl, mrf_cat, mc_int, mc_long, mc_ref]) (by simp [lv_args, mrf_cat, mc_int, mc_long, mc_ref, mrf_some]) (fun ls hl => w_CL_take X G (mI.start hP) hf hl)

abbrev rm_CL_packed : Room := { frames := 0, cells := 0, slots := 0, locals := 0 }
theorem h_CL_packed : mCS y_CL_packed b_CL_packed 1 (some .long) 1 := ⟨k_814, k_75, ⟨by decide, by decide, by decide +kernel⟩, k_813⟩
set_option maxHeartbeats 4000000 in
set_option maxRecDepth 100000 in
theorem w_CL_packed {μ : mM} {r : Int64} (X : mX p m meth c s args b_CL_packed 1 (some .long) "ColourLinker") (G : mG D cA dA z0 s) (I : mI D cA z0 s μ s.heap [] s.heap.size) {ls : Array Slot} {x0 : Option Nat} (hf : f_CL_packed μ x0 = some r) (hl : lv_has ls 1 [(0, va_rf x0)]) : W p l e rm_CL_packed s m args below meth c s.heap [] 0 0 (MQ below (mQR (some (.long r))) args s 0 0 (fun _ => False)) (F0 m 0 ls []) := by
  have hx := X.ex
  have hb := X.by_
  unfold f_CL_packed at hf
  refine r_aload_n X d_CL_packed_0 rfl (lv_at hl 0 rfl) ?_
  refine lv_iconst (v := 0) hx hb d_CL_packed_1 (by decide) ?_
  obtain ⟨v1, hv, hf⟩ := mbind hf
  refine r_iald X G I hv d_CL_packed_2 ?_
  refine lv_i2l hx hb d_CL_packed_3 rfl ?_
  refine lv_bipush (v := 32) hx hb d_CL_packed_4 (by decide) ?_
  refine lv_lshl hx hb d_CL_packed_6 rfl ?_
  refine r_aload_n X d_CL_packed_7 rfl (lv_at hl 0 rfl) ?_
  refine lv_iconst (v := 1) hx hb d_CL_packed_8 (by decide) ?_
  obtain ⟨v2, hv, hf⟩ := mbind hf
  refine r_iald X G I hv d_CL_packed_9 ?_
  refine lv_i2l hx hb d_CL_packed_10 rfl ?_
  refine lv_bipush (v := 16) hx hb d_CL_packed_11 (by decide) ?_
  refine lv_lshl hx hb d_CL_packed_13 rfl ?_
  refine lv_ladd hx hb d_CL_packed_14 ?_
  refine r_aload_n X d_CL_packed_15 rfl (lv_at hl 0 rfl) ?_
  refine lv_iconst (v := 2) hx hb d_CL_packed_16 (by decide) ?_
  obtain ⟨v3, hv, hf⟩ := mbind hf
  refine r_iald X G I hv d_CL_packed_17 ?_
  refine lv_i2l hx hb d_CL_packed_18 rfl ?_
  refine lv_ladd hx hb d_CL_packed_19 ?_
  obtain rfl := Option.some.inj hf
  exact r_lretR X d_CL_packed_20

set_option maxHeartbeats 4000000 in
set_option maxRecDepth 100000 in
theorem c_CL_packed {l : Launch} {D : va_G} {cA : Nat → ClassId} {dA z0 : Nat} {μ : mM} {x0 : Option Nat} {r : Int64} (hf : f_CL_packed μ x0 = some r) : Met l y_CL_packed (mW y_CL_packed b_CL_packed 1 (some .long)) rm_CL_packed (va_Pc [va_rf x0] (mPr D cA dA z0 μ)) (mQR (some (.long r))) 0 0 (fun _ => False) := by
  refine Met.ofW (cc := b_CL_packed) (maxL := 1) (ret := (some .long)) (by decide) rfl ?_
  intro p e s m args below meth c s₁ B hml hv
  obtain ⟨rfl, G, hP⟩ := hv
  have X := mX.of B hml
  exact m_entry (lv := [(0, va_rf x0)]) (by simp [lg_sl, mrf_cat, mc_int, mc_long, mc_ref]) (by simp [lv_args, mrf_cat, mc_int, mc_long, mc_ref, mrf_some]) (fun ls hl => w_CL_packed X G (mI.start hP) hf hl)

abbrev rm_Link_runFirst : Room := { frames := 6, cells := 0, slots := 0, locals := 143 }
theorem h_Link_runFirst : mCV y_Link_runFirst b_Link_runFirst 4 none 2 := ⟨k_818, k_90, ⟨by decide, by decide, by decide +kernel⟩, k_816, k_817⟩
set_option maxHeartbeats 4000000 in
set_option maxRecDepth 100000 in
theorem w_Link_runFirst_32 {h0 : Nat} {r : mM} (X : mX p m meth c s args b_Link_runFirst 4 none "ColourLinker$Link") (G : mG D cA dA z0 s) {H : Heap} {locs : List Loc} {μ : mM} {ls : Array Slot}  (I : mI D cA z0 s μ H locs s.heap.size) (hf : f_Link_runFirst_32 h0 μ = some r) (hl : lv_has ls 4 [(0, va_rf (some h0))]) : W p l e rm_Link_runFirst s m args below meth c H locs 0 0 (MQ below (mQW D cA z0 none r) args s 0 0 (mA z0)) (F0 m 32 ls []) := by
  have hx := X.ex
  have hb := X.by_
  unfold f_Link_runFirst_32 at hf
  obtain rfl := Option.some.inj hf
  exact r_vretW X I d_Link_runFirst_32

set_option maxHeartbeats 4000000 in
set_option maxRecDepth 100000 in
theorem w_Link_runFirst_2 {h0 : Nat} {r : mM} (X : mX p m meth c s args b_Link_runFirst 4 none "ColourLinker$Link") (G : mG D cA dA z0 s) {kx32 : mM → Option (mM)} (hkx32 : ∀ (H : Heap) (locs : List Loc) (μ : mM) (ls : Array Slot), mI D cA z0 s μ H locs s.heap.size → kx32 μ = some r → lv_has ls 4 [(0, va_rf (some h0))] → W p l e rm_Link_runFirst s m args below meth c H locs 0 0 (MQ below (mQW D cA z0 none r) args s 0 0 (mA z0)) (F0 m 32 ls [])) : ∀ (n : Nat) (H : Heap) (locs : List Loc) (μ : mM) (ls : Array Slot) (x1 : Int32) (x2 : Option Nat) (x3 : Int32), mI D cA z0 s μ H locs s.heap.size → f_Link_runFirst_2 h0 kx32 n μ x1 x2 x3 = some r → lv_has ls 4 [(0, va_rf (some h0)), (1, .int x1), (2, va_rf x2), (3, .int x3)] → W p l e rm_Link_runFirst s m args below meth c H locs 0 0 (MQ below (mQW D cA z0 none r) args s 0 0 (mA z0)) (F0 m 2 ls []) := by
  have hx := X.ex
  have hb := X.by_
  intro n
  induction n with
  | zero => intro H locs μ ls x1 x2 x3 I hf hl; rw [f_Link_runFirst_2] at hf; cases hf
  | succ n ih =>
    intro H locs μ ls x1 x2 x3 I hf hl
    rw [f_Link_runFirst_2] at hf
    refine lv_iload_n hx hb d_Link_runFirst_2 rfl (lv_at hl 3 rfl) ?_
    refine lv_iload_n hx hb d_Link_runFirst_3 rfl (lv_at hl 1 rfl) ?_
    refine lv_icmp_ge (tgt := 32) hx hb d_Link_runFirst_4 (by decide) (fun hc => ?_) (fun hc => ?_)
    · have hf := mift hf hc
      exact hkx32 _ _ _ _ I hf (lv_sub hl [0] rfl)
    · have hf := miff hf hc
      refine lv_iload_n hx hb d_Link_runFirst_7 rfl (lv_at hl 3 rfl) ?_
      refine r_aload_n X d_Link_runFirst_8 rfl (lv_at hl 0 rfl) ?_
      obtain ⟨v1, hv, hf⟩ := mbind hf
      refine r_getf X G I (mfA_e hv) o_Link_row k_754 (Or.inl rfl) d_Link_runFirst_9 ?_
      obtain ⟨v2, hv, hf⟩ := mbind hf
      refine r_alen X G I hv d_Link_runFirst_12 ?_
      refine lv_icmp_ge (tgt := 32) hx hb d_Link_runFirst_13 (by decide) (fun hc => ?_) (fun hc => ?_)
      · have hf := mift hf hc
        exact hkx32 _ _ _ _ I hf (lv_sub hl [0] rfl)
      · have hf := miff hf hc
        refine r_aload_n X d_Link_runFirst_16 rfl (lv_at hl 0 rfl) ?_
        obtain ⟨v3, hv, hf⟩ := mbind hf
        refine r_getf X G I (mfA_e hv) o_Link_row k_754 (Or.inl rfl) d_Link_runFirst_17 ?_
        refine lv_iload_n hx hb d_Link_runFirst_20 rfl (lv_at hl 3 rfl) ?_
        obtain ⟨v4, hv, hf⟩ := mbind hf
        refine r_aald X G I hv d_Link_runFirst_21 ?_
        refine r_aload_n X d_Link_runFirst_22 rfl (lv_at hl 2 rfl) ?_
        obtain ⟨q5, hv, hf⟩ := mbind hf
        obtain ⟨a, ha, hv⟩ := mbind hv
        refine m_caWv (m_run_Piece_run (r := v4) (rest := []) X G I hv ha k_819 rfl hl.1 (Nat.le_of_ble_eq_true rfl) ⟨Nat.le_refl _, Nat.le_refl _⟩ (Nat.le_of_ble_eq_true rfl) (Nat.le_of_ble_eq_true rfl) d_Link_runFirst_23) I (fun H locs I => ?_)
        refine lv_iinc (i := 3) (k := 3) (v := (x3 + (1 : Int32))) (lv' := [(3, .int (x3 + (1 : Int32))), (0, va_rf (some h0)), (1, .int x1), (2, va_rf x2)]) hx hb d_Link_runFirst_26 hl rfl (congrArg (fun t => x3 + t) (by decide : Int32.ofInt (1) = (1 : Int32))) (by decide) (by simp [mrf_cat]) (fun ls hl => ?_)
        refine lv_goto (tgt := 2) hx hb d_Link_runFirst_29 (by decide) ?_
        exact ih _ _ _ _ _ _ _ I hf (lv_sub hl [1, 2, 3, 0] rfl)

set_option maxHeartbeats 4000000 in
set_option maxRecDepth 100000 in
theorem w_Link_runFirst {h0 : Nat} {r : mM} (X : mX p m meth c s args b_Link_runFirst 4 none "ColourLinker$Link") (G : mG D cA dA z0 s) {H : Heap} {locs : List Loc} {μ : mM} {ls : Array Slot} {x1 : Int32} {x2 : Option Nat} (I : mI D cA z0 s μ H locs s.heap.size) (hf : f_Link_runFirst h0 μ x1 x2 = some r) (hl : lv_has ls 4 [(0, va_rf (some h0)), (1, .int x1), (2, va_rf x2)]) : W p l e rm_Link_runFirst s m args below meth c H locs 0 0 (MQ below (mQW D cA z0 none r) args s 0 0 (mA z0)) (F0 m 0 ls []) := by
  have hx := X.ex
  have hb := X.by_
  unfold f_Link_runFirst at hf
  refine lv_iconst (v := 0) hx hb d_Link_runFirst_0 (by decide) ?_
  refine lv_istore_n (i := 3) (lv' := [(3, .int (0 : Int32)), (0, va_rf (some h0)), (1, .int x1), (2, va_rf x2)]) hx hb d_Link_runFirst_1 rfl hl (by decide) (by simp [mrf_cat]) (fun ls hl => ?_)
  exact w_Link_runFirst_2 X G (fun H locs μ ls I hf hl => w_Link_runFirst_32 X G I hf hl) 4096 _ _ _ _ _ _ _ I hf (lv_sub hl [1, 2, 3, 0] rfl)

set_option maxHeartbeats 4000000 in
set_option maxRecDepth 100000 in
theorem c_Link_runFirst {l : Launch} {D : va_G} {cA : Nat → ClassId} {dA z0 : Nat} {μ : mM} {h0 : Nat} {x1 : Int32} {x2 : Option Nat} {r : mM} (hf : f_Link_runFirst h0 μ x1 x2 = some r) : Met l y_Link_runFirst (mW y_Link_runFirst b_Link_runFirst 4 none) rm_Link_runFirst (va_Pc [.ref h0, .int x1, va_rf x2] (mPr D cA dA z0 μ)) (mQW D cA z0 none r) 0 0 (mA z0) := by
  refine Met.ofW (cc := b_Link_runFirst) (maxL := 4) (ret := none) (by decide) rfl ?_
  intro p e s m args below meth c s₁ B hml hv
  obtain ⟨rfl, G, hP⟩ := hv
  have X := mX.of B hml
  exact m_entry (lv := [(0, va_rf (some h0)), (1, .int x1), (2, va_rf x2)]) (by simp [lg_sl, mrf_cat, mc_int, mc_long, mc_ref]) (by simp [lv_args, mrf_cat, mc_int, mc_long, mc_ref, mrf_some]) (fun ls hl => w_Link_runFirst X G (mI.start hP) hf hl)

abbrev rm_CL_convert : Room := { frames := 7, cells := 0, slots := 0, locals := 166 }
theorem h_CL_convert : mCV y_CL_convert b_CL_convert 8 (some .long) 4 := ⟨k_802, k_75, ⟨by decide, by decide, by decide +kernel⟩, k_800, k_801⟩
set_option maxHeartbeats 4000000 in
set_option maxRecDepth 100000 in
theorem w_CL_convert_98 {h0 : Nat} {r : Int64 × mM} (X : mX p m meth c s args b_CL_convert 8 (some .long) "ColourLinker") (G : mG D cA dA z0 s) {H : Heap} {locs : List Loc} {μ : mM} {ls : Array Slot} {x5 : Option Nat} (I : mI D cA z0 s μ H locs s.heap.size) (hf : f_CL_convert_98 h0 μ x5 = some r) (hl : lv_has ls 8 [(0, va_rf (some h0)), (5, va_rf x5)]) : W p l e rm_CL_convert s m args below meth c H locs 0 0 (MQ below (mQW D cA z0 (some (.long r.1)) r.2) args s 0 0 (mA z0)) (F0 m 98 ls []) := by
  have hx := X.ex
  have hb := X.by_
  unfold f_CL_convert_98 at hf
  refine r_aload X d_CL_convert_98 (lv_at hl 1 rfl) ?_
  obtain ⟨v18, hv, hf⟩ := mbind hf
  refine r_getfN X G I (mfJ_e hv) o_Link_latestAnswer k_759 (Or.inl rfl) d_CL_convert_100 ?_
  obtain rfl := Option.some.inj hf
  exact r_lretW X I d_CL_convert_103

set_option maxHeartbeats 4000000 in
set_option maxRecDepth 100000 in
theorem w_CL_convert_25 {h0 : Nat} {r : Int64 × mM} (X : mX p m meth c s args b_CL_convert 8 (some .long) "ColourLinker") (G : mG D cA dA z0 s) {H : Heap} {locs : List Loc} {μ : mM} {ls : Array Slot}  (I : mI D cA z0 s μ H locs s.heap.size) (hf : f_CL_convert_25 h0 μ = some r) (hl : lv_has ls 8 [(0, va_rf (some h0))]) : W p l e rm_CL_convert s m args below meth c H locs 0 0 (MQ below (mQW D cA z0 (some (.long r.1)) r.2) args s 0 0 (mA z0)) (F0 m 25 ls []) := by
  have hx := X.ex
  have hb := X.by_
  unfold f_CL_convert_25 at hf
  refine lv_ldc2 (v := -1) hx hb X.ow (X.w k_811) d_CL_convert_25 ?_
  obtain rfl := Option.some.inj hf
  exact r_lretW X I d_CL_convert_28

set_option maxHeartbeats 4000000 in
set_option maxRecDepth 100000 in
theorem w_CL_convert {h0 : Nat} {r : Int64 × mM} (X : mX p m meth c s args b_CL_convert 8 (some .long) "ColourLinker") (G : mG D cA dA z0 s) {H : Heap} {locs : List Loc} {μ : mM} {ls : Array Slot} {x1 : Int32} {x2 : Int32} {x3 : Int32} {x4 : Int32} (I : mI D cA z0 s μ H locs s.heap.size) (hf : f_CL_convert h0 μ x1 x2 x3 x4 = some r) (hl : lv_has ls 8 [(0, va_rf (some h0)), (1, .int x1), (2, .int x2), (3, .int x3), (4, .int x4)]) : W p l e rm_CL_convert s m args below meth c H locs 0 0 (MQ below (mQW D cA z0 (some (.long r.1)) r.2) args s 0 0 (mA z0)) (F0 m 0 ls []) := by
  have hx := X.ex
  have hb := X.by_
  unfold f_CL_convert at hf
  refine r_aload_n X d_CL_convert_0 rfl (lv_at hl 0 rfl) ?_
  refine lv_iload_n hx hb d_CL_convert_1 rfl (lv_at hl 1 rfl) ?_
  obtain ⟨q1, hv, hf⟩ := mbind hf
  obtain ⟨a, ha, hv⟩ := mbind hv
  obtain ⟨ha, fs, hm⟩ := mrc_e ha
  refine m_caR (m_runV (As := [.int x1]) (r := some h0) (rest := []) X G I h_CL_linkAt k_783 (c_CL_linkAt hv) mPr_blind (m_pre G I) hm rfl ha rfl rfl hl.1 (Nat.le_of_ble_eq_true rfl) rfl rfl ⟨Nat.le_of_ble_eq_true rfl, Nat.le_of_ble_eq_true rfl⟩ ⟨Nat.le_refl _, Nat.le_refl _⟩ d_CL_convert_2) ?_
  refine r_astore (i := 5) (lv' := [(5, va_rf q1), (0, va_rf (some h0)), (1, .int x1), (2, .int x2), (3, .int x3), (4, .int x4)]) X d_CL_convert_5 hl (by decide) rfl (fun ls hl => ?_)
  refine r_aload X d_CL_convert_7 (lv_at hl 0 rfl) ?_
  refine r_ifnull (tgt := 25) X d_CL_convert_9 (by decide) (fun hc => ?_) (fun hc => ?_)
  · have hf := mift hf hc
    exact w_CL_convert_25 X G I hf (lv_sub hl [1] rfl)
  · have hf := miff hf hc
    refine r_aload_n X d_CL_convert_12 rfl (lv_at hl 1 rfl) ?_
    refine r_aload X d_CL_convert_13 (lv_at hl 0 rfl) ?_
    refine lv_iload_n hx hb d_CL_convert_15 rfl (lv_at hl 3 rfl) ?_
    refine lv_iload_n hx hb d_CL_convert_16 rfl (lv_at hl 4 rfl) ?_
    refine lv_iload hx hb d_CL_convert_17 (lv_at hl 5 rfl) ?_
    obtain ⟨q2, hv, hf⟩ := mbind hf
    obtain ⟨a, ha, hv⟩ := mbind hv
    obtain ⟨ha, fs, hm⟩ := mrc_e ha
    refine m_caW (m_runV (As := [va_rf q1, .int x2, .int x3, .int x4]) (r := some h0) (rest := []) X G I h_CL_take k_803 (c_CL_take hv) mPr_blind (m_pre G I) hm rfl ha rfl rfl hl.1 (Nat.le_of_ble_eq_true rfl) rfl rfl ⟨Nat.le_of_ble_eq_true rfl, Nat.le_of_ble_eq_true rfl⟩ ⟨Nat.le_refl _, Nat.le_refl _⟩ d_CL_convert_19) I (fun H locs I => ?_)
    refine lv_if_ne (tgt := 29) hx hb d_CL_convert_22 (by decide) (fun hc => ?_) (fun hc => ?_)
    · have hf := miff hf hc
      refine r_aload_n X d_CL_convert_29 rfl (lv_at hl 1 rfl) ?_
      obtain ⟨v3, hv, hf⟩ := mbind hf
      refine r_getf X G I (mfA_e hv) o_CL_colour k_155 (Or.inl rfl) d_CL_convert_30 ?_
      obtain ⟨q4, hv, hf⟩ := mbind hf
      refine m_caR (m_runS (As := [va_rf v3]) (rest := []) X h_CL_packed k_812 (c_CL_packed hv) mPr_blind (m_pre G I) rfl rfl hl.1 (Nat.le_of_ble_eq_true rfl) rfl rfl ⟨Nat.le_of_ble_eq_true rfl, Nat.le_of_ble_eq_true rfl⟩ ⟨Nat.le_refl _, Nat.le_refl _⟩ d_CL_convert_33) ?_
      refine lv_lstore (i := 6) (lv' := [(6, .long q4), (5, va_rf q1), (0, va_rf (some h0)), (1, .int x1), (2, .int x2), (3, .int x3), (4, .int x4)]) hx hb d_CL_convert_36 hl (by decide) (by simp [mrf_cat]) (fun ls hl => ?_)
      refine lv_lload hx hb d_CL_convert_38 (lv_at hl 0 rfl) ?_
      refine r_aload X d_CL_convert_40 (lv_at hl 1 rfl) ?_
      obtain ⟨v5, hv, hf⟩ := mbind hf
      refine r_getfN X G I (mfJ_e hv) o_Link_latestColour k_757 (Or.inl rfl) d_CL_convert_42 ?_
      refine r_lceq (tgt := 98) X d_CL_convert_45 d_CL_convert_46 (by decide) (fun hc => ?_) (fun hc => ?_)
      · have hf := mift hf hc
        exact w_CL_convert_98 X G I hf (lv_sub hl [2, 1] rfl)
      · have hf := miff hf hc
        refine r_aload X d_CL_convert_49 (lv_at hl 1 rfl) ?_
        refine r_aload X d_CL_convert_51 (lv_at hl 1 rfl) ?_
        obtain ⟨v6, hv, hf⟩ := mbind hf
        refine r_getfN X G I (mfA_e hv) o_Link_row k_755 (Or.inl rfl) d_CL_convert_53 ?_
        obtain ⟨v7, hv, hf⟩ := mbind hf
        refine r_alen X G I hv d_CL_convert_56 ?_
        refine r_aload_n X d_CL_convert_57 rfl (lv_at hl 2 rfl) ?_
        obtain ⟨v8, hv, hf⟩ := mbind hf
        refine r_getf X G I (mfA_e hv) o_CL_colour k_155 (Or.inl rfl) d_CL_convert_58 ?_
        obtain ⟨q9, hv, hf⟩ := mbind hf
        obtain ⟨a, ha, hv⟩ := mbind hv
        obtain ⟨ha, fs, hm⟩ := mrc_e ha
        refine m_caWv (m_runV (As := [.int v7, va_rf v8]) (r := q1) (rest := []) X G I h_Link_runFirst k_815 (c_Link_runFirst hv) mPr_blind (m_pre G I) hm rfl ha rfl rfl hl.1 (Nat.le_of_ble_eq_true rfl) rfl rfl ⟨Nat.le_of_ble_eq_true rfl, Nat.le_of_ble_eq_true rfl⟩ ⟨Nat.le_refl _, Nat.le_refl _⟩ d_CL_convert_61) I (fun H locs I => ?_)
        refine r_aload_n X d_CL_convert_64 rfl (lv_at hl 2 rfl) ?_
        refine lv_dup hx hb d_CL_convert_65 (mrf_cat _) ?_
        obtain ⟨v10, hv, hf⟩ := mbind hf
        refine r_getf X G I (mfI_e hv) o_CL_piecesRun k_156 (Or.inl rfl) d_CL_convert_66 ?_
        refine r_aload X d_CL_convert_69 (lv_at hl 1 rfl) ?_
        obtain ⟨v11, hv, hf⟩ := mbind hf
        refine r_getfN X G I (mfA_e hv) o_Link_row k_755 (Or.inl rfl) d_CL_convert_71 ?_
        obtain ⟨v12, hv, hf⟩ := mbind hf
        refine r_alen X G I hv d_CL_convert_74 ?_
        refine lv_iadd hx hb d_CL_convert_75 ?_
        obtain ⟨m13, hv, hf⟩ := mbind hf
        refine r_put (ty := .int) X G I hv o_CL_piecesRun k_156 (Or.inl rfl) (by decide) rfl rfl d_CL_convert_76 (fun H locs I => ?_)
        refine r_aload X d_CL_convert_79 (lv_at hl 1 rfl) ?_
        refine lv_lload hx hb d_CL_convert_81 (lv_at hl 0 rfl) ?_
        obtain ⟨m14, hv, hf⟩ := mbind hf
        refine r_putN (ty := .long) X G I hv o_Link_latestColour k_757 (Or.inl rfl) (by decide) rfl rfl d_CL_convert_83 (fun H locs I => ?_)
        refine r_aload X d_CL_convert_86 (lv_at hl 1 rfl) ?_
        refine r_aload_n X d_CL_convert_88 rfl (lv_at hl 2 rfl) ?_
        obtain ⟨v15, hv, hf⟩ := mbind hf
        refine r_getf X G I (mfA_e hv) o_CL_colour k_155 (Or.inl rfl) d_CL_convert_89 ?_
        obtain ⟨q16, hv, hf⟩ := mbind hf
        refine m_caR (m_runS (As := [va_rf v15]) (rest := [va_rf q1]) X h_CL_packed k_812 (c_CL_packed hv) mPr_blind (m_pre G I) rfl rfl hl.1 (Nat.le_of_ble_eq_true rfl) rfl rfl ⟨Nat.le_of_ble_eq_true rfl, Nat.le_of_ble_eq_true rfl⟩ ⟨Nat.le_refl _, Nat.le_refl _⟩ d_CL_convert_92) ?_
        obtain ⟨m17, hv, hf⟩ := mbind hf
        refine r_putN (ty := .long) X G I hv o_Link_latestAnswer k_759 (Or.inl rfl) (by decide) rfl rfl d_CL_convert_95 (fun H locs I => ?_)
        exact w_CL_convert_98 X G I hf (lv_sub hl [2, 1] rfl)
    · have hf := mift hf hc
      exact w_CL_convert_25 X G I hf (lv_sub hl [1] rfl)

set_option maxHeartbeats 4000000 in
set_option maxRecDepth 100000 in
theorem c_CL_convert {l : Launch} {D : va_G} {cA : Nat → ClassId} {dA z0 : Nat} {μ : mM} {h0 : Nat} {x1 : Int32} {x2 : Int32} {x3 : Int32} {x4 : Int32} {r : Int64 × mM} (hf : f_CL_convert h0 μ x1 x2 x3 x4 = some r) : Met l y_CL_convert (mW y_CL_convert b_CL_convert 8 (some .long)) rm_CL_convert (va_Pc [.ref h0, .int x1, .int x2, .int x3, .int x4] (mPr D cA dA z0 μ)) (mQW D cA z0 (some (.long r.1)) r.2) 0 0 (mA z0) := by
  refine Met.ofW (cc := b_CL_convert) (maxL := 8) (ret := (some .long)) (by decide) rfl ?_
  intro p e s m args below meth c s₁ B hml hv
  obtain ⟨rfl, G, hP⟩ := hv
  have X := mX.of B hml
  exact m_entry (lv := [(0, va_rf (some h0)), (1, .int x1), (2, .int x2), (3, .int x3), (4, .int x4)]) (Nat.le_of_ble_eq_true rfl) rfl (fun ls hl => w_CL_convert X G (mI.start hP) hf hl)

abbrev rm_Mo_level : Room := { frames := 0, cells := 0, slots := 0, locals := 0 }
theorem h_Mo_level : mCV y_Mo_level b_Mo_level 2 (some .boolean) 1 := ⟨k_1195, k_79, ⟨by decide, by decide, by decide +kernel⟩, k_1194, k_71⟩
set_option maxHeartbeats 4000000 in
set_option maxRecDepth 100000 in
theorem w_Mo_level_15 {μ : mM} {h0 : Nat} {r : Int32} (X : mX p m meth c s args b_Mo_level 2 (some .boolean) "ColourLinkerModel") (G : mG D cA dA z0 s) (I : mI D cA z0 s μ s.heap [] s.heap.size) {ls : Array Slot} {s0 : Int32} (hf : f_Mo_level_15 μ h0 s0 = some r) (hl : lv_has ls 2 [(0, va_rf (some h0))]) : W p l e rm_Mo_level s m args below meth c s.heap [] 0 0 (MQ below (mQR (some (.int r))) args s 0 0 (fun _ => False)) (F0 m 15 ls [.int s0]) := by
  have hx := X.ex
  have hb := X.by_
  unfold f_Mo_level_15 at hf
  obtain ⟨v1, hv, hf⟩ := mbind hf
  obtain ⟨hz0, hz⟩ := mz_e hv
  rw [hz0] at hf
  obtain rfl := Option.some.inj hf
  exact r_zretR X hz d_Mo_level_15

set_option maxHeartbeats 4000000 in
set_option maxRecDepth 100000 in
theorem w_Mo_level_14 {μ : mM} {h0 : Nat} {r : Int32} (X : mX p m meth c s args b_Mo_level 2 (some .boolean) "ColourLinkerModel") (G : mG D cA dA z0 s) (I : mI D cA z0 s μ s.heap [] s.heap.size) {ls : Array Slot}  (hf : f_Mo_level_14 μ h0 = some r) (hl : lv_has ls 2 [(0, va_rf (some h0))]) : W p l e rm_Mo_level s m args below meth c s.heap [] 0 0 (MQ below (mQR (some (.int r))) args s 0 0 (fun _ => False)) (F0 m 14 ls []) := by
  have hx := X.ex
  have hb := X.by_
  unfold f_Mo_level_14 at hf
  refine lv_iconst (v := 0) hx hb d_Mo_level_14 (by decide) ?_
  exact w_Mo_level_15 X G I hf hl

set_option maxHeartbeats 4000000 in
set_option maxRecDepth 100000 in
theorem w_Mo_level {μ : mM} {h0 : Nat} {r : Int32} (X : mX p m meth c s args b_Mo_level 2 (some .boolean) "ColourLinkerModel") (G : mG D cA dA z0 s) (I : mI D cA z0 s μ s.heap [] s.heap.size) {ls : Array Slot} {x1 : Int32} (hf : f_Mo_level μ h0 x1 = some r) (hl : lv_has ls 2 [(0, va_rf (some h0)), (1, .int x1)]) : W p l e rm_Mo_level s m args below meth c s.heap [] 0 0 (MQ below (mQR (some (.int r))) args s 0 0 (fun _ => False)) (F0 m 0 ls []) := by
  have hx := X.ex
  have hb := X.by_
  unfold f_Mo_level at hf
  refine lv_iload_n hx hb d_Mo_level_0 rfl (lv_at hl 1 rfl) ?_
  refine lv_if_lt (tgt := 14) hx hb d_Mo_level_1 (by decide) (fun hc => ?_) (fun hc => ?_)
  · have hf := mift hf hc
    exact w_Mo_level_14 X G I hf (lv_sub hl [0] rfl)
  · have hf := miff hf hc
    refine lv_iload_n hx hb d_Mo_level_4 rfl (lv_at hl 1 rfl) ?_
    refine lv_ldc (v := 65535) hx hb X.ow (X.w k_979) d_Mo_level_5 ?_
    refine lv_icmp_gt (tgt := 14) hx hb d_Mo_level_7 (by decide) (fun hc => ?_) (fun hc => ?_)
    · have hf := mift hf hc
      exact w_Mo_level_14 X G I hf (lv_sub hl [0] rfl)
    · have hf := miff hf hc
      refine lv_iconst (v := 1) hx hb d_Mo_level_10 (by decide) ?_
      refine lv_goto (tgt := 15) hx hb d_Mo_level_11 (by decide) ?_
      exact w_Mo_level_15 X G I hf (lv_sub hl [0] rfl)

set_option maxHeartbeats 4000000 in
set_option maxRecDepth 100000 in
theorem c_Mo_level {l : Launch} {D : va_G} {cA : Nat → ClassId} {dA z0 : Nat} {μ : mM} {h0 : Nat} {x1 : Int32} {r : Int32} (hf : f_Mo_level μ h0 x1 = some r) : Met l y_Mo_level (mW y_Mo_level b_Mo_level 2 (some .boolean)) rm_Mo_level (va_Pc [.ref h0, .int x1] (mPr D cA dA z0 μ)) (mQR (some (.int r))) 0 0 (fun _ => False) := by
  refine Met.ofW (cc := b_Mo_level) (maxL := 2) (ret := (some .boolean)) (by decide) rfl ?_
  intro p e s m args below meth c s₁ B hml hv
  obtain ⟨rfl, G, hP⟩ := hv
  have X := mX.of B hml
  exact m_entry (lv := [(0, va_rf (some h0)), (1, .int x1)]) (Nat.le_of_ble_eq_true rfl) rfl (fun ls hl => w_Mo_level X G (mI.start hP) hf hl)

end WK
