section WK
variable {p : Program} {l : Launch} {e : Env} {s : State} {m : MethodId} {args : Array Value} {below : List Frame} {meth : Method} {c : Code} {D : va_G} {cA : Nat → ClassId} {dA z0 : Nat}
abbrev rm_Buffer_init (k n : Nat) : Room := { frames := 1, cells := k, slots := n, locals := 20 }
theorem h_Buffer_init : mCI y_Buffer_init b_Buffer_init 1 0 := ⟨k_103, k_76, ⟨by decide, by decide, by decide +kernel⟩, k_102, rfl⟩
set_option maxHeartbeats 4000000 in
set_option maxRecDepth 100000 in
theorem w_Buffer_init {h0 : Nat} {ws : Nat} {r : mM × Nat × Nat} (X : mX p m meth c s args b_Buffer_init 1 none "ColourLinker$Buffer") (G : mG D cA dA z0 s) (hN : meth.name = "<init>") {H : Heap} {locs : List Loc} {μ : mM} {z w : Nat} {ls : Array Slot}  (hw : ws ≤ w) (I : mI D cA z0 s μ H locs z) (hf : f_Buffer_init h0 μ z w = some r) (hl : lv_has ls 1 [(0, va_rf (some h0))]) : W p l e (rm_Buffer_init (r.2.1 - s.heap.size) (r.2.2 - ws)) s m args below meth c H locs (z - s.heap.size) (w - ws) (MQ below (mQN D cA z0 none r.1 r.2.1) args s (r.2.1 - s.heap.size) (r.2.2 - ws) (mA z0)) (F0 m 0 ls []) := by
  have hx := X.ex
  have hb := X.by_
  unfold f_Buffer_init at hf
  obtain ⟨-, -, hz2, hw2, hf⟩ := mmV_e hf
  have hq : mq ws w z r.2.1 r.2.2 := ⟨hw, hz2, hw2⟩
  refine r_aload_n X d_Buffer_init_0 rfl (lv_at hl 0 rfl) ?_
  refine W.objInit hx hb X.ow (X.w k_104) (X.w k_97) (X.w k_98) rfl (by rw [X.ml]; exact hl.1) rfl d_Buffer_init_1 (Nat.le_of_ble_eq_true rfl) (Nat.le_of_ble_eq_true rfl) ?_
  refine W.eq (g2 := F0 m 4 ls []) rfl ?_
  refine r_aload_n X d_Buffer_init_4 rfl (lv_at hl 0 rfl) ?_
  refine lv_sipush (v := 256) hx hb d_Buffer_init_5 (by decide) ?_
  obtain ⟨m1, hv, hf⟩ := mbind hf
  obtain ⟨hz1, hw1, hz2, hw2, hf⟩ := mmV_e hf
  refine r_newa (atype := .int) X G I hq.1 rfl rfl hv hz2 hw2 (Or.inl ⟨rfl, rfl⟩) k_113 d_Buffer_init_8 (fun H I => ?_)
  have hq := hq.up hw1 hz2 hw2
  obtain ⟨m2, hv, hf⟩ := mbind hf
  refine r_putF (ty := (.array .int)) X G I hv o_Buffer_row k_105 hN (by decide) (mn_nR _) (mn_fR _) d_Buffer_init_10 (fun H locs I => ?_)
  obtain rfl := Option.some.inj hf
  exact r_vretN X I d_Buffer_init_13

set_option maxHeartbeats 4000000 in
set_option maxRecDepth 100000 in
theorem c_Buffer_init {l : Launch} {D : va_G} {cA : Nat → ClassId} {dA z0 : Nat} {μ : mM} {h0 : Nat} {z w : Nat} {r : mM × Nat × Nat} (hf : f_Buffer_init h0 μ z w = some r) : Met l y_Buffer_init (mW y_Buffer_init b_Buffer_init 1 none) (rm_Buffer_init (r.2.1 - z) (r.2.2 - w)) (va_Pc [.ref h0] (mPn D cA dA z0 μ z)) (mQN D cA z0 none r.1 r.2.1) (r.2.1 - z) (r.2.2 - w) (mA z0) := by
  refine Met.ofW (cc := b_Buffer_init) (maxL := 1) (ret := none) (by decide) rfl ?_
  intro p e s m args below meth c s₁ B hml hv
  obtain ⟨rfl, G, hP, rfl⟩ := hv
  have X := mX.of B hml
  have hN : meth.name = "<init>" := (name_of_methodNamed B.named B.method).1
  refine m_entry (lv := [(0, va_rf (some h0))]) (Nat.le_of_ble_eq_true rfl) rfl (fun ls hl => ?_)
  have h := w_Buffer_init (p := p) (l := l) (e := e) (below := below) X G hN (Nat.le_refl w) (mI.start hP) hf hl
  rw [Nat.sub_self s.heap.size, Nat.sub_self w] at h
  exact h

abbrev rm_Piece_init : Room := { frames := 1, cells := 0, slots := 0, locals := 20 }
theorem h_Piece_init : mCI y_Piece_init b_Piece_init 3 2 := ⟨k_125, k_77, ⟨by decide, by decide, by decide +kernel⟩, k_124, rfl⟩
set_option maxHeartbeats 4000000 in
set_option maxRecDepth 100000 in
theorem w_Piece_init {h0 : Nat} {r : mM} (X : mX p m meth c s args b_Piece_init 3 none "ColourLinker$Piece") (G : mG D cA dA z0 s) (hN : meth.name = "<init>") {H : Heap} {locs : List Loc} {μ : mM} {ls : Array Slot} {x1 : Int32} {x2 : Int32} (I : mI D cA z0 s μ H locs s.heap.size) (hf : f_Piece_init h0 μ x1 x2 = some r) (hl : lv_has ls 3 [(0, va_rf (some h0)), (1, .int x1), (2, .int x2)]) : W p l e rm_Piece_init s m args below meth c H locs 0 0 (MQ below (mQW D cA z0 none r) args s 0 0 (mA z0)) (F0 m 0 ls []) := by
  have hx := X.ex
  have hb := X.by_
  unfold f_Piece_init at hf
  refine r_aload_n X d_Piece_init_0 rfl (lv_at hl 0 rfl) ?_
  refine W.objInit hx hb X.ow (X.w k_126) (X.w k_97) (X.w k_98) rfl (by rw [X.ml]; exact hl.1) rfl d_Piece_init_1 (Nat.le_of_ble_eq_true rfl) (Nat.le_of_ble_eq_true rfl) ?_
  refine W.eq (g2 := F0 m 4 ls []) rfl ?_
  refine r_aload_n X d_Piece_init_4 rfl (lv_at hl 0 rfl) ?_
  refine lv_iload_n hx hb d_Piece_init_5 rfl (lv_at hl 1 rfl) ?_
  obtain ⟨m1, hv, hf⟩ := mbind hf
  refine r_putF (ty := .int) X G I hv o_Piece_kind k_127 hN (by decide) rfl rfl d_Piece_init_6 (fun H locs I => ?_)
  refine r_aload_n X d_Piece_init_9 rfl (lv_at hl 0 rfl) ?_
  refine lv_iload_n hx hb d_Piece_init_10 rfl (lv_at hl 2 rfl) ?_
  obtain ⟨m2, hv, hf⟩ := mbind hf
  obtain ⟨hz, hv⟩ := mpZ_e hv
  refine r_putF (ty := .boolean) X G I hv o_Piece_leftOut k_137 hN (by decide) (mn_nZ hz) (mn_fZ hz) d_Piece_init_11 (fun H locs I => ?_)
  obtain rfl := Option.some.inj hf
  exact r_vretW X I d_Piece_init_14

set_option maxHeartbeats 4000000 in
set_option maxRecDepth 100000 in
theorem c_Piece_init {l : Launch} {D : va_G} {cA : Nat → ClassId} {dA z0 : Nat} {μ : mM} {h0 : Nat} {x1 : Int32} {x2 : Int32} {r : mM} (hf : f_Piece_init h0 μ x1 x2 = some r) : Met l y_Piece_init (mW y_Piece_init b_Piece_init 3 none) rm_Piece_init (va_Pc [.ref h0, .int x1, .int x2] (mPr D cA dA z0 μ)) (mQW D cA z0 none r) 0 0 (mA z0) := by
  refine Met.ofW (cc := b_Piece_init) (maxL := 3) (ret := none) (by decide) rfl ?_
  intro p e s m args below meth c s₁ B hml hv
  obtain ⟨rfl, G, hP⟩ := hv
  have X := mX.of B hml
  have hN : meth.name = "<init>" := (name_of_methodNamed B.named B.method).1
  exact m_entry (lv := [(0, va_rf (some h0)), (1, .int x1), (2, .int x2)]) (Nat.le_of_ble_eq_true rfl) rfl (fun ls hl => w_Piece_init X G hN (mI.start hP) hf hl)

abbrev rm_LabXyz_init : Room := { frames := 2, cells := 0, slots := 0, locals := 42 }
theorem h_LabXyz_init : mCI y_LabXyz_init b_LabXyz_init 2 1 := ⟨k_122, k_78, ⟨by decide, by decide, by decide +kernel⟩, k_121, rfl⟩
set_option maxHeartbeats 4000000 in
set_option maxRecDepth 100000 in
theorem w_LabXyz_init {h0 : Nat} {r : mM} (X : mX p m meth c s args b_LabXyz_init 2 none "ColourLinker$LabXyz") (G : mG D cA dA z0 s) (hN : meth.name = "<init>") {H : Heap} {locs : List Loc} {μ : mM} {ls : Array Slot} {x1 : Int32} (I : mI D cA z0 s μ H locs s.heap.size) (hf : f_LabXyz_init h0 μ x1 = some r) (hl : lv_has ls 2 [(0, va_rf (some h0)), (1, .int x1)]) : W p l e rm_LabXyz_init s m args below meth c H locs 0 0 (MQ below (mQW D cA z0 none r) args s 0 0 (mA z0)) (F0 m 0 ls []) := by
  have hx := X.ex
  have hb := X.by_
  unfold f_LabXyz_init at hf
  refine r_aload_n X d_LabXyz_init_0 rfl (lv_at hl 0 rfl) ?_
  refine lv_iload_n hx hb d_LabXyz_init_1 rfl (lv_at hl 1 rfl) ?_
  refine lv_iconst (v := 0) hx hb d_LabXyz_init_2 (by decide) ?_
  obtain ⟨q1, hv, hf⟩ := mbind hf
  obtain ⟨a, ha, hv⟩ := mbind hv
  refine m_caWv (m_runI (As := [.int x1, .int (0 : Int32)]) (r := some h0) (rest := []) X h_Piece_init k_123 (c_Piece_init hv) mPr_blind (m_pre G I) ha rfl rfl hl.1 (Nat.le_of_ble_eq_true rfl) rfl rfl ⟨Nat.le_of_ble_eq_true rfl, Nat.le_of_ble_eq_true rfl⟩ ⟨Nat.le_refl _, Nat.le_refl _⟩ d_LabXyz_init_3) I (fun H locs I => ?_)
  obtain rfl := Option.some.inj hf
  exact r_vretW X I d_LabXyz_init_6

set_option maxHeartbeats 4000000 in
set_option maxRecDepth 100000 in
theorem c_LabXyz_init {l : Launch} {D : va_G} {cA : Nat → ClassId} {dA z0 : Nat} {μ : mM} {h0 : Nat} {x1 : Int32} {r : mM} (hf : f_LabXyz_init h0 μ x1 = some r) : Met l y_LabXyz_init (mW y_LabXyz_init b_LabXyz_init 2 none) rm_LabXyz_init (va_Pc [.ref h0, .int x1] (mPr D cA dA z0 μ)) (mQW D cA z0 none r) 0 0 (mA z0) := by
  refine Met.ofW (cc := b_LabXyz_init) (maxL := 2) (ret := none) (by decide) rfl ?_
  intro p e s m args below meth c s₁ B hml hv
  obtain ⟨rfl, G, hP⟩ := hv
  have X := mX.of B hml
  have hN : meth.name = "<init>" := (name_of_methodNamed B.named B.method).1
  exact m_entry (lv := [(0, va_rf (some h0)), (1, .int x1)]) (Nat.le_of_ble_eq_true rfl) rfl (fun ls hl => w_LabXyz_init X G hN (mI.start hP) hf hl)

abbrev rm_CL_init (k n : Nat) : Room := { frames := 3, cells := k, slots := n, locals := 63 }
theorem h_CL_init : mCI y_CL_init b_CL_init 1 0 := ⟨k_95, k_75, ⟨by decide, by decide, by decide +kernel⟩, k_94, rfl⟩
set_option maxHeartbeats 4000000 in
set_option maxRecDepth 100000 in
theorem w_CL_init {h0 : Nat} {ws : Nat} {r : mM × Nat × Nat} (X : mX p m meth c s args b_CL_init 1 none "ColourLinker") (G : mG D cA dA z0 s) (hN : meth.name = "<init>") {H : Heap} {locs : List Loc} {μ : mM} {z w : Nat} {ls : Array Slot}  (hw : ws ≤ w) (I : mI D cA z0 s μ H locs z) (hf : f_CL_init h0 μ z w = some r) (hl : lv_has ls 1 [(0, va_rf (some h0))]) : W p l e (rm_CL_init (r.2.1 - s.heap.size) (r.2.2 - ws)) s m args below meth c H locs (z - s.heap.size) (w - ws) (MQ below (mQN D cA z0 none r.1 r.2.1) args s (r.2.1 - s.heap.size) (r.2.2 - ws) (mA z0)) (F0 m 0 ls []) := by
  have hx := X.ex
  have hb := X.by_
  unfold f_CL_init at hf
  obtain ⟨-, -, hz2, hw2, hf⟩ := mmV_e hf
  have hq : mq ws w z r.2.1 r.2.2 := ⟨hw, hz2, hw2⟩
  refine r_aload_n X d_CL_init_0 rfl (lv_at hl 0 rfl) ?_
  refine W.objInit hx hb X.ow (X.w k_96) (X.w k_97) (X.w k_98) rfl (by rw [X.ml]; exact hl.1) rfl d_CL_init_1 (Nat.le_of_ble_eq_true rfl) (Nat.le_of_ble_eq_true rfl) ?_
  refine W.eq (g2 := F0 m 4 ls []) rfl ?_
  refine r_aload_n X d_CL_init_4 rfl (lv_at hl 0 rfl) ?_
  obtain ⟨m1, hv, hf⟩ := mbind hf
  obtain ⟨hz1, hw1, hz2, hw2, hf⟩ := mmV_e hf
  refine r_new (N := 2) X G I hq.1 rfl rfl hv hz2 hw2 (C := "ColourLinker$Buffer") (T := T_Buffer) rfl (by decide +kernel) k_99 k_100 k_76 d_CL_init_5 (fun H I => ?_)
  have hq := hq.up hw1 hz2 hw2
  refine lv_dup hx hb d_CL_init_8 (mrf_cat _) ?_
  obtain ⟨q2, hv, hf⟩ := mbind hf
  obtain ⟨hz1, hw1, hz2, hw2, hf⟩ := mmV_e hf
  have hrn := hq.rmN I hz1 hw1 hz2 hw2
  obtain ⟨a, ha, hv⟩ := mbind hv
  refine m_caNv (m_runIN (As := []) (r := some z) (rest := [va_rf (some z), va_rf (some h0)]) X G h_Buffer_init k_101 (c_Buffer_init hv) mPn_blind (m_preN G I) ha rfl rfl hl.1 (Nat.le_of_ble_eq_true rfl) rfl rfl ⟨Nat.le_of_ble_eq_true rfl, Nat.le_of_ble_eq_true rfl⟩ hrn d_CL_init_9) I hq.1 hz1 hw1 (fun H locs I => ?_)
  have hq := hq.up hw1 hz2 hw2
  obtain ⟨m3, hv, hf⟩ := mbind hf
  refine r_putF (ty := (.object "ColourLinker$Buffer")) X G I hv o_CL_buffer k_146 hN (by decide) (mn_nA _) (mn_fA _) d_CL_init_12 (fun H locs I => ?_)
  refine r_aload_n X d_CL_init_15 rfl (lv_at hl 0 rfl) ?_
  refine lv_bipush (v := 6) hx hb d_CL_init_16 (by decide) ?_
  obtain ⟨m4, hv, hf⟩ := mbind hf
  obtain ⟨hz1, hw1, hz2, hw2, hf⟩ := mmV_e hf
  refine r_anew (k := 0) X G I hq.1 rfl rfl hv hz2 hw2 (by decide) rfl k_114 d_CL_init_18 (fun H I => ?_)
  have hq := hq.up hw1 hz2 hw2
  obtain ⟨m5, hv, hf⟩ := mbind hf
  refine r_putF (ty := .array (.object "ColourLinker$Profile")) X G I hv o_CL_kept k_147 hN (by decide) (mn_nR _) (mn_fR _) d_CL_init_21 (fun H locs I => ?_)
  refine r_aload_n X d_CL_init_24 rfl (lv_at hl 0 rfl) ?_
  refine lv_bipush (v := 16) hx hb d_CL_init_25 (by decide) ?_
  obtain ⟨m6, hv, hf⟩ := mbind hf
  obtain ⟨hz1, hw1, hz2, hw2, hf⟩ := mmV_e hf
  refine r_anew (k := 1) X G I hq.1 rfl rfl hv hz2 hw2 (by decide) rfl k_116 d_CL_init_27 (fun H I => ?_)
  have hq := hq.up hw1 hz2 hw2
  obtain ⟨m7, hv, hf⟩ := mbind hf
  refine r_putF (ty := .array (.object "ColourLinker$Link")) X G I hv o_CL_made k_149 hN (by decide) (mn_nR _) (mn_fR _) d_CL_init_30 (fun H locs I => ?_)
  refine r_aload_n X d_CL_init_33 rfl (lv_at hl 0 rfl) ?_
  obtain ⟨m8, hv, hf⟩ := mbind hf
  obtain ⟨hz1, hw1, hz2, hw2, hf⟩ := mmV_e hf
  refine r_new (N := 2) X G I hq.1 rfl rfl hv hz2 hw2 (C := "ColourLinker$LabXyz") (T := T_LabXyz) rfl (by decide +kernel) k_118 k_119 k_78 d_CL_init_34 (fun H I => ?_)
  have hq := hq.up hw1 hz2 hw2
  refine lv_dup hx hb d_CL_init_37 (mrf_cat _) ?_
  refine lv_iconst (v := 5) hx hb d_CL_init_38 (by decide) ?_
  obtain ⟨q9, hv, hf⟩ := mbind hf
  obtain ⟨a, ha, hv⟩ := mbind hv
  refine m_caWv (m_runI (As := [.int (5 : Int32)]) (r := some ((q2.2.1 + 1) + 1)) (rest := [va_rf (some ((q2.2.1 + 1) + 1)), va_rf (some h0)]) X h_LabXyz_init k_120 (c_LabXyz_init hv) mPr_blind (m_pre G I) ha rfl rfl hl.1 (Nat.le_of_ble_eq_true rfl) rfl rfl ⟨Nat.le_of_ble_eq_true rfl, Nat.le_of_ble_eq_true rfl⟩ hq.rm d_CL_init_39) I (fun H locs I => ?_)
  obtain ⟨m10, hv, hf⟩ := mbind hf
  refine r_putF (ty := (.object "ColourLinker$Piece")) X G I hv o_CL_toLab k_151 hN (by decide) (mn_nA _) (mn_fA _) d_CL_init_42 (fun H locs I => ?_)
  refine r_aload_n X d_CL_init_45 rfl (lv_at hl 0 rfl) ?_
  obtain ⟨m11, hv, hf⟩ := mbind hf
  obtain ⟨hz1, hw1, hz2, hw2, hf⟩ := mmV_e hf
  refine r_new (N := 2) X G I hq.1 rfl rfl hv hz2 hw2 (C := "ColourLinker$LabXyz") (T := T_LabXyz) rfl (by decide +kernel) k_118 k_119 k_78 d_CL_init_46 (fun H I => ?_)
  have hq := hq.up hw1 hz2 hw2
  refine lv_dup hx hb d_CL_init_49 (mrf_cat _) ?_
  refine lv_bipush (v := 6) hx hb d_CL_init_50 (by decide) ?_
  obtain ⟨q12, hv, hf⟩ := mbind hf
  obtain ⟨a, ha, hv⟩ := mbind hv
  refine m_caWv (m_runI (As := [.int (6 : Int32)]) (r := some (((q2.2.1 + 1) + 1) + 1)) (rest := [va_rf (some (((q2.2.1 + 1) + 1) + 1)), va_rf (some h0)]) X h_LabXyz_init k_120 (c_LabXyz_init hv) mPr_blind (m_pre G I) ha rfl rfl hl.1 (Nat.le_of_ble_eq_true rfl) rfl rfl ⟨Nat.le_of_ble_eq_true rfl, Nat.le_of_ble_eq_true rfl⟩ hq.rm d_CL_init_52) I (fun H locs I => ?_)
  obtain ⟨m13, hv, hf⟩ := mbind hf
  refine r_putF (ty := (.object "ColourLinker$Piece")) X G I hv o_CL_toXyz k_152 hN (by decide) (mn_nA _) (mn_fA _) d_CL_init_55 (fun H locs I => ?_)
  refine r_aload_n X d_CL_init_58 rfl (lv_at hl 0 rfl) ?_
  refine lv_bipush (v := 32) hx hb d_CL_init_59 (by decide) ?_
  obtain ⟨m14, hv, hf⟩ := mbind hf
  obtain ⟨hz1, hw1, hz2, hw2, hf⟩ := mmV_e hf
  refine r_anew (k := 2) X G I hq.1 rfl rfl hv hz2 hw2 (by decide) rfl k_144 d_CL_init_61 (fun H I => ?_)
  have hq := hq.up hw1 hz2 hw2
  obtain ⟨m15, hv, hf⟩ := mbind hf
  refine r_putF (ty := .array (.object "ColourLinker$Piece")) X G I hv o_CL_chain k_153 hN (by decide) (mn_nR _) (mn_fR _) d_CL_init_64 (fun H locs I => ?_)
  refine r_aload_n X d_CL_init_67 rfl (lv_at hl 0 rfl) ?_
  refine lv_iconst (v := 3) hx hb d_CL_init_68 (by decide) ?_
  obtain ⟨m16, hv, hf⟩ := mbind hf
  obtain ⟨hz1, hw1, hz2, hw2, hf⟩ := mmV_e hf
  refine r_newa (atype := .int) X G I hq.1 rfl rfl hv hz2 hw2 (Or.inl ⟨rfl, rfl⟩) k_113 d_CL_init_69 (fun H I => ?_)
  have hq := hq.up hw1 hz2 hw2
  obtain ⟨m17, hv, hf⟩ := mbind hf
  refine r_putF (ty := (.array .int)) X G I hv o_CL_colour k_155 hN (by decide) (mn_nR _) (mn_fR _) d_CL_init_71 (fun H locs I => ?_)
  obtain rfl := Option.some.inj hf
  exact r_vretN X I d_CL_init_74

set_option maxHeartbeats 4000000 in
set_option maxRecDepth 100000 in
theorem c_CL_init {l : Launch} {D : va_G} {cA : Nat → ClassId} {dA z0 : Nat} {μ : mM} {h0 : Nat} {z w : Nat} {r : mM × Nat × Nat} (hf : f_CL_init h0 μ z w = some r) : Met l y_CL_init (mW y_CL_init b_CL_init 1 none) (rm_CL_init (r.2.1 - z) (r.2.2 - w)) (va_Pc [.ref h0] (mPn D cA dA z0 μ z)) (mQN D cA z0 none r.1 r.2.1) (r.2.1 - z) (r.2.2 - w) (mA z0) := by
  refine Met.ofW (cc := b_CL_init) (maxL := 1) (ret := none) (by decide) rfl ?_
  intro p e s m args below meth c s₁ B hml hv
  obtain ⟨rfl, G, hP, rfl⟩ := hv
  have X := mX.of B hml
  have hN : meth.name = "<init>" := (name_of_methodNamed B.named B.method).1
  refine m_entry (lv := [(0, va_rf (some h0))]) (Nat.le_of_ble_eq_true rfl) rfl (fun ls hl => ?_)
  have h := w_CL_init (p := p) (l := l) (e := e) (below := below) X G hN (Nat.le_refl w) (mI.start hP) hf hl
  rw [Nat.sub_self s.heap.size, Nat.sub_self w] at h
  exact h

abbrev rm_Mo_init (k n : Nat) : Room := { frames := 1, cells := k, slots := n, locals := 20 }
theorem h_Mo_init : mCI y_Mo_init b_Mo_init 1 0 := ⟨k_832, k_79, ⟨by decide, by decide, by decide +kernel⟩, k_831, rfl⟩
set_option maxHeartbeats 4000000 in
set_option maxRecDepth 100000 in
theorem w_Mo_init {h0 : Nat} {ws : Nat} {r : mM × Nat × Nat} (X : mX p m meth c s args b_Mo_init 1 none "ColourLinkerModel") (G : mG D cA dA z0 s) (hN : meth.name = "<init>") {H : Heap} {locs : List Loc} {μ : mM} {z w : Nat} {ls : Array Slot}  (hw : ws ≤ w) (I : mI D cA z0 s μ H locs z) (hf : f_Mo_init h0 μ z w = some r) (hl : lv_has ls 1 [(0, va_rf (some h0))]) : W p l e (rm_Mo_init (r.2.1 - s.heap.size) (r.2.2 - ws)) s m args below meth c H locs (z - s.heap.size) (w - ws) (MQ below (mQN D cA z0 none r.1 r.2.1) args s (r.2.1 - s.heap.size) (r.2.2 - ws) (mA z0)) (F0 m 0 ls []) := by
  have hx := X.ex
  have hb := X.by_
  unfold f_Mo_init at hf
  obtain ⟨-, -, hz2, hw2, hf⟩ := mmV_e hf
  have hq : mq ws w z r.2.1 r.2.2 := ⟨hw, hz2, hw2⟩
  refine r_aload_n X d_Mo_init_0 rfl (lv_at hl 0 rfl) ?_
  refine W.objInit hx hb X.ow (X.w k_833) (X.w k_97) (X.w k_98) rfl (by rw [X.ml]; exact hl.1) rfl d_Mo_init_1 (Nat.le_of_ble_eq_true rfl) (Nat.le_of_ble_eq_true rfl) ?_
  refine W.eq (g2 := F0 m 4 ls []) rfl ?_
  refine r_aload_n X d_Mo_init_4 rfl (lv_at hl 0 rfl) ?_
  refine lv_sipush (v := 256) hx hb d_Mo_init_5 (by decide) ?_
  obtain ⟨m1, hv, hf⟩ := mbind hf
  obtain ⟨hz1, hw1, hz2, hw2, hf⟩ := mmV_e hf
  refine r_newa (atype := .int) X G I hq.1 rfl rfl hv hz2 hw2 (Or.inl ⟨rfl, rfl⟩) k_113 d_Mo_init_8 (fun H I => ?_)
  have hq := hq.up hw1 hz2 hw2
  obtain ⟨m2, hv, hf⟩ := mbind hf
  refine r_putF (ty := (.array .int)) X G I hv o_Mo_buffer k_834 hN (by decide) (mn_nR _) (mn_fR _) d_Mo_init_10 (fun H locs I => ?_)
  refine r_aload_n X d_Mo_init_13 rfl (lv_at hl 0 rfl) ?_
  refine lv_sipush (v := 1536) hx hb d_Mo_init_14 (by decide) ?_
  obtain ⟨m3, hv, hf⟩ := mbind hf
  obtain ⟨hz1, hw1, hz2, hw2, hf⟩ := mmV_e hf
  refine r_newa (atype := .int) X G I hq.1 rfl rfl hv hz2 hw2 (Or.inl ⟨rfl, rfl⟩) k_113 d_Mo_init_17 (fun H I => ?_)
  have hq := hq.up hw1 hz2 hw2
  obtain ⟨m4, hv, hf⟩ := mbind hf
  refine r_putF (ty := (.array .int)) X G I hv o_Mo_kept k_836 hN (by decide) (mn_nR _) (mn_fR _) d_Mo_init_19 (fun H locs I => ?_)
  refine r_aload_n X d_Mo_init_22 rfl (lv_at hl 0 rfl) ?_
  refine lv_bipush (v := 16) hx hb d_Mo_init_23 (by decide) ?_
  obtain ⟨m5, hv, hf⟩ := mbind hf
  obtain ⟨hz1, hw1, hz2, hw2, hf⟩ := mmV_e hf
  refine r_newa (atype := .int) X G I hq.1 rfl rfl hv hz2 hw2 (Or.inl ⟨rfl, rfl⟩) k_113 d_Mo_init_25 (fun H I => ?_)
  have hq := hq.up hw1 hz2 hw2
  obtain ⟨m6, hv, hf⟩ := mbind hf
  refine r_putF (ty := (.array .int)) X G I hv o_Mo_parent k_838 hN (by decide) (mn_nR _) (mn_fR _) d_Mo_init_27 (fun H locs I => ?_)
  refine r_aload_n X d_Mo_init_30 rfl (lv_at hl 0 rfl) ?_
  refine lv_bipush (v := 16) hx hb d_Mo_init_31 (by decide) ?_
  obtain ⟨m7, hv, hf⟩ := mbind hf
  obtain ⟨hz1, hw1, hz2, hw2, hf⟩ := mmV_e hf
  refine r_newa (atype := .int) X G I hq.1 rfl rfl hv hz2 hw2 (Or.inl ⟨rfl, rfl⟩) k_113 d_Mo_init_33 (fun H I => ?_)
  have hq := hq.up hw1 hz2 hw2
  obtain ⟨m8, hv, hf⟩ := mbind hf
  refine r_putF (ty := (.array .int)) X G I hv o_Mo_source k_839 hN (by decide) (mn_nR _) (mn_fR _) d_Mo_init_35 (fun H locs I => ?_)
  refine r_aload_n X d_Mo_init_38 rfl (lv_at hl 0 rfl) ?_
  refine lv_bipush (v := 16) hx hb d_Mo_init_39 (by decide) ?_
  obtain ⟨m9, hv, hf⟩ := mbind hf
  obtain ⟨hz1, hw1, hz2, hw2, hf⟩ := mmV_e hf
  refine r_newa (atype := .int) X G I hq.1 rfl rfl hv hz2 hw2 (Or.inl ⟨rfl, rfl⟩) k_113 d_Mo_init_41 (fun H I => ?_)
  have hq := hq.up hw1 hz2 hw2
  obtain ⟨m10, hv, hf⟩ := mbind hf
  refine r_putF (ty := (.array .int)) X G I hv o_Mo_target k_840 hN (by decide) (mn_nR _) (mn_fR _) d_Mo_init_43 (fun H locs I => ?_)
  refine r_aload_n X d_Mo_init_46 rfl (lv_at hl 0 rfl) ?_
  refine lv_bipush (v := 16) hx hb d_Mo_init_47 (by decide) ?_
  obtain ⟨m11, hv, hf⟩ := mbind hf
  obtain ⟨hz1, hw1, hz2, hw2, hf⟩ := mmV_e hf
  refine r_newa (atype := .int) X G I hq.1 rfl rfl hv hz2 hw2 (Or.inl ⟨rfl, rfl⟩) k_113 d_Mo_init_49 (fun H I => ?_)
  have hq := hq.up hw1 hz2 hw2
  obtain ⟨m12, hv, hf⟩ := mbind hf
  refine r_putF (ty := (.array .int)) X G I hv o_Mo_intents k_841 hN (by decide) (mn_nR _) (mn_fR _) d_Mo_init_51 (fun H locs I => ?_)
  refine r_aload_n X d_Mo_init_54 rfl (lv_at hl 0 rfl) ?_
  refine lv_bipush (v := 16) hx hb d_Mo_init_55 (by decide) ?_
  obtain ⟨m13, hv, hf⟩ := mbind hf
  obtain ⟨hz1, hw1, hz2, hw2, hf⟩ := mmV_e hf
  refine r_newa (atype := .boolean) X G I hq.1 rfl rfl hv hz2 hw2 (Or.inr (Or.inr ⟨rfl, rfl⟩)) k_898 d_Mo_init_57 (fun H I => ?_)
  have hq := hq.up hw1 hz2 hw2
  obtain ⟨m14, hv, hf⟩ := mbind hf
  refine r_putF (ty := (.array .boolean)) X G I hv o_Mo_blacks k_842 hN (by decide) (mn_nR _) (mn_fR _) d_Mo_init_59 (fun H locs I => ?_)
  refine r_aload_n X d_Mo_init_62 rfl (lv_at hl 0 rfl) ?_
  refine lv_bipush (v := 16) hx hb d_Mo_init_63 (by decide) ?_
  obtain ⟨m15, hv, hf⟩ := mbind hf
  obtain ⟨hz1, hw1, hz2, hw2, hf⟩ := mmV_e hf
  refine r_newa (atype := .long) X G I hq.1 rfl rfl hv hz2 hw2 (Or.inr (Or.inl ⟨rfl, rfl⟩)) k_389 d_Mo_init_65 (fun H I => ?_)
  have hq := hq.up hw1 hz2 hw2
  obtain ⟨m16, hv, hf⟩ := mbind hf
  refine r_putF (ty := (.array .long)) X G I hv o_Mo_latest k_843 hN (by decide) (mn_nR _) (mn_fR _) d_Mo_init_67 (fun H locs I => ?_)
  refine r_aload_n X d_Mo_init_70 rfl (lv_at hl 0 rfl) ?_
  refine lv_bipush (v := 40) hx hb d_Mo_init_71 (by decide) ?_
  obtain ⟨m17, hv, hf⟩ := mbind hf
  obtain ⟨hz1, hw1, hz2, hw2, hf⟩ := mmV_e hf
  refine r_newa (atype := .int) X G I hq.1 rfl rfl hv hz2 hw2 (Or.inl ⟨rfl, rfl⟩) k_113 d_Mo_init_73 (fun H I => ?_)
  have hq := hq.up hw1 hz2 hw2
  obtain ⟨m18, hv, hf⟩ := mbind hf
  refine r_putF (ty := (.array .int)) X G I hv o_Mo_kind k_846 hN (by decide) (mn_nR _) (mn_fR _) d_Mo_init_75 (fun H locs I => ?_)
  refine r_aload_n X d_Mo_init_78 rfl (lv_at hl 0 rfl) ?_
  refine lv_bipush (v := 40) hx hb d_Mo_init_79 (by decide) ?_
  obtain ⟨m19, hv, hf⟩ := mbind hf
  obtain ⟨hz1, hw1, hz2, hw2, hf⟩ := mmV_e hf
  refine r_newa (atype := .int) X G I hq.1 rfl rfl hv hz2 hw2 (Or.inl ⟨rfl, rfl⟩) k_113 d_Mo_init_81 (fun H I => ?_)
  have hq := hq.up hw1 hz2 hw2
  obtain ⟨m20, hv, hf⟩ := mbind hf
  refine r_putF (ty := (.array .int)) X G I hv o_Mo_who k_847 hN (by decide) (mn_nR _) (mn_fR _) d_Mo_init_83 (fun H locs I => ?_)
  refine r_aload_n X d_Mo_init_86 rfl (lv_at hl 0 rfl) ?_
  refine lv_bipush (v := 40) hx hb d_Mo_init_87 (by decide) ?_
  obtain ⟨m21, hv, hf⟩ := mbind hf
  obtain ⟨hz1, hw1, hz2, hw2, hf⟩ := mmV_e hf
  refine r_newa (atype := .int) X G I hq.1 rfl rfl hv hz2 hw2 (Or.inl ⟨rfl, rfl⟩) k_113 d_Mo_init_89 (fun H I => ?_)
  have hq := hq.up hw1 hz2 hw2
  obtain ⟨m22, hv, hf⟩ := mbind hf
  refine r_putF (ty := (.array .int)) X G I hv o_Mo_one k_848 hN (by decide) (mn_nR _) (mn_fR _) d_Mo_init_91 (fun H locs I => ?_)
  refine r_aload_n X d_Mo_init_94 rfl (lv_at hl 0 rfl) ?_
  refine lv_bipush (v := 40) hx hb d_Mo_init_95 (by decide) ?_
  obtain ⟨m23, hv, hf⟩ := mbind hf
  obtain ⟨hz1, hw1, hz2, hw2, hf⟩ := mmV_e hf
  refine r_newa (atype := .int) X G I hq.1 rfl rfl hv hz2 hw2 (Or.inl ⟨rfl, rfl⟩) k_113 d_Mo_init_97 (fun H I => ?_)
  have hq := hq.up hw1 hz2 hw2
  obtain ⟨m24, hv, hf⟩ := mbind hf
  refine r_putF (ty := (.array .int)) X G I hv o_Mo_two k_849 hN (by decide) (mn_nR _) (mn_fR _) d_Mo_init_99 (fun H locs I => ?_)
  refine r_aload_n X d_Mo_init_102 rfl (lv_at hl 0 rfl) ?_
  refine lv_bipush (v := 16) hx hb d_Mo_init_103 (by decide) ?_
  obtain ⟨m25, hv, hf⟩ := mbind hf
  obtain ⟨hz1, hw1, hz2, hw2, hf⟩ := mmV_e hf
  refine r_newa (atype := .int) X G I hq.1 rfl rfl hv hz2 hw2 (Or.inl ⟨rfl, rfl⟩) k_113 d_Mo_init_105 (fun H I => ?_)
  have hq := hq.up hw1 hz2 hw2
  obtain ⟨m26, hv, hf⟩ := mbind hf
  refine r_putF (ty := (.array .int)) X G I hv o_Mo_line k_851 hN (by decide) (mn_nR _) (mn_fR _) d_Mo_init_107 (fun H locs I => ?_)
  refine r_aload_n X d_Mo_init_110 rfl (lv_at hl 0 rfl) ?_
  refine lv_iconst (v := 3) hx hb d_Mo_init_111 (by decide) ?_
  obtain ⟨m27, hv, hf⟩ := mbind hf
  obtain ⟨hz1, hw1, hz2, hw2, hf⟩ := mmV_e hf
  refine r_newa (atype := .long) X G I hq.1 rfl rfl hv hz2 hw2 (Or.inr (Or.inl ⟨rfl, rfl⟩)) k_389 d_Mo_init_112 (fun H I => ?_)
  have hq := hq.up hw1 hz2 hw2
  obtain ⟨m28, hv, hf⟩ := mbind hf
  refine r_putF (ty := (.array .long)) X G I hv o_Mo_v k_852 hN (by decide) (mn_nR _) (mn_fR _) d_Mo_init_114 (fun H locs I => ?_)
  refine r_aload_n X d_Mo_init_117 rfl (lv_at hl 0 rfl) ?_
  refine lv_iconst (v := 3) hx hb d_Mo_init_118 (by decide) ?_
  obtain ⟨m29, hv, hf⟩ := mbind hf
  obtain ⟨hz1, hw1, hz2, hw2, hf⟩ := mmV_e hf
  refine r_newa (atype := .long) X G I hq.1 rfl rfl hv hz2 hw2 (Or.inr (Or.inl ⟨rfl, rfl⟩)) k_389 d_Mo_init_119 (fun H I => ?_)
  have hq := hq.up hw1 hz2 hw2
  obtain ⟨m30, hv, hf⟩ := mbind hf
  refine r_putF (ty := (.array .long)) X G I hv o_Mo_old k_853 hN (by decide) (mn_nR _) (mn_fR _) d_Mo_init_121 (fun H locs I => ?_)
  refine r_aload_n X d_Mo_init_124 rfl (lv_at hl 0 rfl) ?_
  refine lv_bipush (v := 9) hx hb d_Mo_init_125 (by decide) ?_
  obtain ⟨m31, hv, hf⟩ := mbind hf
  obtain ⟨hz1, hw1, hz2, hw2, hf⟩ := mmV_e hf
  refine r_newa (atype := .long) X G I hq.1 rfl rfl hv hz2 hw2 (Or.inr (Or.inl ⟨rfl, rfl⟩)) k_389 d_Mo_init_127 (fun H I => ?_)
  have hq := hq.up hw1 hz2 hw2
  obtain ⟨m32, hv, hf⟩ := mbind hf
  refine r_putF (ty := (.array .long)) X G I hv o_Mo_m k_854 hN (by decide) (mn_nR _) (mn_fR _) d_Mo_init_129 (fun H locs I => ?_)
  obtain rfl := Option.some.inj hf
  exact r_vretN X I d_Mo_init_132

set_option maxHeartbeats 4000000 in
set_option maxRecDepth 100000 in
theorem c_Mo_init {l : Launch} {D : va_G} {cA : Nat → ClassId} {dA z0 : Nat} {μ : mM} {h0 : Nat} {z w : Nat} {r : mM × Nat × Nat} (hf : f_Mo_init h0 μ z w = some r) : Met l y_Mo_init (mW y_Mo_init b_Mo_init 1 none) (rm_Mo_init (r.2.1 - z) (r.2.2 - w)) (va_Pc [.ref h0] (mPn D cA dA z0 μ z)) (mQN D cA z0 none r.1 r.2.1) (r.2.1 - z) (r.2.2 - w) (mA z0) := by
  refine Met.ofW (cc := b_Mo_init) (maxL := 1) (ret := none) (by decide) rfl ?_
  intro p e s m args below meth c s₁ B hml hv
  obtain ⟨rfl, G, hP, rfl⟩ := hv
  have X := mX.of B hml
  have hN : meth.name = "<init>" := (name_of_methodNamed B.named B.method).1
  refine m_entry (lv := [(0, va_rf (some h0))]) (Nat.le_of_ble_eq_true rfl) rfl (fun ls hl => ?_)
  have h := w_Mo_init (p := p) (l := l) (e := e) (below := below) X G hN (Nat.le_refl w) (mI.start hP) hf hl
  rw [Nat.sub_self s.heap.size, Nat.sub_self w] at h
  exact h

abbrev rm_Buffer_append : Room := { frames := 0, cells := 0, slots := 0, locals := 0 }
theorem h_Buffer_append : mCV y_Buffer_append b_Buffer_append 4 (some .boolean) 2 := ⟨k_187, k_76, ⟨by decide, by decide, by decide +kernel⟩, k_185, k_186⟩
set_option maxHeartbeats 4000000 in
set_option maxRecDepth 100000 in
theorem w_Buffer_append_67 {h0 : Nat} {r : Int32 × mM} (X : mX p m meth c s args b_Buffer_append 4 (some .boolean) "ColourLinker$Buffer") (G : mG D cA dA z0 s) {H : Heap} {locs : List Loc} {μ : mM} {ls : Array Slot}  (I : mI D cA z0 s μ H locs s.heap.size) (hf : f_Buffer_append_67 h0 μ = some r) (hl : lv_has ls 4 [(0, va_rf (some h0))]) : W p l e rm_Buffer_append s m args below meth c H locs 0 0 (MQ below (mQW D cA z0 (some (.int r.1)) r.2) args s 0 0 (mA z0)) (F0 m 67 ls []) := by
  have hx := X.ex
  have hb := X.by_
  unfold f_Buffer_append_67 at hf
  refine lv_iconst (v := 1) hx hb d_Buffer_append_67 (by decide) ?_
  obtain rfl := Option.some.inj hf
  exact r_zretW X I (Or.inr rfl) d_Buffer_append_68

set_option maxHeartbeats 4000000 in
set_option maxRecDepth 100000 in
theorem w_Buffer_append_28 {h0 : Nat} {r : Int32 × mM} (X : mX p m meth c s args b_Buffer_append 4 (some .boolean) "ColourLinker$Buffer") (G : mG D cA dA z0 s) {kx67 : mM → Option (Int32 × mM)} (hkx67 : ∀ (H : Heap) (locs : List Loc) (μ : mM) (ls : Array Slot), mI D cA z0 s μ H locs s.heap.size → kx67 μ = some r → lv_has ls 4 [(0, va_rf (some h0))] → W p l e rm_Buffer_append s m args below meth c H locs 0 0 (MQ below (mQW D cA z0 (some (.int r.1)) r.2) args s 0 0 (mA z0)) (F0 m 67 ls [])) : ∀ (n : Nat) (H : Heap) (locs : List Loc) (μ : mM) (ls : Array Slot) (x1 : Int32) (x3 : Int32), mI D cA z0 s μ H locs s.heap.size → f_Buffer_append_28 h0 kx67 n μ x1 x3 = some r → lv_has ls 4 [(0, va_rf (some h0)), (1, .int x1), (3, .int x3)] → W p l e rm_Buffer_append s m args below meth c H locs 0 0 (MQ below (mQW D cA z0 (some (.int r.1)) r.2) args s 0 0 (mA z0)) (F0 m 28 ls []) := by
  have hx := X.ex
  have hb := X.by_
  intro n
  induction n with
  | zero => intro H locs μ ls x1 x3 I hf hl; rw [f_Buffer_append_28] at hf; cases hf
  | succ n ih =>
    intro H locs μ ls x1 x3 I hf hl
    rw [f_Buffer_append_28] at hf
    refine lv_iload_n hx hb d_Buffer_append_28 rfl (lv_at hl 2 rfl) ?_
    refine lv_if_lt (tgt := 67) hx hb d_Buffer_append_29 (by decide) (fun hc => ?_) (fun hc => ?_)
    · have hf := mift hf hc
      exact hkx67 _ _ _ _ I hf (lv_sub hl [0] rfl)
    · have hf := miff hf hc
      refine r_aload_n X d_Buffer_append_32 rfl (lv_at hl 0 rfl) ?_
      obtain ⟨v2, hv, hf⟩ := mbind hf
      refine r_getf X G I (mfA_e hv) o_Buffer_row k_105 (Or.inl rfl) d_Buffer_append_33 ?_
      refine r_aload_n X d_Buffer_append_36 rfl (lv_at hl 0 rfl) ?_
      obtain ⟨v3, hv, hf⟩ := mbind hf
      refine r_getf X G I (mfI_e hv) o_Buffer_count k_106 (Or.inl rfl) d_Buffer_append_37 ?_
      refine lv_iload_n hx hb d_Buffer_append_40 rfl (lv_at hl 1 rfl) ?_
      refine lv_bipush (v := 8) hx hb d_Buffer_append_41 (by decide) ?_
      refine lv_iload_n hx hb d_Buffer_append_43 rfl (lv_at hl 2 rfl) ?_
      refine lv_imul hx hb d_Buffer_append_44 ?_
      refine lv_iushr hx hb d_Buffer_append_45 rfl ?_
      refine lv_sipush (v := 255) hx hb d_Buffer_append_46 (by decide) ?_
      refine lv_iand hx hb d_Buffer_append_49 ?_
      obtain ⟨m4, hv, hf⟩ := mbind hf
      refine r_iast X G I hv d_Buffer_append_50 (fun H locs I => ?_)
      refine r_aload_n X d_Buffer_append_51 rfl (lv_at hl 0 rfl) ?_
      refine lv_dup hx hb d_Buffer_append_52 (mrf_cat _) ?_
      obtain ⟨v5, hv, hf⟩ := mbind hf
      refine r_getf X G I (mfI_e hv) o_Buffer_count k_106 (Or.inl rfl) d_Buffer_append_53 ?_
      refine lv_iconst (v := 1) hx hb d_Buffer_append_56 (by decide) ?_
      refine lv_iadd hx hb d_Buffer_append_57 ?_
      obtain ⟨m6, hv, hf⟩ := mbind hf
      refine r_put (ty := .int) X G I hv o_Buffer_count k_106 (Or.inl rfl) (by decide) rfl rfl d_Buffer_append_58 (fun H locs I => ?_)
      refine lv_iinc (i := 3) (k := 2) (v := (x3 + (-1 : Int32))) (lv' := [(3, .int (x3 + (-1 : Int32))), (0, va_rf (some h0)), (1, .int x1)]) hx hb d_Buffer_append_61 hl rfl (congrArg (fun t => x3 + t) (by decide : Int32.ofInt (-1) = (-1 : Int32))) (by decide) rfl (fun ls hl => ?_)
      refine lv_goto (tgt := 28) hx hb d_Buffer_append_64 (by decide) ?_
      exact ih _ _ _ _ _ _ I hf (lv_sub hl [1, 2, 0] rfl)

set_option maxHeartbeats 4000000 in
set_option maxRecDepth 100000 in
theorem w_Buffer_append_22 {h0 : Nat} {r : Int32 × mM} (X : mX p m meth c s args b_Buffer_append 4 (some .boolean) "ColourLinker$Buffer") (G : mG D cA dA z0 s) {H : Heap} {locs : List Loc} {μ : mM} {ls : Array Slot}  (I : mI D cA z0 s μ H locs s.heap.size) (hf : f_Buffer_append_22 h0 μ = some r) (hl : lv_has ls 4 [(0, va_rf (some h0))]) : W p l e rm_Buffer_append s m args below meth c H locs 0 0 (MQ below (mQW D cA z0 (some (.int r.1)) r.2) args s 0 0 (mA z0)) (F0 m 22 ls []) := by
  have hx := X.ex
  have hb := X.by_
  unfold f_Buffer_append_22 at hf
  refine lv_iconst (v := 0) hx hb d_Buffer_append_22 (by decide) ?_
  obtain rfl := Option.some.inj hf
  exact r_zretW X I (Or.inl rfl) d_Buffer_append_23

set_option maxHeartbeats 4000000 in
set_option maxRecDepth 100000 in
theorem w_Buffer_append {h0 : Nat} {r : Int32 × mM} (X : mX p m meth c s args b_Buffer_append 4 (some .boolean) "ColourLinker$Buffer") (G : mG D cA dA z0 s) {H : Heap} {locs : List Loc} {μ : mM} {ls : Array Slot} {x1 : Int32} {x2 : Int32} (I : mI D cA z0 s μ H locs s.heap.size) (hf : f_Buffer_append h0 μ x1 x2 = some r) (hl : lv_has ls 4 [(0, va_rf (some h0)), (1, .int x1), (2, .int x2)]) : W p l e rm_Buffer_append s m args below meth c H locs 0 0 (MQ below (mQW D cA z0 (some (.int r.1)) r.2) args s 0 0 (mA z0)) (F0 m 0 ls []) := by
  have hx := X.ex
  have hb := X.by_
  unfold f_Buffer_append at hf
  refine lv_iload_n hx hb d_Buffer_append_0 rfl (lv_at hl 2 rfl) ?_
  refine lv_iconst (v := 1) hx hb d_Buffer_append_1 (by decide) ?_
  refine lv_icmp_lt (tgt := 22) hx hb d_Buffer_append_2 (by decide) (fun hc => ?_) (fun hc => ?_)
  · have hf := mift hf hc
    exact w_Buffer_append_22 X G I hf (lv_sub hl [0] rfl)
  · have hf := miff hf hc
    refine lv_iload_n hx hb d_Buffer_append_5 rfl (lv_at hl 2 rfl) ?_
    refine lv_iconst (v := 4) hx hb d_Buffer_append_6 (by decide) ?_
    refine lv_icmp_gt (tgt := 22) hx hb d_Buffer_append_7 (by decide) (fun hc => ?_) (fun hc => ?_)
    · have hf := mift hf hc
      exact w_Buffer_append_22 X G I hf (lv_sub hl [0] rfl)
    · have hf := miff hf hc
      refine r_aload_n X d_Buffer_append_10 rfl (lv_at hl 0 rfl) ?_
      obtain ⟨v1, hv, hf⟩ := mbind hf
      refine r_getf X G I (mfI_e hv) o_Buffer_count k_106 (Or.inl rfl) d_Buffer_append_11 ?_
      refine lv_iload_n hx hb d_Buffer_append_14 rfl (lv_at hl 2 rfl) ?_
      refine lv_iadd hx hb d_Buffer_append_15 ?_
      refine lv_sipush (v := 256) hx hb d_Buffer_append_16 (by decide) ?_
      refine lv_icmp_le (tgt := 24) hx hb d_Buffer_append_19 (by decide) (fun hc => ?_) (fun hc => ?_)
      · have hf := mift hf hc
        refine lv_iload_n hx hb d_Buffer_append_24 rfl (lv_at hl 2 rfl) ?_
        refine lv_iconst (v := 1) hx hb d_Buffer_append_25 (by decide) ?_
        refine lv_isub hx hb d_Buffer_append_26 ?_
        refine lv_istore_n (i := 3) (lv' := [(3, .int (x2 - (1 : Int32))), (0, va_rf (some h0)), (1, .int x1), (2, .int x2)]) hx hb d_Buffer_append_27 rfl hl (by decide) rfl (fun ls hl => ?_)
        exact w_Buffer_append_28 X G (fun H locs μ ls I hf hl => w_Buffer_append_67 X G I hf hl) 4096 _ _ _ _ _ _ I hf (lv_sub hl [1, 2, 0] rfl)
      · have hf := miff hf hc
        exact w_Buffer_append_22 X G I hf (lv_sub hl [0] rfl)

set_option maxHeartbeats 4000000 in
set_option maxRecDepth 100000 in
theorem c_Buffer_append {l : Launch} {D : va_G} {cA : Nat → ClassId} {dA z0 : Nat} {μ : mM} {h0 : Nat} {x1 : Int32} {x2 : Int32} {r : Int32 × mM} (hf : f_Buffer_append h0 μ x1 x2 = some r) : Met l y_Buffer_append (mW y_Buffer_append b_Buffer_append 4 (some .boolean)) rm_Buffer_append (va_Pc [.ref h0, .int x1, .int x2] (mPr D cA dA z0 μ)) (mQW D cA z0 (some (.int r.1)) r.2) 0 0 (mA z0) := by
  refine Met.ofW (cc := b_Buffer_append) (maxL := 4) (ret := (some .boolean)) (by decide) rfl ?_
  intro p e s m args below meth c s₁ B hml hv
  obtain ⟨rfl, G, hP⟩ := hv
  have X := mX.of B hml
  exact m_entry (lv := [(0, va_rf (some h0)), (1, .int x1), (2, .int x2)]) (Nat.le_of_ble_eq_true rfl) rfl (fun ls hl => w_Buffer_append X G (mI.start hP) hf hl)

abbrev rm_CL_add : Room := { frames := 1, cells := 0, slots := 0, locals := 23 }
theorem h_CL_add : mCV y_CL_add b_CL_add 3 (some .boolean) 2 := ⟨k_183, k_75, ⟨by decide, by decide, by decide +kernel⟩, k_181, k_182⟩
set_option maxHeartbeats 4000000 in
set_option maxRecDepth 100000 in
theorem w_CL_add {h0 : Nat} {r : Int32 × mM} (X : mX p m meth c s args b_CL_add 3 (some .boolean) "ColourLinker") (G : mG D cA dA z0 s) {H : Heap} {locs : List Loc} {μ : mM} {ls : Array Slot} {x1 : Int32} {x2 : Int32} (I : mI D cA z0 s μ H locs s.heap.size) (hf : f_CL_add h0 μ x1 x2 = some r) (hl : lv_has ls 3 [(0, va_rf (some h0)), (1, .int x1), (2, .int x2)]) : W p l e rm_CL_add s m args below meth c H locs 0 0 (MQ below (mQW D cA z0 (some (.int r.1)) r.2) args s 0 0 (mA z0)) (F0 m 0 ls []) := by
  have hx := X.ex
  have hb := X.by_
  unfold f_CL_add at hf
  refine r_aload_n X d_CL_add_0 rfl (lv_at hl 0 rfl) ?_
  obtain ⟨v1, hv, hf⟩ := mbind hf
  refine r_getf X G I (mfA_e hv) o_CL_buffer k_146 (Or.inl rfl) d_CL_add_1 ?_
  refine lv_iload_n hx hb d_CL_add_4 rfl (lv_at hl 1 rfl) ?_
  refine lv_iload_n hx hb d_CL_add_5 rfl (lv_at hl 2 rfl) ?_
  obtain ⟨q2, hv, hf⟩ := mbind hf
  obtain ⟨a, ha, hv⟩ := mbind hv
  obtain ⟨ha, fs, hm⟩ := mrc_e ha
  refine m_caW (m_runV (As := [.int x1, .int x2]) (r := v1) (rest := []) X G I h_Buffer_append k_184 (c_Buffer_append hv) mPr_blind (m_pre G I) hm rfl ha rfl rfl hl.1 (Nat.le_of_ble_eq_true rfl) rfl rfl ⟨Nat.le_of_ble_eq_true rfl, Nat.le_of_ble_eq_true rfl⟩ ⟨Nat.le_refl _, Nat.le_refl _⟩ d_CL_add_6) I (fun H locs I => ?_)
  obtain ⟨v3, hv, hf⟩ := mbind hf
  obtain ⟨hz0, hz⟩ := mz_e hv
  rw [hz0] at hf
  obtain rfl := Option.some.inj hf
  exact r_zretW X I hz d_CL_add_9

set_option maxHeartbeats 4000000 in
set_option maxRecDepth 100000 in
theorem c_CL_add {l : Launch} {D : va_G} {cA : Nat → ClassId} {dA z0 : Nat} {μ : mM} {h0 : Nat} {x1 : Int32} {x2 : Int32} {r : Int32 × mM} (hf : f_CL_add h0 μ x1 x2 = some r) : Met l y_CL_add (mW y_CL_add b_CL_add 3 (some .boolean)) rm_CL_add (va_Pc [.ref h0, .int x1, .int x2] (mPr D cA dA z0 μ)) (mQW D cA z0 (some (.int r.1)) r.2) 0 0 (mA z0) := by
  refine Met.ofW (cc := b_CL_add) (maxL := 3) (ret := (some .boolean)) (by decide) rfl ?_
  intro p e s m args below meth c s₁ B hml hv
  obtain ⟨rfl, G, hP⟩ := hv
  have X := mX.of B hml
  exact m_entry (lv := [(0, va_rf (some h0)), (1, .int x1), (2, .int x2)]) (Nat.le_of_ble_eq_true rfl) rfl (fun ls hl => w_CL_add X G (mI.start hP) hf hl)

abbrev rm_Mo_add : Room := { frames := 0, cells := 0, slots := 0, locals := 0 }
theorem h_Mo_add : mCV y_Mo_add b_Mo_add 4 (some .boolean) 2 := ⟨k_902, k_79, ⟨by decide, by decide, by decide +kernel⟩, k_900, k_901⟩
set_option maxHeartbeats 4000000 in
set_option maxRecDepth 100000 in
theorem w_Mo_add_67 {h0 : Nat} {r : Int32 × mM} (X : mX p m meth c s args b_Mo_add 4 (some .boolean) "ColourLinkerModel") (G : mG D cA dA z0 s) {H : Heap} {locs : List Loc} {μ : mM} {ls : Array Slot}  (I : mI D cA z0 s μ H locs s.heap.size) (hf : f_Mo_add_67 h0 μ = some r) (hl : lv_has ls 4 [(0, va_rf (some h0))]) : W p l e rm_Mo_add s m args below meth c H locs 0 0 (MQ below (mQW D cA z0 (some (.int r.1)) r.2) args s 0 0 (mA z0)) (F0 m 67 ls []) := by
  have hx := X.ex
  have hb := X.by_
  unfold f_Mo_add_67 at hf
  refine lv_iconst (v := 1) hx hb d_Mo_add_67 (by decide) ?_
  obtain rfl := Option.some.inj hf
  exact r_zretW X I (Or.inr rfl) d_Mo_add_68

set_option maxHeartbeats 4000000 in
set_option maxRecDepth 100000 in
theorem w_Mo_add_28 {h0 : Nat} {r : Int32 × mM} (X : mX p m meth c s args b_Mo_add 4 (some .boolean) "ColourLinkerModel") (G : mG D cA dA z0 s) {kx67 : mM → Option (Int32 × mM)} (hkx67 : ∀ (H : Heap) (locs : List Loc) (μ : mM) (ls : Array Slot), mI D cA z0 s μ H locs s.heap.size → kx67 μ = some r → lv_has ls 4 [(0, va_rf (some h0))] → W p l e rm_Mo_add s m args below meth c H locs 0 0 (MQ below (mQW D cA z0 (some (.int r.1)) r.2) args s 0 0 (mA z0)) (F0 m 67 ls [])) : ∀ (n : Nat) (H : Heap) (locs : List Loc) (μ : mM) (ls : Array Slot) (x1 : Int32) (x3 : Int32), mI D cA z0 s μ H locs s.heap.size → f_Mo_add_28 h0 kx67 n μ x1 x3 = some r → lv_has ls 4 [(0, va_rf (some h0)), (1, .int x1), (3, .int x3)] → W p l e rm_Mo_add s m args below meth c H locs 0 0 (MQ below (mQW D cA z0 (some (.int r.1)) r.2) args s 0 0 (mA z0)) (F0 m 28 ls []) := by
  have hx := X.ex
  have hb := X.by_
  intro n
  induction n with
  | zero => intro H locs μ ls x1 x3 I hf hl; rw [f_Mo_add_28] at hf; cases hf
  | succ n ih =>
    intro H locs μ ls x1 x3 I hf hl
    rw [f_Mo_add_28] at hf
    refine lv_iload_n hx hb d_Mo_add_28 rfl (lv_at hl 2 rfl) ?_
    refine lv_if_lt (tgt := 67) hx hb d_Mo_add_29 (by decide) (fun hc => ?_) (fun hc => ?_)
    · have hf := mift hf hc
      exact hkx67 _ _ _ _ I hf (lv_sub hl [0] rfl)
    · have hf := miff hf hc
      refine r_aload_n X d_Mo_add_32 rfl (lv_at hl 0 rfl) ?_
      obtain ⟨v2, hv, hf⟩ := mbind hf
      refine r_getf X G I (mfA_e hv) o_Mo_buffer k_834 (Or.inl rfl) d_Mo_add_33 ?_
      refine r_aload_n X d_Mo_add_36 rfl (lv_at hl 0 rfl) ?_
      obtain ⟨v3, hv, hf⟩ := mbind hf
      refine r_getf X G I (mfI_e hv) o_Mo_size k_835 (Or.inl rfl) d_Mo_add_37 ?_
      refine lv_iload_n hx hb d_Mo_add_40 rfl (lv_at hl 1 rfl) ?_
      refine lv_bipush (v := 8) hx hb d_Mo_add_41 (by decide) ?_
      refine lv_iload_n hx hb d_Mo_add_43 rfl (lv_at hl 2 rfl) ?_
      refine lv_imul hx hb d_Mo_add_44 ?_
      refine lv_ishr hx hb d_Mo_add_45 ?_
      refine lv_sipush (v := 255) hx hb d_Mo_add_46 (by decide) ?_
      refine lv_iand hx hb d_Mo_add_49 ?_
      obtain ⟨m4, hv, hf⟩ := mbind hf
      refine r_iast X G I hv d_Mo_add_50 (fun H locs I => ?_)
      refine r_aload_n X d_Mo_add_51 rfl (lv_at hl 0 rfl) ?_
      refine lv_dup hx hb d_Mo_add_52 (mrf_cat _) ?_
      obtain ⟨v5, hv, hf⟩ := mbind hf
      refine r_getf X G I (mfI_e hv) o_Mo_size k_835 (Or.inl rfl) d_Mo_add_53 ?_
      refine lv_iconst (v := 1) hx hb d_Mo_add_56 (by decide) ?_
      refine lv_iadd hx hb d_Mo_add_57 ?_
      obtain ⟨m6, hv, hf⟩ := mbind hf
      refine r_put (ty := .int) X G I hv o_Mo_size k_835 (Or.inl rfl) (by decide) rfl rfl d_Mo_add_58 (fun H locs I => ?_)
      refine lv_iinc (i := 3) (k := 2) (v := (x3 + (-1 : Int32))) (lv' := [(3, .int (x3 + (-1 : Int32))), (0, va_rf (some h0)), (1, .int x1)]) hx hb d_Mo_add_61 hl rfl (congrArg (fun t => x3 + t) (by decide : Int32.ofInt (-1) = (-1 : Int32))) (by decide) rfl (fun ls hl => ?_)
      refine lv_goto (tgt := 28) hx hb d_Mo_add_64 (by decide) ?_
      exact ih _ _ _ _ _ _ I hf (lv_sub hl [1, 2, 0] rfl)

set_option maxHeartbeats 4000000 in
set_option maxRecDepth 100000 in
theorem w_Mo_add_22 {h0 : Nat} {r : Int32 × mM} (X : mX p m meth c s args b_Mo_add 4 (some .boolean) "ColourLinkerModel") (G : mG D cA dA z0 s) {H : Heap} {locs : List Loc} {μ : mM} {ls : Array Slot}  (I : mI D cA z0 s μ H locs s.heap.size) (hf : f_Mo_add_22 h0 μ = some r) (hl : lv_has ls 4 [(0, va_rf (some h0))]) : W p l e rm_Mo_add s m args below meth c H locs 0 0 (MQ below (mQW D cA z0 (some (.int r.1)) r.2) args s 0 0 (mA z0)) (F0 m 22 ls []) := by
  have hx := X.ex
  have hb := X.by_
  unfold f_Mo_add_22 at hf
  refine lv_iconst (v := 0) hx hb d_Mo_add_22 (by decide) ?_
  obtain rfl := Option.some.inj hf
  exact r_zretW X I (Or.inl rfl) d_Mo_add_23

set_option maxHeartbeats 4000000 in
set_option maxRecDepth 100000 in
theorem w_Mo_add {h0 : Nat} {r : Int32 × mM} (X : mX p m meth c s args b_Mo_add 4 (some .boolean) "ColourLinkerModel") (G : mG D cA dA z0 s) {H : Heap} {locs : List Loc} {μ : mM} {ls : Array Slot} {x1 : Int32} {x2 : Int32} (I : mI D cA z0 s μ H locs s.heap.size) (hf : f_Mo_add h0 μ x1 x2 = some r) (hl : lv_has ls 4 [(0, va_rf (some h0)), (1, .int x1), (2, .int x2)]) : W p l e rm_Mo_add s m args below meth c H locs 0 0 (MQ below (mQW D cA z0 (some (.int r.1)) r.2) args s 0 0 (mA z0)) (F0 m 0 ls []) := by
  have hx := X.ex
  have hb := X.by_
  unfold f_Mo_add at hf
  refine lv_iload_n hx hb d_Mo_add_0 rfl (lv_at hl 2 rfl) ?_
  refine lv_iconst (v := 1) hx hb d_Mo_add_1 (by decide) ?_
  refine lv_icmp_lt (tgt := 22) hx hb d_Mo_add_2 (by decide) (fun hc => ?_) (fun hc => ?_)
  · have hf := mift hf hc
    exact w_Mo_add_22 X G I hf (lv_sub hl [0] rfl)
  · have hf := miff hf hc
    refine lv_iload_n hx hb d_Mo_add_5 rfl (lv_at hl 2 rfl) ?_
    refine lv_iconst (v := 4) hx hb d_Mo_add_6 (by decide) ?_
    refine lv_icmp_gt (tgt := 22) hx hb d_Mo_add_7 (by decide) (fun hc => ?_) (fun hc => ?_)
    · have hf := mift hf hc
      exact w_Mo_add_22 X G I hf (lv_sub hl [0] rfl)
    · have hf := miff hf hc
      refine r_aload_n X d_Mo_add_10 rfl (lv_at hl 0 rfl) ?_
      obtain ⟨v1, hv, hf⟩ := mbind hf
      refine r_getf X G I (mfI_e hv) o_Mo_size k_835 (Or.inl rfl) d_Mo_add_11 ?_
      refine lv_sipush (v := 256) hx hb d_Mo_add_14 (by decide) ?_
      refine lv_iload_n hx hb d_Mo_add_17 rfl (lv_at hl 2 rfl) ?_
      refine lv_isub hx hb d_Mo_add_18 ?_
      refine lv_icmp_le (tgt := 24) hx hb d_Mo_add_19 (by decide) (fun hc => ?_) (fun hc => ?_)
      · have hf := mift hf hc
        refine lv_iload_n hx hb d_Mo_add_24 rfl (lv_at hl 2 rfl) ?_
        refine lv_iconst (v := 1) hx hb d_Mo_add_25 (by decide) ?_
        refine lv_isub hx hb d_Mo_add_26 ?_
        refine lv_istore_n (i := 3) (lv' := [(3, .int (x2 - (1 : Int32))), (0, va_rf (some h0)), (1, .int x1), (2, .int x2)]) hx hb d_Mo_add_27 rfl hl (by decide) rfl (fun ls hl => ?_)
        exact w_Mo_add_28 X G (fun H locs μ ls I hf hl => w_Mo_add_67 X G I hf hl) 4096 _ _ _ _ _ _ I hf (lv_sub hl [1, 2, 0] rfl)
      · have hf := miff hf hc
        exact w_Mo_add_22 X G I hf (lv_sub hl [0] rfl)

set_option maxHeartbeats 4000000 in
set_option maxRecDepth 100000 in
theorem c_Mo_add {l : Launch} {D : va_G} {cA : Nat → ClassId} {dA z0 : Nat} {μ : mM} {h0 : Nat} {x1 : Int32} {x2 : Int32} {r : Int32 × mM} (hf : f_Mo_add h0 μ x1 x2 = some r) : Met l y_Mo_add (mW y_Mo_add b_Mo_add 4 (some .boolean)) rm_Mo_add (va_Pc [.ref h0, .int x1, .int x2] (mPr D cA dA z0 μ)) (mQW D cA z0 (some (.int r.1)) r.2) 0 0 (mA z0) := by
  refine Met.ofW (cc := b_Mo_add) (maxL := 4) (ret := (some .boolean)) (by decide) rfl ?_
  intro p e s m args below meth c s₁ B hml hv
  obtain ⟨rfl, G, hP⟩ := hv
  have X := mX.of B hml
  exact m_entry (lv := [(0, va_rf (some h0)), (1, .int x1), (2, .int x2)]) (Nat.le_of_ble_eq_true rfl) rfl (fun ls hl => w_Mo_add X G (mI.start hP) hf hl)

abbrev rm_Buffer_replace : Room := { frames := 0, cells := 0, slots := 0, locals := 0 }
theorem h_Buffer_replace : mCV y_Buffer_replace b_Buffer_replace 3 (some .boolean) 2 := ⟨k_195, k_76, ⟨by decide, by decide, by decide +kernel⟩, k_193, k_194⟩
set_option maxHeartbeats 4000000 in
set_option maxRecDepth 100000 in
theorem w_Buffer_replace_23 {h0 : Nat} {r : Int32 × mM} (X : mX p m meth c s args b_Buffer_replace 3 (some .boolean) "ColourLinker$Buffer") (G : mG D cA dA z0 s) {H : Heap} {locs : List Loc} {μ : mM} {ls : Array Slot}  (I : mI D cA z0 s μ H locs s.heap.size) (hf : f_Buffer_replace_23 h0 μ = some r) (hl : lv_has ls 3 [(0, va_rf (some h0))]) : W p l e rm_Buffer_replace s m args below meth c H locs 0 0 (MQ below (mQW D cA z0 (some (.int r.1)) r.2) args s 0 0 (mA z0)) (F0 m 23 ls []) := by
  have hx := X.ex
  have hb := X.by_
  unfold f_Buffer_replace_23 at hf
  refine lv_iconst (v := 0) hx hb d_Buffer_replace_23 (by decide) ?_
  obtain rfl := Option.some.inj hf
  exact r_zretW X I (Or.inl rfl) d_Buffer_replace_24

set_option maxHeartbeats 4000000 in
set_option maxRecDepth 100000 in
theorem w_Buffer_replace {h0 : Nat} {r : Int32 × mM} (X : mX p m meth c s args b_Buffer_replace 3 (some .boolean) "ColourLinker$Buffer") (G : mG D cA dA z0 s) {H : Heap} {locs : List Loc} {μ : mM} {ls : Array Slot} {x1 : Int32} {x2 : Int32} (I : mI D cA z0 s μ H locs s.heap.size) (hf : f_Buffer_replace h0 μ x1 x2 = some r) (hl : lv_has ls 3 [(0, va_rf (some h0)), (1, .int x1), (2, .int x2)]) : W p l e rm_Buffer_replace s m args below meth c H locs 0 0 (MQ below (mQW D cA z0 (some (.int r.1)) r.2) args s 0 0 (mA z0)) (F0 m 0 ls []) := by
  have hx := X.ex
  have hb := X.by_
  unfold f_Buffer_replace at hf
  refine lv_iload_n hx hb d_Buffer_replace_0 rfl (lv_at hl 1 rfl) ?_
  refine lv_if_lt (tgt := 23) hx hb d_Buffer_replace_1 (by decide) (fun hc => ?_) (fun hc => ?_)
  · have hf := mift hf hc
    exact w_Buffer_replace_23 X G I hf (lv_sub hl [0] rfl)
  · have hf := miff hf hc
    refine lv_iload_n hx hb d_Buffer_replace_4 rfl (lv_at hl 1 rfl) ?_
    refine r_aload_n X d_Buffer_replace_5 rfl (lv_at hl 0 rfl) ?_
    obtain ⟨v1, hv, hf⟩ := mbind hf
    refine r_getf X G I (mfI_e hv) o_Buffer_count k_106 (Or.inl rfl) d_Buffer_replace_6 ?_
    refine lv_icmp_ge (tgt := 23) hx hb d_Buffer_replace_9 (by decide) (fun hc => ?_) (fun hc => ?_)
    · have hf := mift hf hc
      exact w_Buffer_replace_23 X G I hf (lv_sub hl [0] rfl)
    · have hf := miff hf hc
      refine lv_iload_n hx hb d_Buffer_replace_12 rfl (lv_at hl 2 rfl) ?_
      refine lv_if_lt (tgt := 23) hx hb d_Buffer_replace_13 (by decide) (fun hc => ?_) (fun hc => ?_)
      · have hf := mift hf hc
        exact w_Buffer_replace_23 X G I hf (lv_sub hl [0] rfl)
      · have hf := miff hf hc
        refine lv_iload_n hx hb d_Buffer_replace_16 rfl (lv_at hl 2 rfl) ?_
        refine lv_sipush (v := 255) hx hb d_Buffer_replace_17 (by decide) ?_
        refine lv_icmp_le (tgt := 25) hx hb d_Buffer_replace_20 (by decide) (fun hc => ?_) (fun hc => ?_)
        · have hf := mift hf hc
          refine r_aload_n X d_Buffer_replace_25 rfl (lv_at hl 0 rfl) ?_
          obtain ⟨v2, hv, hf⟩ := mbind hf
          refine r_getf X G I (mfA_e hv) o_Buffer_row k_105 (Or.inl rfl) d_Buffer_replace_26 ?_
          refine lv_iload_n hx hb d_Buffer_replace_29 rfl (lv_at hl 1 rfl) ?_
          refine lv_iload_n hx hb d_Buffer_replace_30 rfl (lv_at hl 2 rfl) ?_
          obtain ⟨m3, hv, hf⟩ := mbind hf
          refine r_iast X G I hv d_Buffer_replace_31 (fun H locs I => ?_)
          refine lv_iconst (v := 1) hx hb d_Buffer_replace_32 (by decide) ?_
          obtain rfl := Option.some.inj hf
          exact r_zretW X I (Or.inr rfl) d_Buffer_replace_33
        · have hf := miff hf hc
          exact w_Buffer_replace_23 X G I hf (lv_sub hl [0] rfl)

set_option maxHeartbeats 4000000 in
set_option maxRecDepth 100000 in
theorem c_Buffer_replace {l : Launch} {D : va_G} {cA : Nat → ClassId} {dA z0 : Nat} {μ : mM} {h0 : Nat} {x1 : Int32} {x2 : Int32} {r : Int32 × mM} (hf : f_Buffer_replace h0 μ x1 x2 = some r) : Met l y_Buffer_replace (mW y_Buffer_replace b_Buffer_replace 3 (some .boolean)) rm_Buffer_replace (va_Pc [.ref h0, .int x1, .int x2] (mPr D cA dA z0 μ)) (mQW D cA z0 (some (.int r.1)) r.2) 0 0 (mA z0) := by
  refine Met.ofW (cc := b_Buffer_replace) (maxL := 3) (ret := (some .boolean)) (by decide) rfl ?_
  intro p e s m args below meth c s₁ B hml hv
  obtain ⟨rfl, G, hP⟩ := hv
  have X := mX.of B hml
  exact m_entry (lv := [(0, va_rf (some h0)), (1, .int x1), (2, .int x2)]) (Nat.le_of_ble_eq_true rfl) rfl (fun ls hl => w_Buffer_replace X G (mI.start hP) hf hl)

abbrev rm_CL_set : Room := { frames := 1, cells := 0, slots := 0, locals := 22 }
theorem h_CL_set : mCV y_CL_set b_CL_set 3 (some .boolean) 2 := ⟨k_191, k_75, ⟨by decide, by decide, by decide +kernel⟩, k_189, k_190⟩
set_option maxHeartbeats 4000000 in
set_option maxRecDepth 100000 in
theorem w_CL_set {h0 : Nat} {r : Int32 × mM} (X : mX p m meth c s args b_CL_set 3 (some .boolean) "ColourLinker") (G : mG D cA dA z0 s) {H : Heap} {locs : List Loc} {μ : mM} {ls : Array Slot} {x1 : Int32} {x2 : Int32} (I : mI D cA z0 s μ H locs s.heap.size) (hf : f_CL_set h0 μ x1 x2 = some r) (hl : lv_has ls 3 [(0, va_rf (some h0)), (1, .int x1), (2, .int x2)]) : W p l e rm_CL_set s m args below meth c H locs 0 0 (MQ below (mQW D cA z0 (some (.int r.1)) r.2) args s 0 0 (mA z0)) (F0 m 0 ls []) := by
  have hx := X.ex
  have hb := X.by_
  unfold f_CL_set at hf
  refine r_aload_n X d_CL_set_0 rfl (lv_at hl 0 rfl) ?_
  obtain ⟨v1, hv, hf⟩ := mbind hf
  refine r_getf X G I (mfA_e hv) o_CL_buffer k_146 (Or.inl rfl) d_CL_set_1 ?_
  refine lv_iload_n hx hb d_CL_set_4 rfl (lv_at hl 1 rfl) ?_
  refine lv_iload_n hx hb d_CL_set_5 rfl (lv_at hl 2 rfl) ?_
  obtain ⟨q2, hv, hf⟩ := mbind hf
  obtain ⟨a, ha, hv⟩ := mbind hv
  obtain ⟨ha, fs, hm⟩ := mrc_e ha
  refine m_caW (m_runV (As := [.int x1, .int x2]) (r := v1) (rest := []) X G I h_Buffer_replace k_192 (c_Buffer_replace hv) mPr_blind (m_pre G I) hm rfl ha rfl rfl hl.1 (Nat.le_of_ble_eq_true rfl) rfl rfl ⟨Nat.le_of_ble_eq_true rfl, Nat.le_of_ble_eq_true rfl⟩ ⟨Nat.le_refl _, Nat.le_refl _⟩ d_CL_set_6) I (fun H locs I => ?_)
  obtain ⟨v3, hv, hf⟩ := mbind hf
  obtain ⟨hz0, hz⟩ := mz_e hv
  rw [hz0] at hf
  obtain rfl := Option.some.inj hf
  exact r_zretW X I hz d_CL_set_9

set_option maxHeartbeats 4000000 in
set_option maxRecDepth 100000 in
theorem c_CL_set {l : Launch} {D : va_G} {cA : Nat → ClassId} {dA z0 : Nat} {μ : mM} {h0 : Nat} {x1 : Int32} {x2 : Int32} {r : Int32 × mM} (hf : f_CL_set h0 μ x1 x2 = some r) : Met l y_CL_set (mW y_CL_set b_CL_set 3 (some .boolean)) rm_CL_set (va_Pc [.ref h0, .int x1, .int x2] (mPr D cA dA z0 μ)) (mQW D cA z0 (some (.int r.1)) r.2) 0 0 (mA z0) := by
  refine Met.ofW (cc := b_CL_set) (maxL := 3) (ret := (some .boolean)) (by decide) rfl ?_
  intro p e s m args below meth c s₁ B hml hv
  obtain ⟨rfl, G, hP⟩ := hv
  have X := mX.of B hml
  exact m_entry (lv := [(0, va_rf (some h0)), (1, .int x1), (2, .int x2)]) (Nat.le_of_ble_eq_true rfl) rfl (fun ls hl => w_CL_set X G (mI.start hP) hf hl)

abbrev rm_Mo_set : Room := { frames := 0, cells := 0, slots := 0, locals := 0 }
theorem h_Mo_set : mCV y_Mo_set b_Mo_set 3 (some .boolean) 2 := ⟨k_906, k_79, ⟨by decide, by decide, by decide +kernel⟩, k_904, k_905⟩
set_option maxHeartbeats 4000000 in
set_option maxRecDepth 100000 in
theorem w_Mo_set_23 {h0 : Nat} {r : Int32 × mM} (X : mX p m meth c s args b_Mo_set 3 (some .boolean) "ColourLinkerModel") (G : mG D cA dA z0 s) {H : Heap} {locs : List Loc} {μ : mM} {ls : Array Slot}  (I : mI D cA z0 s μ H locs s.heap.size) (hf : f_Mo_set_23 h0 μ = some r) (hl : lv_has ls 3 [(0, va_rf (some h0))]) : W p l e rm_Mo_set s m args below meth c H locs 0 0 (MQ below (mQW D cA z0 (some (.int r.1)) r.2) args s 0 0 (mA z0)) (F0 m 23 ls []) := by
  have hx := X.ex
  have hb := X.by_
  unfold f_Mo_set_23 at hf
  refine lv_iconst (v := 0) hx hb d_Mo_set_23 (by decide) ?_
  obtain rfl := Option.some.inj hf
  exact r_zretW X I (Or.inl rfl) d_Mo_set_24

set_option maxHeartbeats 4000000 in
set_option maxRecDepth 100000 in
theorem w_Mo_set {h0 : Nat} {r : Int32 × mM} (X : mX p m meth c s args b_Mo_set 3 (some .boolean) "ColourLinkerModel") (G : mG D cA dA z0 s) {H : Heap} {locs : List Loc} {μ : mM} {ls : Array Slot} {x1 : Int32} {x2 : Int32} (I : mI D cA z0 s μ H locs s.heap.size) (hf : f_Mo_set h0 μ x1 x2 = some r) (hl : lv_has ls 3 [(0, va_rf (some h0)), (1, .int x1), (2, .int x2)]) : W p l e rm_Mo_set s m args below meth c H locs 0 0 (MQ below (mQW D cA z0 (some (.int r.1)) r.2) args s 0 0 (mA z0)) (F0 m 0 ls []) := by
  have hx := X.ex
  have hb := X.by_
  unfold f_Mo_set at hf
  refine lv_iload_n hx hb d_Mo_set_0 rfl (lv_at hl 1 rfl) ?_
  refine lv_if_lt (tgt := 23) hx hb d_Mo_set_1 (by decide) (fun hc => ?_) (fun hc => ?_)
  · have hf := mift hf hc
    exact w_Mo_set_23 X G I hf (lv_sub hl [0] rfl)
  · have hf := miff hf hc
    refine lv_iload_n hx hb d_Mo_set_4 rfl (lv_at hl 1 rfl) ?_
    refine r_aload_n X d_Mo_set_5 rfl (lv_at hl 0 rfl) ?_
    obtain ⟨v1, hv, hf⟩ := mbind hf
    refine r_getf X G I (mfI_e hv) o_Mo_size k_835 (Or.inl rfl) d_Mo_set_6 ?_
    refine lv_icmp_ge (tgt := 23) hx hb d_Mo_set_9 (by decide) (fun hc => ?_) (fun hc => ?_)
    · have hf := mift hf hc
      exact w_Mo_set_23 X G I hf (lv_sub hl [0] rfl)
    · have hf := miff hf hc
      refine lv_iload_n hx hb d_Mo_set_12 rfl (lv_at hl 2 rfl) ?_
      refine lv_if_lt (tgt := 23) hx hb d_Mo_set_13 (by decide) (fun hc => ?_) (fun hc => ?_)
      · have hf := mift hf hc
        exact w_Mo_set_23 X G I hf (lv_sub hl [0] rfl)
      · have hf := miff hf hc
        refine lv_iload_n hx hb d_Mo_set_16 rfl (lv_at hl 2 rfl) ?_
        refine lv_sipush (v := 255) hx hb d_Mo_set_17 (by decide) ?_
        refine lv_icmp_le (tgt := 25) hx hb d_Mo_set_20 (by decide) (fun hc => ?_) (fun hc => ?_)
        · have hf := mift hf hc
          refine r_aload_n X d_Mo_set_25 rfl (lv_at hl 0 rfl) ?_
          obtain ⟨v2, hv, hf⟩ := mbind hf
          refine r_getf X G I (mfA_e hv) o_Mo_buffer k_834 (Or.inl rfl) d_Mo_set_26 ?_
          refine lv_iload_n hx hb d_Mo_set_29 rfl (lv_at hl 1 rfl) ?_
          refine lv_iload_n hx hb d_Mo_set_30 rfl (lv_at hl 2 rfl) ?_
          obtain ⟨m3, hv, hf⟩ := mbind hf
          refine r_iast X G I hv d_Mo_set_31 (fun H locs I => ?_)
          refine lv_iconst (v := 1) hx hb d_Mo_set_32 (by decide) ?_
          obtain rfl := Option.some.inj hf
          exact r_zretW X I (Or.inr rfl) d_Mo_set_33
        · have hf := miff hf hc
          exact w_Mo_set_23 X G I hf (lv_sub hl [0] rfl)

set_option maxHeartbeats 4000000 in
set_option maxRecDepth 100000 in
theorem c_Mo_set {l : Launch} {D : va_G} {cA : Nat → ClassId} {dA z0 : Nat} {μ : mM} {h0 : Nat} {x1 : Int32} {x2 : Int32} {r : Int32 × mM} (hf : f_Mo_set h0 μ x1 x2 = some r) : Met l y_Mo_set (mW y_Mo_set b_Mo_set 3 (some .boolean)) rm_Mo_set (va_Pc [.ref h0, .int x1, .int x2] (mPr D cA dA z0 μ)) (mQW D cA z0 (some (.int r.1)) r.2) 0 0 (mA z0) := by
  refine Met.ofW (cc := b_Mo_set) (maxL := 3) (ret := (some .boolean)) (by decide) rfl ?_
  intro p e s m args below meth c s₁ B hml hv
  obtain ⟨rfl, G, hP⟩ := hv
  have X := mX.of B hml
  exact m_entry (lv := [(0, va_rf (some h0)), (1, .int x1), (2, .int x2)]) (Nat.le_of_ble_eq_true rfl) rfl (fun ls hl => w_Mo_set X G (mI.start hP) hf hl)

abbrev rm_CL_clear : Room := { frames := 0, cells := 0, slots := 0, locals := 0 }
theorem h_CL_clear : mCV y_CL_clear b_CL_clear 1 none 0 := ⟨k_199, k_75, ⟨by decide, by decide, by decide +kernel⟩, k_197, k_198⟩
set_option maxHeartbeats 4000000 in
set_option maxRecDepth 100000 in
theorem w_CL_clear {h0 : Nat} {r : mM} (X : mX p m meth c s args b_CL_clear 1 none "ColourLinker") (G : mG D cA dA z0 s) {H : Heap} {locs : List Loc} {μ : mM} {ls : Array Slot}  (I : mI D cA z0 s μ H locs s.heap.size) (hf : f_CL_clear h0 μ = some r) (hl : lv_has ls 1 [(0, va_rf (some h0))]) : W p l e rm_CL_clear s m args below meth c H locs 0 0 (MQ below (mQW D cA z0 none r) args s 0 0 (mA z0)) (F0 m 0 ls []) := by
  have hx := X.ex
  have hb := X.by_
  unfold f_CL_clear at hf
  refine r_aload_n X d_CL_clear_0 rfl (lv_at hl 0 rfl) ?_
  obtain ⟨v1, hv, hf⟩ := mbind hf
  refine r_getf X G I (mfA_e hv) o_CL_buffer k_146 (Or.inl rfl) d_CL_clear_1 ?_
  refine lv_iconst (v := 0) hx hb d_CL_clear_4 (by decide) ?_
  obtain ⟨m2, hv, hf⟩ := mbind hf
  refine r_putN (ty := .int) X G I hv o_Buffer_count k_107 (Or.inl rfl) (by decide) rfl rfl d_CL_clear_5 (fun H locs I => ?_)
  obtain rfl := Option.some.inj hf
  exact r_vretW X I d_CL_clear_8

set_option maxHeartbeats 4000000 in
set_option maxRecDepth 100000 in
theorem c_CL_clear {l : Launch} {D : va_G} {cA : Nat → ClassId} {dA z0 : Nat} {μ : mM} {h0 : Nat} {r : mM} (hf : f_CL_clear h0 μ = some r) : Met l y_CL_clear (mW y_CL_clear b_CL_clear 1 none) rm_CL_clear (va_Pc [.ref h0] (mPr D cA dA z0 μ)) (mQW D cA z0 none r) 0 0 (mA z0) := by
  refine Met.ofW (cc := b_CL_clear) (maxL := 1) (ret := none) (by decide) rfl ?_
  intro p e s m args below meth c s₁ B hml hv
  obtain ⟨rfl, G, hP⟩ := hv
  have X := mX.of B hml
  exact m_entry (lv := [(0, va_rf (some h0))]) (Nat.le_of_ble_eq_true rfl) rfl (fun ls hl => w_CL_clear X G (mI.start hP) hf hl)

abbrev rm_Mo_clear : Room := { frames := 0, cells := 0, slots := 0, locals := 0 }
theorem h_Mo_clear : mCV y_Mo_clear b_Mo_clear 1 none 0 := ⟨k_910, k_79, ⟨by decide, by decide, by decide +kernel⟩, k_908, k_909⟩
set_option maxHeartbeats 4000000 in
set_option maxRecDepth 100000 in
theorem w_Mo_clear {h0 : Nat} {r : mM} (X : mX p m meth c s args b_Mo_clear 1 none "ColourLinkerModel") (G : mG D cA dA z0 s) {H : Heap} {locs : List Loc} {μ : mM} {ls : Array Slot}  (I : mI D cA z0 s μ H locs s.heap.size) (hf : f_Mo_clear h0 μ = some r) (hl : lv_has ls 1 [(0, va_rf (some h0))]) : W p l e rm_Mo_clear s m args below meth c H locs 0 0 (MQ below (mQW D cA z0 none r) args s 0 0 (mA z0)) (F0 m 0 ls []) := by
  have hx := X.ex
  have hb := X.by_
  unfold f_Mo_clear at hf
  refine r_aload_n X d_Mo_clear_0 rfl (lv_at hl 0 rfl) ?_
  refine lv_iconst (v := 0) hx hb d_Mo_clear_1 (by decide) ?_
  obtain ⟨m1, hv, hf⟩ := mbind hf
  refine r_put (ty := .int) X G I hv o_Mo_size k_835 (Or.inl rfl) (by decide) rfl rfl d_Mo_clear_2 (fun H locs I => ?_)
  obtain rfl := Option.some.inj hf
  exact r_vretW X I d_Mo_clear_5

set_option maxHeartbeats 4000000 in
set_option maxRecDepth 100000 in
theorem c_Mo_clear {l : Launch} {D : va_G} {cA : Nat → ClassId} {dA z0 : Nat} {μ : mM} {h0 : Nat} {r : mM} (hf : f_Mo_clear h0 μ = some r) : Met l y_Mo_clear (mW y_Mo_clear b_Mo_clear 1 none) rm_Mo_clear (va_Pc [.ref h0] (mPr D cA dA z0 μ)) (mQW D cA z0 none r) 0 0 (mA z0) := by
  refine Met.ofW (cc := b_Mo_clear) (maxL := 1) (ret := none) (by decide) rfl ?_
  intro p e s m args below meth c s₁ B hml hv
  obtain ⟨rfl, G, hP⟩ := hv
  have X := mX.of B hml
  exact m_entry (lv := [(0, va_rf (some h0))]) (Nat.le_of_ble_eq_true rfl) rfl (fun ls hl => w_Mo_clear X G (mI.start hP) hf hl)

abbrev rm_CL_size : Room := { frames := 0, cells := 0, slots := 0, locals := 0 }
theorem h_CL_size : mCV y_CL_size b_CL_size 1 (some .int) 0 := ⟨k_203, k_75, ⟨by decide, by decide, by decide +kernel⟩, k_201, k_202⟩
set_option maxHeartbeats 4000000 in
set_option maxRecDepth 100000 in
theorem w_CL_size {μ : mM} {h0 : Nat} {r : Int32} (X : mX p m meth c s args b_CL_size 1 (some .int) "ColourLinker") (G : mG D cA dA z0 s) (I : mI D cA z0 s μ s.heap [] s.heap.size) {ls : Array Slot}  (hf : f_CL_size μ h0 = some r) (hl : lv_has ls 1 [(0, va_rf (some h0))]) : W p l e rm_CL_size s m args below meth c s.heap [] 0 0 (MQ below (mQR (some (.int r))) args s 0 0 (fun _ => False)) (F0 m 0 ls []) := by
  have hx := X.ex
  have hb := X.by_
  unfold f_CL_size at hf
  refine r_aload_n X d_CL_size_0 rfl (lv_at hl 0 rfl) ?_
  obtain ⟨v1, hv, hf⟩ := mbind hf
  refine r_getf X G I (mfA_e hv) o_CL_buffer k_146 (Or.inl rfl) d_CL_size_1 ?_
  obtain ⟨v2, hv, hf⟩ := mbind hf
  refine r_getfN X G I (mfI_e hv) o_Buffer_count k_107 (Or.inl rfl) d_CL_size_4 ?_
  obtain rfl := Option.some.inj hf
  exact r_iretR X d_CL_size_7

set_option maxHeartbeats 4000000 in
set_option maxRecDepth 100000 in
theorem c_CL_size {l : Launch} {D : va_G} {cA : Nat → ClassId} {dA z0 : Nat} {μ : mM} {h0 : Nat} {r : Int32} (hf : f_CL_size μ h0 = some r) : Met l y_CL_size (mW y_CL_size b_CL_size 1 (some .int)) rm_CL_size (va_Pc [.ref h0] (mPr D cA dA z0 μ)) (mQR (some (.int r))) 0 0 (fun _ => False) := by
  refine Met.ofW (cc := b_CL_size) (maxL := 1) (ret := (some .int)) (by decide) rfl ?_
  intro p e s m args below meth c s₁ B hml hv
  obtain ⟨rfl, G, hP⟩ := hv
  have X := mX.of B hml
  exact m_entry (lv := [(0, va_rf (some h0))]) (Nat.le_of_ble_eq_true rfl) rfl (fun ls hl => w_CL_size X G (mI.start hP) hf hl)

abbrev rm_Mo_size : Room := { frames := 0, cells := 0, slots := 0, locals := 0 }
theorem h_Mo_size : mCV y_Mo_size b_Mo_size 1 (some .int) 0 := ⟨k_914, k_79, ⟨by decide, by decide, by decide +kernel⟩, k_912, k_913⟩
set_option maxHeartbeats 4000000 in
set_option maxRecDepth 100000 in
theorem w_Mo_size {μ : mM} {h0 : Nat} {r : Int32} (X : mX p m meth c s args b_Mo_size 1 (some .int) "ColourLinkerModel") (G : mG D cA dA z0 s) (I : mI D cA z0 s μ s.heap [] s.heap.size) {ls : Array Slot}  (hf : f_Mo_size μ h0 = some r) (hl : lv_has ls 1 [(0, va_rf (some h0))]) : W p l e rm_Mo_size s m args below meth c s.heap [] 0 0 (MQ below (mQR (some (.int r))) args s 0 0 (fun _ => False)) (F0 m 0 ls []) := by
  have hx := X.ex
  have hb := X.by_
  unfold f_Mo_size at hf
  refine r_aload_n X d_Mo_size_0 rfl (lv_at hl 0 rfl) ?_
  obtain ⟨v1, hv, hf⟩ := mbind hf
  refine r_getf X G I (mfI_e hv) o_Mo_size k_835 (Or.inl rfl) d_Mo_size_1 ?_
  obtain rfl := Option.some.inj hf
  exact r_iretR X d_Mo_size_4

set_option maxHeartbeats 4000000 in
set_option maxRecDepth 100000 in
theorem c_Mo_size {l : Launch} {D : va_G} {cA : Nat → ClassId} {dA z0 : Nat} {μ : mM} {h0 : Nat} {r : Int32} (hf : f_Mo_size μ h0 = some r) : Met l y_Mo_size (mW y_Mo_size b_Mo_size 1 (some .int)) rm_Mo_size (va_Pc [.ref h0] (mPr D cA dA z0 μ)) (mQR (some (.int r))) 0 0 (fun _ => False) := by
  refine Met.ofW (cc := b_Mo_size) (maxL := 1) (ret := (some .int)) (by decide) rfl ?_
  intro p e s m args below meth c s₁ B hml hv
  obtain ⟨rfl, G, hP⟩ := hv
  have X := mX.of B hml
  exact m_entry (lv := [(0, va_rf (some h0))]) (Nat.le_of_ble_eq_true rfl) rfl (fun ls hl => w_Mo_size X G (mI.start hP) hf hl)

abbrev rm_Buffer_byteAt : Room := { frames := 0, cells := 0, slots := 0, locals := 0 }
theorem h_Buffer_byteAt : mCV y_Buffer_byteAt b_Buffer_byteAt 2 (some .int) 1 := ⟨k_211, k_76, ⟨by decide, by decide, by decide +kernel⟩, k_209, k_210⟩
set_option maxHeartbeats 4000000 in
set_option maxRecDepth 100000 in
theorem w_Buffer_byteAt_22 {μ : mM} {h0 : Nat} {r : Int32} (X : mX p m meth c s args b_Buffer_byteAt 2 (some .int) "ColourLinker$Buffer") (G : mG D cA dA z0 s) (I : mI D cA z0 s μ s.heap [] s.heap.size) {ls : Array Slot} {s0 : Int32} (hf : f_Buffer_byteAt_22 μ h0 s0 = some r) (hl : lv_has ls 2 [(0, va_rf (some h0))]) : W p l e rm_Buffer_byteAt s m args below meth c s.heap [] 0 0 (MQ below (mQR (some (.int r))) args s 0 0 (fun _ => False)) (F0 m 22 ls [.int s0]) := by
  have hx := X.ex
  have hb := X.by_
  unfold f_Buffer_byteAt_22 at hf
  obtain rfl := Option.some.inj hf
  exact r_iretR X d_Buffer_byteAt_22

set_option maxHeartbeats 4000000 in
set_option maxRecDepth 100000 in
theorem w_Buffer_byteAt_21 {μ : mM} {h0 : Nat} {r : Int32} (X : mX p m meth c s args b_Buffer_byteAt 2 (some .int) "ColourLinker$Buffer") (G : mG D cA dA z0 s) (I : mI D cA z0 s μ s.heap [] s.heap.size) {ls : Array Slot}  (hf : f_Buffer_byteAt_21 μ h0 = some r) (hl : lv_has ls 2 [(0, va_rf (some h0))]) : W p l e rm_Buffer_byteAt s m args below meth c s.heap [] 0 0 (MQ below (mQR (some (.int r))) args s 0 0 (fun _ => False)) (F0 m 21 ls []) := by
  have hx := X.ex
  have hb := X.by_
  unfold f_Buffer_byteAt_21 at hf
  refine lv_iconst (v := -1) hx hb d_Buffer_byteAt_21 (by decide) ?_
  exact w_Buffer_byteAt_22 X G I hf hl

set_option maxHeartbeats 4000000 in
set_option maxRecDepth 100000 in
theorem w_Buffer_byteAt {μ : mM} {h0 : Nat} {r : Int32} (X : mX p m meth c s args b_Buffer_byteAt 2 (some .int) "ColourLinker$Buffer") (G : mG D cA dA z0 s) (I : mI D cA z0 s μ s.heap [] s.heap.size) {ls : Array Slot} {x1 : Int32} (hf : f_Buffer_byteAt μ h0 x1 = some r) (hl : lv_has ls 2 [(0, va_rf (some h0)), (1, .int x1)]) : W p l e rm_Buffer_byteAt s m args below meth c s.heap [] 0 0 (MQ below (mQR (some (.int r))) args s 0 0 (fun _ => False)) (F0 m 0 ls []) := by
  have hx := X.ex
  have hb := X.by_
  unfold f_Buffer_byteAt at hf
  refine lv_iload_n hx hb d_Buffer_byteAt_0 rfl (lv_at hl 1 rfl) ?_
  refine lv_if_lt (tgt := 21) hx hb d_Buffer_byteAt_1 (by decide) (fun hc => ?_) (fun hc => ?_)
  · have hf := mift hf hc
    exact w_Buffer_byteAt_21 X G I hf (lv_sub hl [0] rfl)
  · have hf := miff hf hc
    refine lv_iload_n hx hb d_Buffer_byteAt_4 rfl (lv_at hl 1 rfl) ?_
    refine r_aload_n X d_Buffer_byteAt_5 rfl (lv_at hl 0 rfl) ?_
    obtain ⟨v1, hv, hf⟩ := mbind hf
    refine r_getf X G I (mfI_e hv) o_Buffer_count k_106 (Or.inl rfl) d_Buffer_byteAt_6 ?_
    refine lv_icmp_ge (tgt := 21) hx hb d_Buffer_byteAt_9 (by decide) (fun hc => ?_) (fun hc => ?_)
    · have hf := mift hf hc
      exact w_Buffer_byteAt_21 X G I hf (lv_sub hl [0] rfl)
    · have hf := miff hf hc
      refine r_aload_n X d_Buffer_byteAt_12 rfl (lv_at hl 0 rfl) ?_
      obtain ⟨v2, hv, hf⟩ := mbind hf
      refine r_getf X G I (mfA_e hv) o_Buffer_row k_105 (Or.inl rfl) d_Buffer_byteAt_13 ?_
      refine lv_iload_n hx hb d_Buffer_byteAt_16 rfl (lv_at hl 1 rfl) ?_
      obtain ⟨v3, hv, hf⟩ := mbind hf
      refine r_iald X G I hv d_Buffer_byteAt_17 ?_
      refine lv_goto (tgt := 22) hx hb d_Buffer_byteAt_18 (by decide) ?_
      exact w_Buffer_byteAt_22 X G I hf (lv_sub hl [0] rfl)

set_option maxHeartbeats 4000000 in
set_option maxRecDepth 100000 in
theorem c_Buffer_byteAt {l : Launch} {D : va_G} {cA : Nat → ClassId} {dA z0 : Nat} {μ : mM} {h0 : Nat} {x1 : Int32} {r : Int32} (hf : f_Buffer_byteAt μ h0 x1 = some r) : Met l y_Buffer_byteAt (mW y_Buffer_byteAt b_Buffer_byteAt 2 (some .int)) rm_Buffer_byteAt (va_Pc [.ref h0, .int x1] (mPr D cA dA z0 μ)) (mQR (some (.int r))) 0 0 (fun _ => False) := by
  refine Met.ofW (cc := b_Buffer_byteAt) (maxL := 2) (ret := (some .int)) (by decide) rfl ?_
  intro p e s m args below meth c s₁ B hml hv
  obtain ⟨rfl, G, hP⟩ := hv
  have X := mX.of B hml
  exact m_entry (lv := [(0, va_rf (some h0)), (1, .int x1)]) (Nat.le_of_ble_eq_true rfl) rfl (fun ls hl => w_Buffer_byteAt X G (mI.start hP) hf hl)

abbrev rm_CL_at : Room := { frames := 1, cells := 0, slots := 0, locals := 21 }
theorem h_CL_at : mCV y_CL_at b_CL_at 2 (some .int) 1 := ⟨k_207, k_75, ⟨by decide, by decide, by decide +kernel⟩, k_205, k_206⟩
set_option maxHeartbeats 4000000 in
set_option maxRecDepth 100000 in
theorem w_CL_at {μ : mM} {h0 : Nat} {r : Int32} (X : mX p m meth c s args b_CL_at 2 (some .int) "ColourLinker") (G : mG D cA dA z0 s) (I : mI D cA z0 s μ s.heap [] s.heap.size) {ls : Array Slot} {x1 : Int32} (hf : f_CL_at μ h0 x1 = some r) (hl : lv_has ls 2 [(0, va_rf (some h0)), (1, .int x1)]) : W p l e rm_CL_at s m args below meth c s.heap [] 0 0 (MQ below (mQR (some (.int r))) args s 0 0 (fun _ => False)) (F0 m 0 ls []) := by
  have hx := X.ex
  have hb := X.by_
  unfold f_CL_at at hf
  refine r_aload_n X d_CL_at_0 rfl (lv_at hl 0 rfl) ?_
  obtain ⟨v1, hv, hf⟩ := mbind hf
  refine r_getf X G I (mfA_e hv) o_CL_buffer k_146 (Or.inl rfl) d_CL_at_1 ?_
  refine lv_iload_n hx hb d_CL_at_4 rfl (lv_at hl 1 rfl) ?_
  obtain ⟨q2, hv, hf⟩ := mbind hf
  obtain ⟨a, ha, hv⟩ := mbind hv
  obtain ⟨ha, fs, hm⟩ := mrc_e ha
  refine m_caR (m_runV (As := [.int x1]) (r := v1) (rest := []) X G I h_Buffer_byteAt k_208 (c_Buffer_byteAt hv) mPr_blind (m_pre G I) hm rfl ha rfl rfl hl.1 (Nat.le_of_ble_eq_true rfl) rfl rfl ⟨Nat.le_of_ble_eq_true rfl, Nat.le_of_ble_eq_true rfl⟩ ⟨Nat.le_refl _, Nat.le_refl _⟩ d_CL_at_5) ?_
  obtain rfl := Option.some.inj hf
  exact r_iretR X d_CL_at_8

set_option maxHeartbeats 4000000 in
set_option maxRecDepth 100000 in
theorem c_CL_at {l : Launch} {D : va_G} {cA : Nat → ClassId} {dA z0 : Nat} {μ : mM} {h0 : Nat} {x1 : Int32} {r : Int32} (hf : f_CL_at μ h0 x1 = some r) : Met l y_CL_at (mW y_CL_at b_CL_at 2 (some .int)) rm_CL_at (va_Pc [.ref h0, .int x1] (mPr D cA dA z0 μ)) (mQR (some (.int r))) 0 0 (fun _ => False) := by
  refine Met.ofW (cc := b_CL_at) (maxL := 2) (ret := (some .int)) (by decide) rfl ?_
  intro p e s m args below meth c s₁ B hml hv
  obtain ⟨rfl, G, hP⟩ := hv
  have X := mX.of B hml
  exact m_entry (lv := [(0, va_rf (some h0)), (1, .int x1)]) (Nat.le_of_ble_eq_true rfl) rfl (fun ls hl => w_CL_at X G (mI.start hP) hf hl)

abbrev rm_Mo_at : Room := { frames := 0, cells := 0, slots := 0, locals := 0 }
theorem h_Mo_at : mCV y_Mo_at b_Mo_at 2 (some .int) 1 := ⟨k_918, k_79, ⟨by decide, by decide, by decide +kernel⟩, k_916, k_917⟩
set_option maxHeartbeats 4000000 in
set_option maxRecDepth 100000 in
theorem w_Mo_at_22 {μ : mM} {h0 : Nat} {r : Int32} (X : mX p m meth c s args b_Mo_at 2 (some .int) "ColourLinkerModel") (G : mG D cA dA z0 s) (I : mI D cA z0 s μ s.heap [] s.heap.size) {ls : Array Slot} {s0 : Int32} (hf : f_Mo_at_22 μ h0 s0 = some r) (hl : lv_has ls 2 [(0, va_rf (some h0))]) : W p l e rm_Mo_at s m args below meth c s.heap [] 0 0 (MQ below (mQR (some (.int r))) args s 0 0 (fun _ => False)) (F0 m 22 ls [.int s0]) := by
  have hx := X.ex
  have hb := X.by_
  unfold f_Mo_at_22 at hf
  obtain rfl := Option.some.inj hf
  exact r_iretR X d_Mo_at_22

set_option maxHeartbeats 4000000 in
set_option maxRecDepth 100000 in
theorem w_Mo_at_12 {μ : mM} {h0 : Nat} {r : Int32} (X : mX p m meth c s args b_Mo_at 2 (some .int) "ColourLinkerModel") (G : mG D cA dA z0 s) (I : mI D cA z0 s μ s.heap [] s.heap.size) {ls : Array Slot}  (hf : f_Mo_at_12 μ h0 = some r) (hl : lv_has ls 2 [(0, va_rf (some h0))]) : W p l e rm_Mo_at s m args below meth c s.heap [] 0 0 (MQ below (mQR (some (.int r))) args s 0 0 (fun _ => False)) (F0 m 12 ls []) := by
  have hx := X.ex
  have hb := X.by_
  unfold f_Mo_at_12 at hf
  refine lv_iconst (v := -1) hx hb d_Mo_at_12 (by decide) ?_
  refine lv_goto (tgt := 22) hx hb d_Mo_at_13 (by decide) ?_
  exact w_Mo_at_22 X G I hf hl

set_option maxHeartbeats 4000000 in
set_option maxRecDepth 100000 in
theorem w_Mo_at {μ : mM} {h0 : Nat} {r : Int32} (X : mX p m meth c s args b_Mo_at 2 (some .int) "ColourLinkerModel") (G : mG D cA dA z0 s) (I : mI D cA z0 s μ s.heap [] s.heap.size) {ls : Array Slot} {x1 : Int32} (hf : f_Mo_at μ h0 x1 = some r) (hl : lv_has ls 2 [(0, va_rf (some h0)), (1, .int x1)]) : W p l e rm_Mo_at s m args below meth c s.heap [] 0 0 (MQ below (mQR (some (.int r))) args s 0 0 (fun _ => False)) (F0 m 0 ls []) := by
  have hx := X.ex
  have hb := X.by_
  unfold f_Mo_at at hf
  refine lv_iload_n hx hb d_Mo_at_0 rfl (lv_at hl 1 rfl) ?_
  refine lv_if_lt (tgt := 12) hx hb d_Mo_at_1 (by decide) (fun hc => ?_) (fun hc => ?_)
  · have hf := mift hf hc
    exact w_Mo_at_12 X G I hf (lv_sub hl [0] rfl)
  · have hf := miff hf hc
    refine lv_iload_n hx hb d_Mo_at_4 rfl (lv_at hl 1 rfl) ?_
    refine r_aload_n X d_Mo_at_5 rfl (lv_at hl 0 rfl) ?_
    obtain ⟨v1, hv, hf⟩ := mbind hf
    refine r_getf X G I (mfI_e hv) o_Mo_size k_835 (Or.inl rfl) d_Mo_at_6 ?_
    refine lv_icmp_lt (tgt := 16) hx hb d_Mo_at_9 (by decide) (fun hc => ?_) (fun hc => ?_)
    · have hf := mift hf hc
      refine r_aload_n X d_Mo_at_16 rfl (lv_at hl 0 rfl) ?_
      obtain ⟨v2, hv, hf⟩ := mbind hf
      refine r_getf X G I (mfA_e hv) o_Mo_buffer k_834 (Or.inl rfl) d_Mo_at_17 ?_
      refine lv_iload_n hx hb d_Mo_at_20 rfl (lv_at hl 1 rfl) ?_
      obtain ⟨v3, hv, hf⟩ := mbind hf
      refine r_iald X G I hv d_Mo_at_21 ?_
      exact w_Mo_at_22 X G I hf (lv_sub hl [0] rfl)
    · have hf := miff hf hc
      exact w_Mo_at_12 X G I hf (lv_sub hl [0] rfl)

set_option maxHeartbeats 4000000 in
set_option maxRecDepth 100000 in
theorem c_Mo_at {l : Launch} {D : va_G} {cA : Nat → ClassId} {dA z0 : Nat} {μ : mM} {h0 : Nat} {x1 : Int32} {r : Int32} (hf : f_Mo_at μ h0 x1 = some r) : Met l y_Mo_at (mW y_Mo_at b_Mo_at 2 (some .int)) rm_Mo_at (va_Pc [.ref h0, .int x1] (mPr D cA dA z0 μ)) (mQR (some (.int r))) 0 0 (fun _ => False) := by
  refine Met.ofW (cc := b_Mo_at) (maxL := 2) (ret := (some .int)) (by decide) rfl ?_
  intro p e s m args below meth c s₁ B hml hv
  obtain ⟨rfl, G, hP⟩ := hv
  have X := mX.of B hml
  exact m_entry (lv := [(0, va_rf (some h0)), (1, .int x1)]) (Nat.le_of_ble_eq_true rfl) rfl (fun ls hl => w_Mo_at X G (mI.start hP) hf hl)

abbrev rm_CL_wordAt : Room := { frames := 0, cells := 0, slots := 0, locals := 0 }
theorem h_CL_wordAt : mCS y_CL_wordAt b_CL_wordAt 2 (some .int) 2 := ⟨k_222, k_75, ⟨by decide, by decide, by decide +kernel⟩, k_221⟩
set_option maxHeartbeats 4000000 in
set_option maxRecDepth 100000 in
theorem w_CL_wordAt {μ : mM} {r : Int32} (X : mX p m meth c s args b_CL_wordAt 2 (some .int) "ColourLinker") (G : mG D cA dA z0 s) (I : mI D cA z0 s μ s.heap [] s.heap.size) {ls : Array Slot} {x0 : Option Nat} {x1 : Int32} (hf : f_CL_wordAt μ x0 x1 = some r) (hl : lv_has ls 2 [(0, va_rf x0), (1, .int x1)]) : W p l e rm_CL_wordAt s m args below meth c s.heap [] 0 0 (MQ below (mQR (some (.int r))) args s 0 0 (fun _ => False)) (F0 m 0 ls []) := by
  have hx := X.ex
  have hb := X.by_
  unfold f_CL_wordAt at hf
  refine lv_sipush (v := 256) hx hb d_CL_wordAt_0 (by decide) ?_
  refine r_aload_n X d_CL_wordAt_3 rfl (lv_at hl 0 rfl) ?_
  refine lv_iload_n hx hb d_CL_wordAt_4 rfl (lv_at hl 1 rfl) ?_
  obtain ⟨v1, hv, hf⟩ := mbind hf
  refine r_iald X G I hv d_CL_wordAt_5 ?_
  refine lv_imul hx hb d_CL_wordAt_6 ?_
  refine r_aload_n X d_CL_wordAt_7 rfl (lv_at hl 0 rfl) ?_
  refine lv_iload_n hx hb d_CL_wordAt_8 rfl (lv_at hl 1 rfl) ?_
  refine lv_iconst (v := 1) hx hb d_CL_wordAt_9 (by decide) ?_
  refine lv_iadd hx hb d_CL_wordAt_10 ?_
  obtain ⟨v2, hv, hf⟩ := mbind hf
  refine r_iald X G I hv d_CL_wordAt_11 ?_
  refine lv_iadd hx hb d_CL_wordAt_12 ?_
  obtain rfl := Option.some.inj hf
  exact r_iretR X d_CL_wordAt_13

set_option maxHeartbeats 4000000 in
set_option maxRecDepth 100000 in
theorem c_CL_wordAt {l : Launch} {D : va_G} {cA : Nat → ClassId} {dA z0 : Nat} {μ : mM} {x0 : Option Nat} {x1 : Int32} {r : Int32} (hf : f_CL_wordAt μ x0 x1 = some r) : Met l y_CL_wordAt (mW y_CL_wordAt b_CL_wordAt 2 (some .int)) rm_CL_wordAt (va_Pc [va_rf x0, .int x1] (mPr D cA dA z0 μ)) (mQR (some (.int r))) 0 0 (fun _ => False) := by
  refine Met.ofW (cc := b_CL_wordAt) (maxL := 2) (ret := (some .int)) (by decide) rfl ?_
  intro p e s m args below meth c s₁ B hml hv
  obtain ⟨rfl, G, hP⟩ := hv
  have X := mX.of B hml
  exact m_entry (lv := [(0, va_rf x0), (1, .int x1)]) (by simp [lg_sl, mrf_cat, mc_int, mc_long, mc_ref]) (by simp [lv_args, mrf_cat, mc_int, mc_long, mc_ref, mrf_some]) (fun ls hl => w_CL_wordAt X G (mI.start hP) hf hl)

abbrev rm_Buffer_broken : Room := { frames := 0, cells := 0, slots := 0, locals := 0 }
theorem h_Buffer_broken : mCS y_Buffer_broken b_Buffer_broken 2 (some .int) 2 := ⟨k_225, k_76, ⟨by decide, by decide, by decide +kernel⟩, k_224⟩
set_option maxHeartbeats 4000000 in
set_option maxRecDepth 100000 in
theorem w_Buffer_broken {μ : mM} {r : Int32} (X : mX p m meth c s args b_Buffer_broken 2 (some .int) "ColourLinker$Buffer") (G : mG D cA dA z0 s) (I : mI D cA z0 s μ s.heap [] s.heap.size) {ls : Array Slot} {x0 : Int32} {x1 : Int32} (hf : f_Buffer_broken μ x0 x1 = some r) (hl : lv_has ls 2 [(0, .int x0), (1, .int x1)]) : W p l e rm_Buffer_broken s m args below meth c s.heap [] 0 0 (MQ below (mQR (some (.int r))) args s 0 0 (fun _ => False)) (F0 m 0 ls []) := by
  have hx := X.ex
  have hb := X.by_
  unfold f_Buffer_broken at hf
  refine lv_sipush (v := 1000) hx hb d_Buffer_broken_0 (by decide) ?_
  refine lv_iload_n hx hb d_Buffer_broken_3 rfl (lv_at hl 0 rfl) ?_
  refine lv_imul hx hb d_Buffer_broken_4 ?_
  refine lv_iload_n hx hb d_Buffer_broken_5 rfl (lv_at hl 1 rfl) ?_
  refine lv_iadd hx hb d_Buffer_broken_6 ?_
  refine lv_ineg hx hb d_Buffer_broken_7 ?_
  obtain rfl := Option.some.inj hf
  exact r_iretR X d_Buffer_broken_8

set_option maxHeartbeats 4000000 in
set_option maxRecDepth 100000 in
theorem c_Buffer_broken {l : Launch} {D : va_G} {cA : Nat → ClassId} {dA z0 : Nat} {μ : mM} {x0 : Int32} {x1 : Int32} {r : Int32} (hf : f_Buffer_broken μ x0 x1 = some r) : Met l y_Buffer_broken (mW y_Buffer_broken b_Buffer_broken 2 (some .int)) rm_Buffer_broken (va_Pc [.int x0, .int x1] (mPr D cA dA z0 μ)) (mQR (some (.int r))) 0 0 (fun _ => False) := by
  refine Met.ofW (cc := b_Buffer_broken) (maxL := 2) (ret := (some .int)) (by decide) rfl ?_
  intro p e s m args below meth c s₁ B hml hv
  obtain ⟨rfl, G, hP⟩ := hv
  have X := mX.of B hml
  exact m_entry (lv := [(0, .int x0), (1, .int x1)]) (Nat.le_of_ble_eq_true rfl) rfl (fun ls hl => w_Buffer_broken X G (mI.start hP) hf hl)

end WK
