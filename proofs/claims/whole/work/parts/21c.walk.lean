section WK
variable {p : Program} {l : Launch} {e : Env} {s : State} {m : MethodId} {args : Array Value} {below : List Frame} {meth : Method} {c : Code} {D : va_G} {cA : Nat → ClassId} {dA z0 : Nat}
abbrev rm_Mo_elements : Room := { frames := 3, cells := 0, slots := 0, locals := 69 }
theorem h_Mo_elements : mCV y_Mo_elements b_Mo_elements 7 (some .int) 1 := ⟨k_942, k_79, ⟨by decide, by decide, by decide +kernel⟩, k_940, k_941⟩
set_option maxHeartbeats 4000000 in
set_option maxRecDepth 100000 in
theorem w_Mo_elements_86 {μ : mM} {h0 : Nat} {r : Int32} (X : mX p m meth c s args b_Mo_elements 7 (some .int) "ColourLinkerModel") (G : mG D cA dA z0 s) (I : mI D cA z0 s μ s.heap [] s.heap.size) {ls : Array Slot} {x2 : Int32} (hf : f_Mo_elements_86 μ h0 x2 = some r) (hl : lv_has ls 7 [(0, va_rf (some h0)), (2, .int x2)]) : W p l e rm_Mo_elements s m args below meth c s.heap [] 0 0 (MQ below (mQR (some (.int r))) args s 0 0 (fun _ => False)) (F0 m 86 ls []) := by
  have hx := X.ex
  have hb := X.by_
  unfold f_Mo_elements_86 at hf
  refine lv_iload_n hx hb d_Mo_elements_86 rfl (lv_at hl 1 rfl) ?_
  obtain rfl := Option.some.inj hf
  exact r_iretR X d_Mo_elements_87

set_option maxHeartbeats 4000000 in
set_option maxRecDepth 100000 in
theorem w_Mo_elements_79 {μ : mM} {h0 : Nat} {r : Int32} (X : mX p m meth c s args b_Mo_elements 7 (some .int) "ColourLinkerModel") (G : mG D cA dA z0 s) (I : mI D cA z0 s μ s.heap [] s.heap.size) {k : Int32 → Int32 → Int32 → Option (Int32)} {kx86 : Int32 → Option (Int32)} (hk : ∀ (ls : Array Slot) (x1 : Int32) (x2 : Int32) (x3 : Int32), k x1 x2 x3 = some r → lv_has ls 7 [(0, va_rf (some h0)), (1, .int x1), (2, .int x2), (3, .int x3)] → W p l e rm_Mo_elements s m args below meth c s.heap [] 0 0 (MQ below (mQR (some (.int r))) args s 0 0 (fun _ => False)) (F0 m 14 ls [])) (hkx86 : ∀ (ls : Array Slot) (x2 : Int32), kx86 x2 = some r → lv_has ls 7 [(0, va_rf (some h0)), (2, .int x2)] → W p l e rm_Mo_elements s m args below meth c s.heap [] 0 0 (MQ below (mQR (some (.int r))) args s 0 0 (fun _ => False)) (F0 m 86 ls [])) {ls : Array Slot} {x1 : Int32} {x3 : Int32} {s0 : Int32} (hf : f_Mo_elements_79 μ h0 k kx86 x1 x3 s0 = some r) (hl : lv_has ls 7 [(0, va_rf (some h0)), (1, .int x1), (3, .int x3)]) : W p l e rm_Mo_elements s m args below meth c s.heap [] 0 0 (MQ below (mQR (some (.int r))) args s 0 0 (fun _ => False)) (F0 m 79 ls [.int s0]) := by
  have hx := X.ex
  have hb := X.by_
  unfold f_Mo_elements_79 at hf
  refine lv_istore_n (i := 2) (lv' := [(2, .int s0), (0, va_rf (some h0)), (1, .int x1), (3, .int x3)]) hx hb d_Mo_elements_79 rfl hl (by decide) rfl (fun ls hl => ?_)
  refine lv_iinc (i := 3) (k := 3) (v := (x3 + (4 : Int32))) (lv' := [(3, .int (x3 + (4 : Int32))), (2, .int s0), (0, va_rf (some h0)), (1, .int x1)]) hx hb d_Mo_elements_80 hl rfl (congrArg (fun t => x3 + t) (by decide : Int32.ofInt (4) = (4 : Int32))) (by decide) rfl (fun ls hl => ?_)
  refine lv_goto (tgt := 14) hx hb d_Mo_elements_83 (by decide) ?_
  exact hk _ _ _ _ hf (lv_sub hl [2, 3, 1, 0] rfl)

set_option maxHeartbeats 4000000 in
set_option maxRecDepth 100000 in
theorem w_Mo_elements_67 {μ : mM} {h0 : Nat} {r : Int32} (X : mX p m meth c s args b_Mo_elements 7 (some .int) "ColourLinkerModel") (G : mG D cA dA z0 s) (I : mI D cA z0 s μ s.heap [] s.heap.size) {k : Int32 → Int32 → Int32 → Option (Int32)} {kx86 : Int32 → Option (Int32)} (hk : ∀ (ls : Array Slot) (x1 : Int32) (x2 : Int32) (x3 : Int32), k x1 x2 x3 = some r → lv_has ls 7 [(0, va_rf (some h0)), (1, .int x1), (2, .int x2), (3, .int x3)] → W p l e rm_Mo_elements s m args below meth c s.heap [] 0 0 (MQ below (mQR (some (.int r))) args s 0 0 (fun _ => False)) (F0 m 14 ls [])) (hkx86 : ∀ (ls : Array Slot) (x2 : Int32), kx86 x2 = some r → lv_has ls 7 [(0, va_rf (some h0)), (2, .int x2)] → W p l e rm_Mo_elements s m args below meth c s.heap [] 0 0 (MQ below (mQR (some (.int r))) args s 0 0 (fun _ => False)) (F0 m 86 ls [])) {ls : Array Slot} {x1 : Int32} {x2 : Int32} {x3 : Int32} {x4 : Int32} (hf : f_Mo_elements_67 μ h0 k kx86 x1 x2 x3 x4 = some r) (hl : lv_has ls 7 [(0, va_rf (some h0)), (1, .int x1), (2, .int x2), (3, .int x3), (4, .int x4)]) : W p l e rm_Mo_elements s m args below meth c s.heap [] 0 0 (MQ below (mQR (some (.int r))) args s 0 0 (fun _ => False)) (F0 m 67 ls []) := by
  have hx := X.ex
  have hb := X.by_
  unfold f_Mo_elements_67 at hf
  refine lv_iload hx hb d_Mo_elements_67 (lv_at hl 4 rfl) ?_
  refine lv_if_eq (tgt := 78) hx hb d_Mo_elements_69 (by decide) (fun hc => ?_) (fun hc => ?_)
  · have hf := mift hf hc
    refine lv_iload_n hx hb d_Mo_elements_78 rfl (lv_at hl 2 rfl) ?_
    exact w_Mo_elements_79 X G I hk hkx86 hf (lv_sub hl [0, 1, 3] rfl)
  · have hf := miff hf hc
    refine lv_iload_n hx hb d_Mo_elements_72 rfl (lv_at hl 2 rfl) ?_
    refine lv_iconst (v := 1) hx hb d_Mo_elements_73 (by decide) ?_
    refine lv_iadd hx hb d_Mo_elements_74 ?_
    refine lv_goto (tgt := 79) hx hb d_Mo_elements_75 (by decide) ?_
    exact w_Mo_elements_79 X G I hk hkx86 hf (lv_sub hl [0, 1, 3] rfl)

set_option maxHeartbeats 4000000 in
set_option maxRecDepth 100000 in
theorem w_Mo_elements_59 {μ : mM} {h0 : Nat} {r : Int32} (X : mX p m meth c s args b_Mo_elements 7 (some .int) "ColourLinkerModel") (G : mG D cA dA z0 s) (I : mI D cA z0 s μ s.heap [] s.heap.size) {k : Int32 → Int32 → Int32 → Int32 → Int32 → Option (Int32)} {kx67 : Int32 → Int32 → Int32 → Int32 → Option (Int32)} (hk : ∀ (ls : Array Slot) (x1 : Int32) (x2 : Int32) (x3 : Int32) (x4 : Int32) (x5 : Int32), k x1 x2 x3 x4 x5 = some r → lv_has ls 7 [(0, va_rf (some h0)), (1, .int x1), (2, .int x2), (3, .int x3), (4, .int x4), (5, .int x5)] → W p l e rm_Mo_elements s m args below meth c s.heap [] 0 0 (MQ below (mQR (some (.int r))) args s 0 0 (fun _ => False)) (F0 m 27 ls [])) (hkx67 : ∀ (ls : Array Slot) (x1 : Int32) (x2 : Int32) (x3 : Int32) (x4 : Int32), kx67 x1 x2 x3 x4 = some r → lv_has ls 7 [(0, va_rf (some h0)), (1, .int x1), (2, .int x2), (3, .int x3), (4, .int x4)] → W p l e rm_Mo_elements s m args below meth c s.heap [] 0 0 (MQ below (mQR (some (.int r))) args s 0 0 (fun _ => False)) (F0 m 67 ls [])) {ls : Array Slot} {x1 : Int32} {x2 : Int32} {x3 : Int32} {x5 : Int32} {s0 : Int32} (hf : f_Mo_elements_59 μ h0 k kx67 x1 x2 x3 x5 s0 = some r) (hl : lv_has ls 7 [(0, va_rf (some h0)), (1, .int x1), (2, .int x2), (3, .int x3), (5, .int x5)]) : W p l e rm_Mo_elements s m args below meth c s.heap [] 0 0 (MQ below (mQR (some (.int r))) args s 0 0 (fun _ => False)) (F0 m 59 ls [.int s0]) := by
  have hx := X.ex
  have hb := X.by_
  unfold f_Mo_elements_59 at hf
  refine lv_istore (i := 4) (lv' := [(4, .int s0), (0, va_rf (some h0)), (1, .int x1), (2, .int x2), (3, .int x3), (5, .int x5)]) hx hb d_Mo_elements_59 hl (by decide) rfl (fun ls hl => ?_)
  refine lv_iinc (i := 5) (k := 5) (v := (x5 + (1 : Int32))) (lv' := [(5, .int (x5 + (1 : Int32))), (4, .int s0), (0, va_rf (some h0)), (1, .int x1), (2, .int x2), (3, .int x3)]) hx hb d_Mo_elements_61 hl rfl (congrArg (fun t => x5 + t) (by decide : Int32.ofInt (1) = (1 : Int32))) (by decide) rfl (fun ls hl => ?_)
  refine lv_goto (tgt := 27) hx hb d_Mo_elements_64 (by decide) ?_
  exact hk _ _ _ _ _ _ hf (lv_sub hl [2, 3, 4, 5, 1, 0] rfl)

set_option maxHeartbeats 4000000 in
set_option maxRecDepth 100000 in
theorem w_Mo_elements_54 {μ : mM} {h0 : Nat} {r : Int32} (X : mX p m meth c s args b_Mo_elements 7 (some .int) "ColourLinkerModel") (G : mG D cA dA z0 s) (I : mI D cA z0 s μ s.heap [] s.heap.size) {k : Int32 → Int32 → Int32 → Int32 → Int32 → Option (Int32)} {kx67 : Int32 → Int32 → Int32 → Int32 → Option (Int32)} (hk : ∀ (ls : Array Slot) (x1 : Int32) (x2 : Int32) (x3 : Int32) (x4 : Int32) (x5 : Int32), k x1 x2 x3 x4 x5 = some r → lv_has ls 7 [(0, va_rf (some h0)), (1, .int x1), (2, .int x2), (3, .int x3), (4, .int x4), (5, .int x5)] → W p l e rm_Mo_elements s m args below meth c s.heap [] 0 0 (MQ below (mQR (some (.int r))) args s 0 0 (fun _ => False)) (F0 m 27 ls [])) (hkx67 : ∀ (ls : Array Slot) (x1 : Int32) (x2 : Int32) (x3 : Int32) (x4 : Int32), kx67 x1 x2 x3 x4 = some r → lv_has ls 7 [(0, va_rf (some h0)), (1, .int x1), (2, .int x2), (3, .int x3), (4, .int x4)] → W p l e rm_Mo_elements s m args below meth c s.heap [] 0 0 (MQ below (mQR (some (.int r))) args s 0 0 (fun _ => False)) (F0 m 67 ls [])) {ls : Array Slot} {x1 : Int32} {x2 : Int32} {x3 : Int32} {x5 : Int32} (hf : f_Mo_elements_54 μ h0 k kx67 x1 x2 x3 x5 = some r) (hl : lv_has ls 7 [(0, va_rf (some h0)), (1, .int x1), (2, .int x2), (3, .int x3), (5, .int x5)]) : W p l e rm_Mo_elements s m args below meth c s.heap [] 0 0 (MQ below (mQR (some (.int r))) args s 0 0 (fun _ => False)) (F0 m 54 ls []) := by
  have hx := X.ex
  have hb := X.by_
  unfold f_Mo_elements_54 at hf
  refine lv_iconst (v := 1) hx hb d_Mo_elements_54 (by decide) ?_
  refine lv_goto (tgt := 59) hx hb d_Mo_elements_55 (by decide) ?_
  exact w_Mo_elements_59 X G I hk hkx67 hf hl

set_option maxHeartbeats 4000000 in
set_option maxRecDepth 100000 in
theorem w_Mo_elements_27 {μ : mM} {h0 : Nat} {r : Int32} (X : mX p m meth c s args b_Mo_elements 7 (some .int) "ColourLinkerModel") (G : mG D cA dA z0 s) (I : mI D cA z0 s μ s.heap [] s.heap.size) {kx67 : Int32 → Int32 → Int32 → Int32 → Option (Int32)} (hkx67 : ∀ (ls : Array Slot) (x1 : Int32) (x2 : Int32) (x3 : Int32) (x4 : Int32), kx67 x1 x2 x3 x4 = some r → lv_has ls 7 [(0, va_rf (some h0)), (1, .int x1), (2, .int x2), (3, .int x3), (4, .int x4)] → W p l e rm_Mo_elements s m args below meth c s.heap [] 0 0 (MQ below (mQR (some (.int r))) args s 0 0 (fun _ => False)) (F0 m 67 ls [])) : ∀ (n : Nat) (ls : Array Slot) (x1 : Int32) (x2 : Int32) (x3 : Int32) (x4 : Int32) (x5 : Int32), f_Mo_elements_27 μ h0 kx67 n x1 x2 x3 x4 x5 = some r → lv_has ls 7 [(0, va_rf (some h0)), (1, .int x1), (2, .int x2), (3, .int x3), (4, .int x4), (5, .int x5)] → W p l e rm_Mo_elements s m args below meth c s.heap [] 0 0 (MQ below (mQR (some (.int r))) args s 0 0 (fun _ => False)) (F0 m 27 ls []) := by
  have hx := X.ex
  have hb := X.by_
  intro n
  induction n with
  | zero => intro ls x1 x2 x3 x4 x5 hf hl; rw [f_Mo_elements_27] at hf; cases hf
  | succ n ih =>
    intro ls x1 x2 x3 x4 x5 hf hl
    rw [f_Mo_elements_27] at hf
    refine lv_iload hx hb d_Mo_elements_27 (lv_at hl 5 rfl) ?_
    refine lv_bipush (v := 12) hx hb d_Mo_elements_29 (by decide) ?_
    refine lv_icmp_gt (tgt := 67) hx hb d_Mo_elements_31 (by decide) (fun hc => ?_) (fun hc => ?_)
    · have hf := mift hf hc
      exact hkx67 _ _ _ _ _ hf (lv_sub hl [0, 1, 2, 3, 4] rfl)
    · have hf := miff hf hc
      refine r_aload_n X d_Mo_elements_34 rfl (lv_at hl 0 rfl) ?_
      refine lv_iload_n hx hb d_Mo_elements_35 rfl (lv_at hl 1 rfl) ?_
      refine lv_iload hx hb d_Mo_elements_36 (lv_at hl 5 rfl) ?_
      obtain ⟨q2, hv, hf⟩ := mbind hf
      obtain ⟨a, ha, hv⟩ := mbind hv
      obtain ⟨ha, fs, hm⟩ := mrc_e ha
      refine m_caR (m_runV (As := [.int x1, .int x5]) (r := some h0) (rest := []) X G I h_Mo_data k_947 (c_Mo_data hv) mPr_blind (m_pre G I) hm rfl ha rfl rfl hl.1 (Nat.le_of_ble_eq_true rfl) rfl rfl ⟨Nat.le_of_ble_eq_true rfl, Nat.le_of_ble_eq_true rfl⟩ ⟨Nat.le_refl _, Nat.le_refl _⟩ d_Mo_elements_38) ?_
      refine lv_istore (i := 6) (lv' := [(6, .int q2), (0, va_rf (some h0)), (1, .int x1), (2, .int x2), (3, .int x3), (4, .int x4), (5, .int x5)]) hx hb d_Mo_elements_41 hl (by decide) rfl (fun ls hl => ?_)
      refine lv_iload hx hb d_Mo_elements_43 (lv_at hl 5 rfl) ?_
      refine lv_if_ne (tgt := 54) hx hb d_Mo_elements_45 (by decide) (fun hc => ?_) (fun hc => ?_)
      · have hf := miff hf hc
        exact w_Mo_elements_54 X G I ih hkx67 hf (lv_sub hl [1, 2, 3, 4, 6] rfl)
      · have hf := mift hf hc
        refine lv_iload hx hb d_Mo_elements_48 (lv_at hl 0 rfl) ?_
        refine lv_iload_n hx hb d_Mo_elements_50 rfl (lv_at hl 4 rfl) ?_
        refine lv_icmp_ne (tgt := 58) hx hb d_Mo_elements_51 (by decide) (fun hc => ?_) (fun hc => ?_)
        · have hf := miff hf hc
          refine lv_iconst (v := 0) hx hb d_Mo_elements_58 (by decide) ?_
          exact w_Mo_elements_59 X G I ih hkx67 hf (lv_sub hl [1, 2, 3, 4, 6] rfl)
        · have hf := mift hf hc
          exact w_Mo_elements_54 X G I ih hkx67 hf (lv_sub hl [1, 2, 3, 4, 6] rfl)

set_option maxHeartbeats 4000000 in
set_option maxRecDepth 100000 in
theorem w_Mo_elements_14 {μ : mM} {h0 : Nat} {r : Int32} (X : mX p m meth c s args b_Mo_elements 7 (some .int) "ColourLinkerModel") (G : mG D cA dA z0 s) (I : mI D cA z0 s μ s.heap [] s.heap.size) {kx86 : Int32 → Option (Int32)} (hkx86 : ∀ (ls : Array Slot) (x2 : Int32), kx86 x2 = some r → lv_has ls 7 [(0, va_rf (some h0)), (2, .int x2)] → W p l e rm_Mo_elements s m args below meth c s.heap [] 0 0 (MQ below (mQR (some (.int r))) args s 0 0 (fun _ => False)) (F0 m 86 ls [])) : ∀ (n : Nat) (ls : Array Slot) (x1 : Int32) (x2 : Int32) (x3 : Int32), f_Mo_elements_14 μ h0 kx86 n x1 x2 x3 = some r → lv_has ls 7 [(0, va_rf (some h0)), (1, .int x1), (2, .int x2), (3, .int x3)] → W p l e rm_Mo_elements s m args below meth c s.heap [] 0 0 (MQ below (mQR (some (.int r))) args s 0 0 (fun _ => False)) (F0 m 14 ls []) := by
  have hx := X.ex
  have hb := X.by_
  intro n
  induction n with
  | zero => intro ls x1 x2 x3 hf hl; rw [f_Mo_elements_14] at hf; cases hf
  | succ n ih =>
    intro ls x1 x2 x3 hf hl
    rw [f_Mo_elements_14] at hf
    refine lv_iload_n hx hb d_Mo_elements_14 rfl (lv_at hl 3 rfl) ?_
    refine lv_sipush (v := 256) hx hb d_Mo_elements_15 (by decide) ?_
    refine lv_icmp_ge (tgt := 86) hx hb d_Mo_elements_18 (by decide) (fun hc => ?_) (fun hc => ?_)
    · have hf := mift hf hc
      exact hkx86 _ _ hf (lv_sub hl [0, 2] rfl)
    · have hf := miff hf hc
      refine lv_iconst (v := 0) hx hb d_Mo_elements_21 (by decide) ?_
      refine lv_istore (i := 4) (lv' := [(4, .int (0 : Int32)), (0, va_rf (some h0)), (1, .int x1), (2, .int x2), (3, .int x3)]) hx hb d_Mo_elements_22 hl (by decide) rfl (fun ls hl => ?_)
      refine lv_iconst (v := 1) hx hb d_Mo_elements_24 (by decide) ?_
      refine lv_istore (i := 5) (lv' := [(5, .int (1 : Int32)), (4, .int (0 : Int32)), (0, va_rf (some h0)), (1, .int x1), (2, .int x2), (3, .int x3)]) hx hb d_Mo_elements_25 hl (by decide) rfl (fun ls hl => ?_)
      exact w_Mo_elements_27 X G I (fun ls x1 x2 x3 x4 hf hl => w_Mo_elements_67 X G I ih hkx86 hf hl) 4096 _ _ _ _ _ _ hf (lv_sub hl [2, 3, 4, 5, 1, 0] rfl)

set_option maxHeartbeats 4000000 in
set_option maxRecDepth 100000 in
theorem w_Mo_elements {μ : mM} {h0 : Nat} {r : Int32} (X : mX p m meth c s args b_Mo_elements 7 (some .int) "ColourLinkerModel") (G : mG D cA dA z0 s) (I : mI D cA z0 s μ s.heap [] s.heap.size) {ls : Array Slot} {x1 : Int32} (hf : f_Mo_elements μ h0 x1 = some r) (hl : lv_has ls 7 [(0, va_rf (some h0)), (1, .int x1)]) : W p l e rm_Mo_elements s m args below meth c s.heap [] 0 0 (MQ below (mQR (some (.int r))) args s 0 0 (fun _ => False)) (F0 m 0 ls []) := by
  have hx := X.ex
  have hb := X.by_
  unfold f_Mo_elements at hf
  refine r_aload_n X d_Mo_elements_0 rfl (lv_at hl 0 rfl) ?_
  refine lv_iload_n hx hb d_Mo_elements_1 rfl (lv_at hl 1 rfl) ?_
  obtain ⟨q1, hv, hf⟩ := mbind hf
  obtain ⟨a, ha, hv⟩ := mbind hv
  obtain ⟨ha, fs, hm⟩ := mrc_e ha
  refine m_caR (m_runV (As := [.int x1]) (r := some h0) (rest := []) X G I h_Mo_there k_943 (c_Mo_there hv) mPr_blind (m_pre G I) hm rfl ha rfl rfl hl.1 (Nat.le_of_ble_eq_true rfl) rfl rfl ⟨Nat.le_of_ble_eq_true rfl, Nat.le_of_ble_eq_true rfl⟩ ⟨Nat.le_refl _, Nat.le_refl _⟩ d_Mo_elements_2) ?_
  refine lv_if_ne (tgt := 10) hx hb d_Mo_elements_5 (by decide) (fun hc => ?_) (fun hc => ?_)
  · have hf := miff hf hc
    refine lv_iconst (v := 0) hx hb d_Mo_elements_10 (by decide) ?_
    refine lv_istore_n (i := 2) (lv' := [(2, .int (0 : Int32)), (0, va_rf (some h0)), (1, .int x1)]) hx hb d_Mo_elements_11 rfl hl (by decide) rfl (fun ls hl => ?_)
    refine lv_iconst (v := 0) hx hb d_Mo_elements_12 (by decide) ?_
    refine lv_istore_n (i := 3) (lv' := [(3, .int (0 : Int32)), (2, .int (0 : Int32)), (0, va_rf (some h0)), (1, .int x1)]) hx hb d_Mo_elements_13 rfl hl (by decide) rfl (fun ls hl => ?_)
    exact w_Mo_elements_14 X G I (fun ls x2 hf hl => w_Mo_elements_86 X G I hf hl) 4096 _ _ _ _ hf (lv_sub hl [2, 3, 1, 0] rfl)
  · have hf := mift hf hc
    refine lv_iconst (v := -1) hx hb d_Mo_elements_8 (by decide) ?_
    obtain rfl := Option.some.inj hf
    exact r_iretR X d_Mo_elements_9

set_option maxHeartbeats 4000000 in
set_option maxRecDepth 100000 in
theorem c_Mo_elements {l : Launch} {D : va_G} {cA : Nat → ClassId} {dA z0 : Nat} {μ : mM} {h0 : Nat} {x1 : Int32} {r : Int32} (hf : f_Mo_elements μ h0 x1 = some r) : Met l y_Mo_elements (mW y_Mo_elements b_Mo_elements 7 (some .int)) rm_Mo_elements (va_Pc [.ref h0, .int x1] (mPr D cA dA z0 μ)) (mQR (some (.int r))) 0 0 (fun _ => False) := by
  refine Met.ofW (cc := b_Mo_elements) (maxL := 7) (ret := (some .int)) (by decide) rfl ?_
  intro p e s m args below meth c s₁ B hml hv
  obtain ⟨rfl, G, hP⟩ := hv
  have X := mX.of B hml
  exact m_entry (lv := [(0, va_rf (some h0)), (1, .int x1)]) (Nat.le_of_ble_eq_true rfl) rfl (fun ls hl => w_Mo_elements X G (mI.start hP) hf hl)

abbrev rm_Profile_isLike : Room := { frames := 0, cells := 0, slots := 0, locals := 0 }
theorem h_Profile_isLike : mCV y_Profile_isLike b_Profile_isLike 4 (some .boolean) 1 := ⟨k_628, k_80, ⟨by decide, by decide, by decide +kernel⟩, k_626, k_627⟩
set_option maxHeartbeats 4000000 in
set_option maxRecDepth 100000 in
theorem w_Profile_isLike_61 {μ : mM} {h0 : Nat} {r : Int32} (X : mX p m meth c s args b_Profile_isLike 4 (some .boolean) "ColourLinker$Profile") (G : mG D cA dA z0 s) (I : mI D cA z0 s μ s.heap [] s.heap.size) {ls : Array Slot} {x2 : Int32} (hf : f_Profile_isLike_61 μ h0 x2 = some r) (hl : lv_has ls 4 [(0, va_rf (some h0)), (2, .int x2)]) : W p l e rm_Profile_isLike s m args below meth c s.heap [] 0 0 (MQ below (mQR (some (.int r))) args s 0 0 (fun _ => False)) (F0 m 61 ls []) := by
  have hx := X.ex
  have hb := X.by_
  unfold f_Profile_isLike_61 at hf
  refine lv_iload_n hx hb d_Profile_isLike_61 rfl (lv_at hl 1 rfl) ?_
  obtain ⟨v11, hv, hf⟩ := mbind hf
  obtain ⟨hz0, hz⟩ := mz_e hv
  rw [hz0] at hf
  obtain rfl := Option.some.inj hf
  exact r_zretR X hz d_Profile_isLike_62

set_option maxHeartbeats 4000000 in
set_option maxRecDepth 100000 in
theorem w_Profile_isLike_54 {μ : mM} {h0 : Nat} {r : Int32} (X : mX p m meth c s args b_Profile_isLike 4 (some .boolean) "ColourLinker$Profile") (G : mG D cA dA z0 s) (I : mI D cA z0 s μ s.heap [] s.heap.size) {k : (Option Nat) → Int32 → Int32 → Option (Int32)} {kx61 : Int32 → Option (Int32)} (hk : ∀ (ls : Array Slot) (x1 : Option Nat) (x2 : Int32) (x3 : Int32), k x1 x2 x3 = some r → lv_has ls 4 [(0, va_rf (some h0)), (1, va_rf x1), (2, .int x2), (3, .int x3)] → W p l e rm_Profile_isLike s m args below meth c s.heap [] 0 0 (MQ below (mQR (some (.int r))) args s 0 0 (fun _ => False)) (F0 m 21 ls [])) (hkx61 : ∀ (ls : Array Slot) (x2 : Int32), kx61 x2 = some r → lv_has ls 4 [(0, va_rf (some h0)), (2, .int x2)] → W p l e rm_Profile_isLike s m args below meth c s.heap [] 0 0 (MQ below (mQR (some (.int r))) args s 0 0 (fun _ => False)) (F0 m 61 ls [])) {ls : Array Slot} {x1 : Option Nat} {x3 : Int32} {s0 : Int32} (hf : f_Profile_isLike_54 μ h0 k kx61 x1 x3 s0 = some r) (hl : lv_has ls 4 [(0, va_rf (some h0)), (1, va_rf x1), (3, .int x3)]) : W p l e rm_Profile_isLike s m args below meth c s.heap [] 0 0 (MQ below (mQR (some (.int r))) args s 0 0 (fun _ => False)) (F0 m 54 ls [.int s0]) := by
  have hx := X.ex
  have hb := X.by_
  unfold f_Profile_isLike_54 at hf
  refine lv_istore_n (i := 2) (lv' := [(2, .int s0), (0, va_rf (some h0)), (1, va_rf x1), (3, .int x3)]) hx hb d_Profile_isLike_54 rfl hl (by decide) (by simp [mrf_cat]) (fun ls hl => ?_)
  refine lv_iinc (i := 3) (k := 3) (v := (x3 + (1 : Int32))) (lv' := [(3, .int (x3 + (1 : Int32))), (2, .int s0), (0, va_rf (some h0)), (1, va_rf x1)]) hx hb d_Profile_isLike_55 hl rfl (congrArg (fun t => x3 + t) (by decide : Int32.ofInt (1) = (1 : Int32))) (by decide) rfl (fun ls hl => ?_)
  refine lv_goto (tgt := 21) hx hb d_Profile_isLike_58 (by decide) ?_
  exact hk _ _ _ _ hf (lv_sub hl [2, 3, 1, 0] rfl)

set_option maxHeartbeats 4000000 in
set_option maxRecDepth 100000 in
theorem w_Profile_isLike_21 {μ : mM} {h0 : Nat} {r : Int32} (X : mX p m meth c s args b_Profile_isLike 4 (some .boolean) "ColourLinker$Profile") (G : mG D cA dA z0 s) (I : mI D cA z0 s μ s.heap [] s.heap.size) {kx61 : Int32 → Option (Int32)} (hkx61 : ∀ (ls : Array Slot) (x2 : Int32), kx61 x2 = some r → lv_has ls 4 [(0, va_rf (some h0)), (2, .int x2)] → W p l e rm_Profile_isLike s m args below meth c s.heap [] 0 0 (MQ below (mQR (some (.int r))) args s 0 0 (fun _ => False)) (F0 m 61 ls [])) : ∀ (n : Nat) (ls : Array Slot) (x1 : Option Nat) (x2 : Int32) (x3 : Int32), f_Profile_isLike_21 μ h0 kx61 n x1 x2 x3 = some r → lv_has ls 4 [(0, va_rf (some h0)), (1, va_rf x1), (2, .int x2), (3, .int x3)] → W p l e rm_Profile_isLike s m args below meth c s.heap [] 0 0 (MQ below (mQR (some (.int r))) args s 0 0 (fun _ => False)) (F0 m 21 ls []) := by
  have hx := X.ex
  have hb := X.by_
  intro n
  induction n with
  | zero => intro ls x1 x2 x3 hf hl; rw [f_Profile_isLike_21] at hf; cases hf
  | succ n ih =>
    intro ls x1 x2 x3 hf hl
    rw [f_Profile_isLike_21] at hf
    refine lv_iload_n hx hb d_Profile_isLike_21 rfl (lv_at hl 2 rfl) ?_
    refine lv_if_eq (tgt := 61) hx hb d_Profile_isLike_22 (by decide) (fun hc => ?_) (fun hc => ?_)
    · have hf := mift hf hc
      exact hkx61 _ _ hf (lv_sub hl [0, 2] rfl)
    · have hf := miff hf hc
      refine lv_iload_n hx hb d_Profile_isLike_25 rfl (lv_at hl 3 rfl) ?_
      refine r_aload_n X d_Profile_isLike_26 rfl (lv_at hl 0 rfl) ?_
      obtain ⟨v5, hv, hf⟩ := mbind hf
      refine r_getf X G I (mfA_e hv) o_Profile_plain k_396 (Or.inl rfl) d_Profile_isLike_27 ?_
      obtain ⟨v6, hv, hf⟩ := mbind hf
      refine r_alen X G I hv d_Profile_isLike_30 ?_
      refine lv_icmp_ge (tgt := 61) hx hb d_Profile_isLike_31 (by decide) (fun hc => ?_) (fun hc => ?_)
      · have hf := mift hf hc
        exact hkx61 _ _ hf (lv_sub hl [0, 2] rfl)
      · have hf := miff hf hc
        refine r_aload_n X d_Profile_isLike_34 rfl (lv_at hl 0 rfl) ?_
        obtain ⟨v7, hv, hf⟩ := mbind hf
        refine r_getf X G I (mfA_e hv) o_Profile_plain k_396 (Or.inl rfl) d_Profile_isLike_35 ?_
        refine lv_iload_n hx hb d_Profile_isLike_38 rfl (lv_at hl 3 rfl) ?_
        obtain ⟨v8, hv, hf⟩ := mbind hf
        refine r_iald X G I hv d_Profile_isLike_39 ?_
        refine r_aload_n X d_Profile_isLike_40 rfl (lv_at hl 1 rfl) ?_
        obtain ⟨v9, hv, hf⟩ := mbind hf
        refine r_getf X G I (mfA_e hv) o_Profile_plain k_396 (Or.inl rfl) d_Profile_isLike_41 ?_
        refine lv_iload_n hx hb d_Profile_isLike_44 rfl (lv_at hl 3 rfl) ?_
        obtain ⟨v10, hv, hf⟩ := mbind hf
        refine r_iald X G I hv d_Profile_isLike_45 ?_
        refine lv_icmp_ne (tgt := 53) hx hb d_Profile_isLike_46 (by decide) (fun hc => ?_) (fun hc => ?_)
        · have hf := miff hf hc
          refine lv_iconst (v := 0) hx hb d_Profile_isLike_53 (by decide) ?_
          exact w_Profile_isLike_54 X G I ih hkx61 hf (lv_sub hl [0, 1, 3] rfl)
        · have hf := mift hf hc
          refine lv_iconst (v := 1) hx hb d_Profile_isLike_49 (by decide) ?_
          refine lv_goto (tgt := 54) hx hb d_Profile_isLike_50 (by decide) ?_
          exact w_Profile_isLike_54 X G I ih hkx61 hf (lv_sub hl [0, 1, 3] rfl)

set_option maxHeartbeats 4000000 in
set_option maxRecDepth 100000 in
theorem w_Profile_isLike_18 {μ : mM} {h0 : Nat} {r : Int32} (X : mX p m meth c s args b_Profile_isLike 4 (some .boolean) "ColourLinker$Profile") (G : mG D cA dA z0 s) (I : mI D cA z0 s μ s.heap [] s.heap.size) {ls : Array Slot} {x1 : Option Nat} {s0 : Int32} (hf : f_Profile_isLike_18 μ h0 x1 s0 = some r) (hl : lv_has ls 4 [(0, va_rf (some h0)), (1, va_rf x1)]) : W p l e rm_Profile_isLike s m args below meth c s.heap [] 0 0 (MQ below (mQR (some (.int r))) args s 0 0 (fun _ => False)) (F0 m 18 ls [.int s0]) := by
  have hx := X.ex
  have hb := X.by_
  unfold f_Profile_isLike_18 at hf
  refine lv_istore_n (i := 2) (lv' := [(2, .int s0), (0, va_rf (some h0)), (1, va_rf x1)]) hx hb d_Profile_isLike_18 rfl hl (by decide) (by simp [mrf_cat]) (fun ls hl => ?_)
  refine lv_iconst (v := 0) hx hb d_Profile_isLike_19 (by decide) ?_
  refine lv_istore_n (i := 3) (lv' := [(3, .int (0 : Int32)), (2, .int s0), (0, va_rf (some h0)), (1, va_rf x1)]) hx hb d_Profile_isLike_20 rfl hl (by decide) rfl (fun ls hl => ?_)
  exact w_Profile_isLike_21 X G I (fun ls x2 hf hl => w_Profile_isLike_61 X G I hf hl) 4096 _ _ _ _ hf (lv_sub hl [2, 3, 1, 0] rfl)

set_option maxHeartbeats 4000000 in
set_option maxRecDepth 100000 in
theorem w_Profile_isLike {μ : mM} {h0 : Nat} {r : Int32} (X : mX p m meth c s args b_Profile_isLike 4 (some .boolean) "ColourLinker$Profile") (G : mG D cA dA z0 s) (I : mI D cA z0 s μ s.heap [] s.heap.size) {ls : Array Slot} {x1 : Option Nat} (hf : f_Profile_isLike μ h0 x1 = some r) (hl : lv_has ls 4 [(0, va_rf (some h0)), (1, va_rf x1)]) : W p l e rm_Profile_isLike s m args below meth c s.heap [] 0 0 (MQ below (mQR (some (.int r))) args s 0 0 (fun _ => False)) (F0 m 0 ls []) := by
  have hx := X.ex
  have hb := X.by_
  unfold f_Profile_isLike at hf
  refine r_aload_n X d_Profile_isLike_0 rfl (lv_at hl 0 rfl) ?_
  obtain ⟨v1, hv, hf⟩ := mbind hf
  refine r_getf X G I (mfA_e hv) o_Profile_plain k_396 (Or.inl rfl) d_Profile_isLike_1 ?_
  obtain ⟨v2, hv, hf⟩ := mbind hf
  refine r_alen X G I hv d_Profile_isLike_4 ?_
  refine r_aload_n X d_Profile_isLike_5 rfl (lv_at hl 1 rfl) ?_
  obtain ⟨v3, hv, hf⟩ := mbind hf
  refine r_getf X G I (mfA_e hv) o_Profile_plain k_396 (Or.inl rfl) d_Profile_isLike_6 ?_
  obtain ⟨v4, hv, hf⟩ := mbind hf
  refine r_alen X G I hv d_Profile_isLike_9 ?_
  refine lv_icmp_ne (tgt := 17) hx hb d_Profile_isLike_10 (by decide) (fun hc => ?_) (fun hc => ?_)
  · have hf := miff hf hc
    refine lv_iconst (v := 0) hx hb d_Profile_isLike_17 (by decide) ?_
    exact w_Profile_isLike_18 X G I hf hl
  · have hf := mift hf hc
    refine lv_iconst (v := 1) hx hb d_Profile_isLike_13 (by decide) ?_
    refine lv_goto (tgt := 18) hx hb d_Profile_isLike_14 (by decide) ?_
    exact w_Profile_isLike_18 X G I hf hl

set_option maxHeartbeats 4000000 in
set_option maxRecDepth 100000 in
theorem c_Profile_isLike {l : Launch} {D : va_G} {cA : Nat → ClassId} {dA z0 : Nat} {μ : mM} {h0 : Nat} {x1 : Option Nat} {r : Int32} (hf : f_Profile_isLike μ h0 x1 = some r) : Met l y_Profile_isLike (mW y_Profile_isLike b_Profile_isLike 4 (some .boolean)) rm_Profile_isLike (va_Pc [.ref h0, va_rf x1] (mPr D cA dA z0 μ)) (mQR (some (.int r))) 0 0 (fun _ => False) := by
  refine Met.ofW (cc := b_Profile_isLike) (maxL := 4) (ret := (some .boolean)) (by decide) rfl ?_
  intro p e s m args below meth c s₁ B hml hv
  obtain ⟨rfl, G, hP⟩ := hv
  have X := mX.of B hml
  exact m_entry (lv := [(0, va_rf (some h0)), (1, va_rf x1)]) (by simp [lg_sl, mrf_cat, mc_int, mc_long, mc_ref]) (by simp [lv_args, mrf_cat, mc_int, mc_long, mc_ref, mrf_some]) (fun ls hl => w_Profile_isLike X G (mI.start hP) hf hl)

abbrev rm_CL_same : Room := { frames := 1, cells := 0, slots := 0, locals := 23 }
theorem h_CL_same : mCV y_CL_same b_CL_same 5 (some .boolean) 2 := ⟨k_624, k_75, ⟨by decide, by decide, by decide +kernel⟩, k_622, k_623⟩
set_option maxHeartbeats 4000000 in
set_option maxRecDepth 100000 in
theorem w_CL_same_36 {μ : mM} {h0 : Nat} {r : Int32} (X : mX p m meth c s args b_CL_same 5 (some .boolean) "ColourLinker") (G : mG D cA dA z0 s) (I : mI D cA z0 s μ s.heap [] s.heap.size) {ls : Array Slot} {s0 : Int32} (hf : f_CL_same_36 μ h0 s0 = some r) (hl : lv_has ls 5 [(0, va_rf (some h0))]) : W p l e rm_CL_same s m args below meth c s.heap [] 0 0 (MQ below (mQR (some (.int r))) args s 0 0 (fun _ => False)) (F0 m 36 ls [.int s0]) := by
  have hx := X.ex
  have hb := X.by_
  unfold f_CL_same_36 at hf
  obtain ⟨v4, hv, hf⟩ := mbind hf
  obtain ⟨hz0, hz⟩ := mz_e hv
  rw [hz0] at hf
  obtain rfl := Option.some.inj hf
  exact r_zretR X hz d_CL_same_36

set_option maxHeartbeats 4000000 in
set_option maxRecDepth 100000 in
theorem w_CL_same_35 {μ : mM} {h0 : Nat} {r : Int32} (X : mX p m meth c s args b_CL_same 5 (some .boolean) "ColourLinker") (G : mG D cA dA z0 s) (I : mI D cA z0 s μ s.heap [] s.heap.size) {ls : Array Slot}  (hf : f_CL_same_35 μ h0 = some r) (hl : lv_has ls 5 [(0, va_rf (some h0))]) : W p l e rm_CL_same s m args below meth c s.heap [] 0 0 (MQ below (mQR (some (.int r))) args s 0 0 (fun _ => False)) (F0 m 35 ls []) := by
  have hx := X.ex
  have hb := X.by_
  unfold f_CL_same_35 at hf
  refine lv_iconst (v := 0) hx hb d_CL_same_35 (by decide) ?_
  exact w_CL_same_36 X G I hf hl

set_option maxHeartbeats 4000000 in
set_option maxRecDepth 100000 in
theorem w_CL_same {μ : mM} {h0 : Nat} {r : Int32} (X : mX p m meth c s args b_CL_same 5 (some .boolean) "ColourLinker") (G : mG D cA dA z0 s) (I : mI D cA z0 s μ s.heap [] s.heap.size) {ls : Array Slot} {x1 : Int32} {x2 : Int32} (hf : f_CL_same μ h0 x1 x2 = some r) (hl : lv_has ls 5 [(0, va_rf (some h0)), (1, .int x1), (2, .int x2)]) : W p l e rm_CL_same s m args below meth c s.heap [] 0 0 (MQ below (mQR (some (.int r))) args s 0 0 (fun _ => False)) (F0 m 0 ls []) := by
  have hx := X.ex
  have hb := X.by_
  unfold f_CL_same at hf
  refine r_aload_n X d_CL_same_0 rfl (lv_at hl 0 rfl) ?_
  refine lv_iload_n hx hb d_CL_same_1 rfl (lv_at hl 1 rfl) ?_
  obtain ⟨q1, hv, hf⟩ := mbind hf
  obtain ⟨a, ha, hv⟩ := mbind hv
  obtain ⟨ha, fs, hm⟩ := mrc_e ha
  refine m_caR (m_runV (As := [.int x1]) (r := some h0) (rest := []) X G I h_CL_profileAt k_617 (c_CL_profileAt hv) mPr_blind (m_pre G I) hm rfl ha rfl rfl hl.1 (Nat.le_of_ble_eq_true rfl) rfl rfl ⟨Nat.le_of_ble_eq_true rfl, Nat.le_of_ble_eq_true rfl⟩ ⟨Nat.le_refl _, Nat.le_refl _⟩ d_CL_same_2) ?_
  refine r_astore_n (i := 3) (lv' := [(3, va_rf q1), (0, va_rf (some h0)), (1, .int x1), (2, .int x2)]) X d_CL_same_5 rfl hl (by decide) rfl (fun ls hl => ?_)
  refine r_aload_n X d_CL_same_6 rfl (lv_at hl 1 rfl) ?_
  refine lv_iload_n hx hb d_CL_same_7 rfl (lv_at hl 3 rfl) ?_
  obtain ⟨q2, hv, hf⟩ := mbind hf
  obtain ⟨a, ha, hv⟩ := mbind hv
  obtain ⟨ha, fs, hm⟩ := mrc_e ha
  refine m_caR (m_runV (As := [.int x2]) (r := some h0) (rest := []) X G I h_CL_profileAt k_617 (c_CL_profileAt hv) mPr_blind (m_pre G I) hm rfl ha rfl rfl hl.1 (Nat.le_of_ble_eq_true rfl) rfl rfl ⟨Nat.le_of_ble_eq_true rfl, Nat.le_of_ble_eq_true rfl⟩ ⟨Nat.le_refl _, Nat.le_refl _⟩ d_CL_same_8) ?_
  refine r_astore (i := 4) (lv' := [(4, va_rf q2), (3, va_rf q1), (0, va_rf (some h0)), (1, .int x1), (2, .int x2)]) X d_CL_same_11 hl (by decide) (by simp [mrf_cat]) (fun ls hl => ?_)
  refine r_aload_n X d_CL_same_13 rfl (lv_at hl 1 rfl) ?_
  refine r_ifnull (tgt := 35) X d_CL_same_14 (by decide) (fun hc => ?_) (fun hc => ?_)
  · have hf := mift hf hc
    exact w_CL_same_35 X G I hf (lv_sub hl [2] rfl)
  · have hf := miff hf hc
    refine r_aload X d_CL_same_17 (lv_at hl 0 rfl) ?_
    refine r_ifnull (tgt := 35) X d_CL_same_19 (by decide) (fun hc => ?_) (fun hc => ?_)
    · have hf := mift hf hc
      exact w_CL_same_35 X G I hf (lv_sub hl [2] rfl)
    · have hf := miff hf hc
      refine r_aload_n X d_CL_same_22 rfl (lv_at hl 1 rfl) ?_
      refine r_aload X d_CL_same_23 (lv_at hl 0 rfl) ?_
      obtain ⟨q3, hv, hf⟩ := mbind hf
      obtain ⟨a, ha, hv⟩ := mbind hv
      obtain ⟨ha, fs, hm⟩ := mrc_e ha
      refine m_caR (m_runV (As := [va_rf q2]) (r := q1) (rest := []) X G I h_Profile_isLike k_625 (c_Profile_isLike hv) mPr_blind (m_pre G I) hm rfl ha rfl rfl hl.1 (Nat.le_of_ble_eq_true rfl) rfl rfl ⟨Nat.le_of_ble_eq_true rfl, Nat.le_of_ble_eq_true rfl⟩ ⟨Nat.le_refl _, Nat.le_refl _⟩ d_CL_same_25) ?_
      refine lv_if_eq (tgt := 35) hx hb d_CL_same_28 (by decide) (fun hc => ?_) (fun hc => ?_)
      · have hf := mift hf hc
        exact w_CL_same_35 X G I hf (lv_sub hl [2] rfl)
      · have hf := miff hf hc
        refine lv_iconst (v := 1) hx hb d_CL_same_31 (by decide) ?_
        refine lv_goto (tgt := 36) hx hb d_CL_same_32 (by decide) ?_
        exact w_CL_same_36 X G I hf (lv_sub hl [2] rfl)

set_option maxHeartbeats 4000000 in
set_option maxRecDepth 100000 in
theorem c_CL_same {l : Launch} {D : va_G} {cA : Nat → ClassId} {dA z0 : Nat} {μ : mM} {h0 : Nat} {x1 : Int32} {x2 : Int32} {r : Int32} (hf : f_CL_same μ h0 x1 x2 = some r) : Met l y_CL_same (mW y_CL_same b_CL_same 5 (some .boolean)) rm_CL_same (va_Pc [.ref h0, .int x1, .int x2] (mPr D cA dA z0 μ)) (mQR (some (.int r))) 0 0 (fun _ => False) := by
  refine Met.ofW (cc := b_CL_same) (maxL := 5) (ret := (some .boolean)) (by decide) rfl ?_
  intro p e s m args below meth c s₁ B hml hv
  obtain ⟨rfl, G, hP⟩ := hv
  have X := mX.of B hml
  exact m_entry (lv := [(0, va_rf (some h0)), (1, .int x1), (2, .int x2)]) (Nat.le_of_ble_eq_true rfl) rfl (fun ls hl => w_CL_same X G (mI.start hP) hf hl)

abbrev rm_Mo_alike : Room := { frames := 1, cells := 0, slots := 0, locals := 22 }
theorem h_Mo_alike : mCV y_Mo_alike b_Mo_alike 10 (some .boolean) 4 := ⟨k_966, k_79, ⟨by decide, by decide, by decide +kernel⟩, k_965, k_34⟩
set_option maxHeartbeats 4000000 in
set_option maxRecDepth 100000 in
theorem w_Mo_alike_103 {μ : mM} {h0 : Nat} {r : Int32} (X : mX p m meth c s args b_Mo_alike 10 (some .boolean) "ColourLinkerModel") (G : mG D cA dA z0 s) (I : mI D cA z0 s μ s.heap [] s.heap.size) {ls : Array Slot} {x6 : Int32} (hf : f_Mo_alike_103 μ h0 x6 = some r) (hl : lv_has ls 10 [(0, va_rf (some h0)), (6, .int x6)]) : W p l e rm_Mo_alike s m args below meth c s.heap [] 0 0 (MQ below (mQR (some (.int r))) args s 0 0 (fun _ => False)) (F0 m 103 ls []) := by
  have hx := X.ex
  have hb := X.by_
  unfold f_Mo_alike_103 at hf
  refine lv_iload hx hb d_Mo_alike_103 (lv_at hl 1 rfl) ?_
  obtain ⟨v7, hv, hf⟩ := mbind hf
  obtain ⟨hz0, hz⟩ := mz_e hv
  rw [hz0] at hf
  obtain rfl := Option.some.inj hf
  exact r_zretR X hz d_Mo_alike_105

set_option maxHeartbeats 4000000 in
set_option maxRecDepth 100000 in
theorem w_Mo_alike_95 {μ : mM} {h0 : Nat} {r : Int32} (X : mX p m meth c s args b_Mo_alike 10 (some .boolean) "ColourLinkerModel") (G : mG D cA dA z0 s) (I : mI D cA z0 s μ s.heap [] s.heap.size) {k : Int32 → Int32 → Int32 → Int32 → Int32 → Int32 → Int32 → Option (Int32)} {kx103 : Int32 → Option (Int32)} (hk : ∀ (ls : Array Slot) (x1 : Int32) (x3 : Int32) (x5 : Int32) (x6 : Int32) (x7 : Int32) (x8 : Int32) (x9 : Int32), k x1 x3 x5 x6 x7 x8 x9 = some r → lv_has ls 10 [(0, va_rf (some h0)), (1, .int x1), (3, .int x3), (5, .int x5), (6, .int x6), (7, .int x7), (8, .int x8), (9, .int x9)] → W p l e rm_Mo_alike s m args below meth c s.heap [] 0 0 (MQ below (mQR (some (.int r))) args s 0 0 (fun _ => False)) (F0 m 55 ls [])) (hkx103 : ∀ (ls : Array Slot) (x6 : Int32), kx103 x6 = some r → lv_has ls 10 [(0, va_rf (some h0)), (6, .int x6)] → W p l e rm_Mo_alike s m args below meth c s.heap [] 0 0 (MQ below (mQR (some (.int r))) args s 0 0 (fun _ => False)) (F0 m 103 ls [])) {ls : Array Slot} {x1 : Int32} {x3 : Int32} {x5 : Int32} {x7 : Int32} {x8 : Int32} {x9 : Int32} {s0 : Int32} (hf : f_Mo_alike_95 μ h0 k kx103 x1 x3 x5 x7 x8 x9 s0 = some r) (hl : lv_has ls 10 [(0, va_rf (some h0)), (1, .int x1), (3, .int x3), (5, .int x5), (7, .int x7), (8, .int x8), (9, .int x9)]) : W p l e rm_Mo_alike s m args below meth c s.heap [] 0 0 (MQ below (mQR (some (.int r))) args s 0 0 (fun _ => False)) (F0 m 95 ls [.int s0]) := by
  have hx := X.ex
  have hb := X.by_
  unfold f_Mo_alike_95 at hf
  refine lv_istore (i := 6) (lv' := [(6, .int s0), (0, va_rf (some h0)), (1, .int x1), (3, .int x3), (5, .int x5), (7, .int x7), (8, .int x8), (9, .int x9)]) hx hb d_Mo_alike_95 hl (by decide) rfl (fun ls hl => ?_)
  refine lv_iinc (i := 9) (k := 7) (v := (x9 + (1 : Int32))) (lv' := [(9, .int (x9 + (1 : Int32))), (6, .int s0), (0, va_rf (some h0)), (1, .int x1), (3, .int x3), (5, .int x5), (7, .int x7), (8, .int x8)]) hx hb d_Mo_alike_97 hl rfl (congrArg (fun t => x9 + t) (by decide : Int32.ofInt (1) = (1 : Int32))) (by decide) rfl (fun ls hl => ?_)
  refine lv_goto (tgt := 55) hx hb d_Mo_alike_100 (by decide) ?_
  exact hk _ _ _ _ _ _ _ _ hf (lv_sub hl [2, 3, 4, 5, 1, 6, 7, 0] rfl)

set_option maxHeartbeats 4000000 in
set_option maxRecDepth 100000 in
theorem w_Mo_alike_55 {μ : mM} {h0 : Nat} {r : Int32} (X : mX p m meth c s args b_Mo_alike 10 (some .boolean) "ColourLinkerModel") (G : mG D cA dA z0 s) (I : mI D cA z0 s μ s.heap [] s.heap.size) {kx103 : Int32 → Option (Int32)} (hkx103 : ∀ (ls : Array Slot) (x6 : Int32), kx103 x6 = some r → lv_has ls 10 [(0, va_rf (some h0)), (6, .int x6)] → W p l e rm_Mo_alike s m args below meth c s.heap [] 0 0 (MQ below (mQR (some (.int r))) args s 0 0 (fun _ => False)) (F0 m 103 ls [])) : ∀ (n : Nat) (ls : Array Slot) (x1 : Int32) (x3 : Int32) (x5 : Int32) (x6 : Int32) (x7 : Int32) (x8 : Int32) (x9 : Int32), f_Mo_alike_55 μ h0 kx103 n x1 x3 x5 x6 x7 x8 x9 = some r → lv_has ls 10 [(0, va_rf (some h0)), (1, .int x1), (3, .int x3), (5, .int x5), (6, .int x6), (7, .int x7), (8, .int x8), (9, .int x9)] → W p l e rm_Mo_alike s m args below meth c s.heap [] 0 0 (MQ below (mQR (some (.int r))) args s 0 0 (fun _ => False)) (F0 m 55 ls []) := by
  have hx := X.ex
  have hb := X.by_
  intro n
  induction n with
  | zero => intro ls x1 x3 x5 x6 x7 x8 x9 hf hl; rw [f_Mo_alike_55] at hf; cases hf
  | succ n ih =>
    intro ls x1 x3 x5 x6 x7 x8 x9 hf hl
    rw [f_Mo_alike_55] at hf
    refine lv_iload hx hb d_Mo_alike_55 (lv_at hl 7 rfl) ?_
    refine lv_iload hx hb d_Mo_alike_57 (lv_at hl 3 rfl) ?_
    refine lv_icmp_ge (tgt := 103) hx hb d_Mo_alike_59 (by decide) (fun hc => ?_) (fun hc => ?_)
    · have hf := mift hf hc
      exact hkx103 _ _ hf (lv_sub hl [0, 4] rfl)
    · have hf := miff hf hc
      refine lv_iload hx hb d_Mo_alike_62 (lv_at hl 4 rfl) ?_
      refine lv_if_eq (tgt := 103) hx hb d_Mo_alike_64 (by decide) (fun hc => ?_) (fun hc => ?_)
      · have hf := mift hf hc
        exact hkx103 _ _ hf (lv_sub hl [0, 4] rfl)
      · have hf := miff hf hc
        refine r_aload_n X d_Mo_alike_67 rfl (lv_at hl 0 rfl) ?_
        refine lv_iload_n hx hb d_Mo_alike_68 rfl (lv_at hl 1 rfl) ?_
        refine lv_iload hx hb d_Mo_alike_69 (lv_at hl 5 rfl) ?_
        refine lv_iload hx hb d_Mo_alike_71 (lv_at hl 7 rfl) ?_
        refine lv_iadd hx hb d_Mo_alike_73 ?_
        obtain ⟨q5, hv, hf⟩ := mbind hf
        obtain ⟨a, ha, hv⟩ := mbind hv
        obtain ⟨ha, fs, hm⟩ := mrc_e ha
        refine m_caR (m_runV (As := [.int x1, .int (x7 + x9)]) (r := some h0) (rest := []) X G I h_Mo_part k_955 (c_Mo_part hv) mPr_blind (m_pre G I) hm rfl ha rfl rfl hl.1 (Nat.le_of_ble_eq_true rfl) rfl rfl ⟨Nat.le_of_ble_eq_true rfl, Nat.le_of_ble_eq_true rfl⟩ ⟨Nat.le_refl _, Nat.le_refl _⟩ d_Mo_alike_74) ?_
        refine r_aload_n X d_Mo_alike_77 rfl (lv_at hl 0 rfl) ?_
        refine lv_iload_n hx hb d_Mo_alike_78 rfl (lv_at hl 2 rfl) ?_
        refine lv_iload hx hb d_Mo_alike_79 (lv_at hl 6 rfl) ?_
        refine lv_iload hx hb d_Mo_alike_81 (lv_at hl 7 rfl) ?_
        refine lv_iadd hx hb d_Mo_alike_83 ?_
        obtain ⟨q6, hv, hf⟩ := mbind hf
        obtain ⟨a, ha, hv⟩ := mbind hv
        obtain ⟨ha, fs, hm⟩ := mrc_e ha
        refine m_caR (m_runV (As := [.int x3, .int (x8 + x9)]) (r := some h0) (rest := [.int q5]) X G I h_Mo_part k_955 (c_Mo_part hv) mPr_blind (m_pre G I) hm rfl ha rfl rfl hl.1 (Nat.le_of_ble_eq_true rfl) rfl rfl ⟨Nat.le_of_ble_eq_true rfl, Nat.le_of_ble_eq_true rfl⟩ ⟨Nat.le_refl _, Nat.le_refl _⟩ d_Mo_alike_84) ?_
        refine lv_icmp_ne (tgt := 94) hx hb d_Mo_alike_87 (by decide) (fun hc => ?_) (fun hc => ?_)
        · have hf := miff hf hc
          refine lv_iconst (v := 0) hx hb d_Mo_alike_94 (by decide) ?_
          exact w_Mo_alike_95 X G I ih hkx103 hf (lv_sub hl [0, 1, 2, 3, 5, 6, 7] rfl)
        · have hf := mift hf hc
          refine lv_iconst (v := 1) hx hb d_Mo_alike_90 (by decide) ?_
          refine lv_goto (tgt := 95) hx hb d_Mo_alike_91 (by decide) ?_
          exact w_Mo_alike_95 X G I ih hkx103 hf (lv_sub hl [0, 1, 2, 3, 5, 6, 7] rfl)

set_option maxHeartbeats 4000000 in
set_option maxRecDepth 100000 in
theorem w_Mo_alike_29 {μ : mM} {h0 : Nat} {r : Int32} (X : mX p m meth c s args b_Mo_alike 10 (some .boolean) "ColourLinkerModel") (G : mG D cA dA z0 s) (I : mI D cA z0 s μ s.heap [] s.heap.size) {ls : Array Slot} {x1 : Int32} {x2 : Int32} {x3 : Int32} {x4 : Int32} {x5 : Int32} {s0 : Int32} (hf : f_Mo_alike_29 μ h0 x1 x2 x3 x4 x5 s0 = some r) (hl : lv_has ls 10 [(0, va_rf (some h0)), (1, .int x1), (2, .int x2), (3, .int x3), (4, .int x4), (5, .int x5)]) : W p l e rm_Mo_alike s m args below meth c s.heap [] 0 0 (MQ below (mQR (some (.int r))) args s 0 0 (fun _ => False)) (F0 m 29 ls [.int s0]) := by
  have hx := X.ex
  have hb := X.by_
  unfold f_Mo_alike_29 at hf
  refine lv_istore (i := 6) (lv' := [(6, .int s0), (0, va_rf (some h0)), (1, .int x1), (2, .int x2), (3, .int x3), (4, .int x4), (5, .int x5)]) hx hb d_Mo_alike_29 hl (by decide) rfl (fun ls hl => ?_)
  refine r_aload_n X d_Mo_alike_31 rfl (lv_at hl 1 rfl) ?_
  refine lv_iload_n hx hb d_Mo_alike_32 rfl (lv_at hl 2 rfl) ?_
  refine lv_iload_n hx hb d_Mo_alike_33 rfl (lv_at hl 3 rfl) ?_
  refine lv_iconst (v := 1) hx hb d_Mo_alike_34 (by decide) ?_
  refine lv_iadd hx hb d_Mo_alike_35 ?_
  obtain ⟨q3, hv, hf⟩ := mbind hf
  obtain ⟨a, ha, hv⟩ := mbind hv
  obtain ⟨ha, fs, hm⟩ := mrc_e ha
  refine m_caR (m_runV (As := [.int x1, .int (x2 + (1 : Int32))]) (r := some h0) (rest := []) X G I h_Mo_part k_955 (c_Mo_part hv) mPr_blind (m_pre G I) hm rfl ha rfl rfl hl.1 (Nat.le_of_ble_eq_true rfl) rfl rfl ⟨Nat.le_of_ble_eq_true rfl, Nat.le_of_ble_eq_true rfl⟩ ⟨Nat.le_refl _, Nat.le_refl _⟩ d_Mo_alike_36) ?_
  refine lv_istore (i := 7) (lv' := [(7, .int q3), (6, .int s0), (0, va_rf (some h0)), (1, .int x1), (2, .int x2), (3, .int x3), (4, .int x4), (5, .int x5)]) hx hb d_Mo_alike_39 hl (by decide) rfl (fun ls hl => ?_)
  refine r_aload_n X d_Mo_alike_41 rfl (lv_at hl 2 rfl) ?_
  refine lv_iload_n hx hb d_Mo_alike_42 rfl (lv_at hl 5 rfl) ?_
  refine lv_iload hx hb d_Mo_alike_43 (lv_at hl 6 rfl) ?_
  refine lv_iconst (v := 1) hx hb d_Mo_alike_45 (by decide) ?_
  refine lv_iadd hx hb d_Mo_alike_46 ?_
  obtain ⟨q4, hv, hf⟩ := mbind hf
  obtain ⟨a, ha, hv⟩ := mbind hv
  obtain ⟨ha, fs, hm⟩ := mrc_e ha
  refine m_caR (m_runV (As := [.int x3, .int (x4 + (1 : Int32))]) (r := some h0) (rest := []) X G I h_Mo_part k_955 (c_Mo_part hv) mPr_blind (m_pre G I) hm rfl ha rfl rfl hl.1 (Nat.le_of_ble_eq_true rfl) rfl rfl ⟨Nat.le_of_ble_eq_true rfl, Nat.le_of_ble_eq_true rfl⟩ ⟨Nat.le_refl _, Nat.le_refl _⟩ d_Mo_alike_47) ?_
  refine lv_istore (i := 8) (lv' := [(8, .int q4), (7, .int q3), (6, .int s0), (0, va_rf (some h0)), (1, .int x1), (2, .int x2), (3, .int x3), (4, .int x4), (5, .int x5)]) hx hb d_Mo_alike_50 hl (by decide) rfl (fun ls hl => ?_)
  refine lv_iconst (v := 0) hx hb d_Mo_alike_52 (by decide) ?_
  refine lv_istore (i := 9) (lv' := [(9, .int (0 : Int32)), (8, .int q4), (7, .int q3), (6, .int s0), (0, va_rf (some h0)), (1, .int x1), (2, .int x2), (3, .int x3), (4, .int x4), (5, .int x5)]) hx hb d_Mo_alike_53 hl (by decide) rfl (fun ls hl => ?_)
  exact w_Mo_alike_55 X G I (fun ls x6 hf hl => w_Mo_alike_103 X G I hf hl) 4096 _ _ _ _ _ _ _ _ hf (lv_sub hl [4, 5, 7, 9, 3, 2, 1, 0] rfl)

set_option maxHeartbeats 4000000 in
set_option maxRecDepth 100000 in
theorem w_Mo_alike {μ : mM} {h0 : Nat} {r : Int32} (X : mX p m meth c s args b_Mo_alike 10 (some .boolean) "ColourLinkerModel") (G : mG D cA dA z0 s) (I : mI D cA z0 s μ s.heap [] s.heap.size) {ls : Array Slot} {x1 : Int32} {x2 : Int32} {x3 : Int32} {x4 : Int32} (hf : f_Mo_alike μ h0 x1 x2 x3 x4 = some r) (hl : lv_has ls 10 [(0, va_rf (some h0)), (1, .int x1), (2, .int x2), (3, .int x3), (4, .int x4)]) : W p l e rm_Mo_alike s m args below meth c s.heap [] 0 0 (MQ below (mQR (some (.int r))) args s 0 0 (fun _ => False)) (F0 m 0 ls []) := by
  have hx := X.ex
  have hb := X.by_
  unfold f_Mo_alike at hf
  refine r_aload_n X d_Mo_alike_0 rfl (lv_at hl 0 rfl) ?_
  refine lv_iload_n hx hb d_Mo_alike_1 rfl (lv_at hl 1 rfl) ?_
  refine lv_iload_n hx hb d_Mo_alike_2 rfl (lv_at hl 2 rfl) ?_
  refine lv_iconst (v := 2) hx hb d_Mo_alike_3 (by decide) ?_
  refine lv_iadd hx hb d_Mo_alike_4 ?_
  obtain ⟨q1, hv, hf⟩ := mbind hf
  obtain ⟨a, ha, hv⟩ := mbind hv
  obtain ⟨ha, fs, hm⟩ := mrc_e ha
  refine m_caR (m_runV (As := [.int x1, .int (x2 + (2 : Int32))]) (r := some h0) (rest := []) X G I h_Mo_part k_955 (c_Mo_part hv) mPr_blind (m_pre G I) hm rfl ha rfl rfl hl.1 (Nat.le_of_ble_eq_true rfl) rfl rfl ⟨Nat.le_of_ble_eq_true rfl, Nat.le_of_ble_eq_true rfl⟩ ⟨Nat.le_refl _, Nat.le_refl _⟩ d_Mo_alike_5) ?_
  refine lv_istore (i := 5) (lv' := [(5, .int q1), (0, va_rf (some h0)), (1, .int x1), (2, .int x2), (3, .int x3), (4, .int x4)]) hx hb d_Mo_alike_8 hl (by decide) rfl (fun ls hl => ?_)
  refine lv_iload hx hb d_Mo_alike_10 (lv_at hl 0 rfl) ?_
  refine r_aload_n X d_Mo_alike_12 rfl (lv_at hl 1 rfl) ?_
  refine lv_iload_n hx hb d_Mo_alike_13 rfl (lv_at hl 4 rfl) ?_
  refine lv_iload hx hb d_Mo_alike_14 (lv_at hl 5 rfl) ?_
  refine lv_iconst (v := 2) hx hb d_Mo_alike_16 (by decide) ?_
  refine lv_iadd hx hb d_Mo_alike_17 ?_
  obtain ⟨q2, hv, hf⟩ := mbind hf
  obtain ⟨a, ha, hv⟩ := mbind hv
  obtain ⟨ha, fs, hm⟩ := mrc_e ha
  refine m_caR (m_runV (As := [.int x3, .int (x4 + (2 : Int32))]) (r := some h0) (rest := [.int q1]) X G I h_Mo_part k_955 (c_Mo_part hv) mPr_blind (m_pre G I) hm rfl ha rfl rfl hl.1 (Nat.le_of_ble_eq_true rfl) rfl rfl ⟨Nat.le_of_ble_eq_true rfl, Nat.le_of_ble_eq_true rfl⟩ ⟨Nat.le_refl _, Nat.le_refl _⟩ d_Mo_alike_18) ?_
  refine lv_icmp_ne (tgt := 28) hx hb d_Mo_alike_21 (by decide) (fun hc => ?_) (fun hc => ?_)
  · have hf := miff hf hc
    refine lv_iconst (v := 0) hx hb d_Mo_alike_28 (by decide) ?_
    exact w_Mo_alike_29 X G I hf (lv_sub hl [1, 2, 3, 4, 5, 0] rfl)
  · have hf := mift hf hc
    refine lv_iconst (v := 1) hx hb d_Mo_alike_24 (by decide) ?_
    refine lv_goto (tgt := 29) hx hb d_Mo_alike_25 (by decide) ?_
    exact w_Mo_alike_29 X G I hf (lv_sub hl [1, 2, 3, 4, 5, 0] rfl)

set_option maxHeartbeats 4000000 in
set_option maxRecDepth 100000 in
theorem c_Mo_alike {l : Launch} {D : va_G} {cA : Nat → ClassId} {dA z0 : Nat} {μ : mM} {h0 : Nat} {x1 : Int32} {x2 : Int32} {x3 : Int32} {x4 : Int32} {r : Int32} (hf : f_Mo_alike μ h0 x1 x2 x3 x4 = some r) : Met l y_Mo_alike (mW y_Mo_alike b_Mo_alike 10 (some .boolean)) rm_Mo_alike (va_Pc [.ref h0, .int x1, .int x2, .int x3, .int x4] (mPr D cA dA z0 μ)) (mQR (some (.int r))) 0 0 (fun _ => False) := by
  refine Met.ofW (cc := b_Mo_alike) (maxL := 10) (ret := (some .boolean)) (by decide) rfl ?_
  intro p e s m args below meth c s₁ B hml hv
  obtain ⟨rfl, G, hP⟩ := hv
  have X := mX.of B hml
  exact m_entry (lv := [(0, va_rf (some h0)), (1, .int x1), (2, .int x2), (3, .int x3), (4, .int x4)]) (Nat.le_of_ble_eq_true rfl) rfl (fun ls hl => w_Mo_alike X G (mI.start hP) hf hl)

abbrev rm_Mo_same : Room := { frames := 2, cells := 0, slots := 0, locals := 51 }
theorem h_Mo_same : mCV y_Mo_same b_Mo_same 7 (some .boolean) 2 := ⟨k_962, k_79, ⟨by decide, by decide, by decide +kernel⟩, k_960, k_961⟩
set_option maxHeartbeats 4000000 in
set_option maxRecDepth 100000 in
theorem w_Mo_same_143 {μ : mM} {h0 : Nat} {r : Int32} (X : mX p m meth c s args b_Mo_same 7 (some .boolean) "ColourLinkerModel") (G : mG D cA dA z0 s) (I : mI D cA z0 s μ s.heap [] s.heap.size) {ls : Array Slot} {x3 : Int32} (hf : f_Mo_same_143 μ h0 x3 = some r) (hl : lv_has ls 7 [(0, va_rf (some h0)), (3, .int x3)]) : W p l e rm_Mo_same s m args below meth c s.heap [] 0 0 (MQ below (mQR (some (.int r))) args s 0 0 (fun _ => False)) (F0 m 143 ls []) := by
  have hx := X.ex
  have hb := X.by_
  unfold f_Mo_same_143 at hf
  refine lv_iload_n hx hb d_Mo_same_143 rfl (lv_at hl 1 rfl) ?_
  obtain ⟨v12, hv, hf⟩ := mbind hf
  obtain ⟨hz0, hz⟩ := mz_e hv
  rw [hz0] at hf
  obtain rfl := Option.some.inj hf
  exact r_zretR X hz d_Mo_same_144

set_option maxHeartbeats 4000000 in
set_option maxRecDepth 100000 in
theorem w_Mo_same_136 {μ : mM} {h0 : Nat} {r : Int32} (X : mX p m meth c s args b_Mo_same 7 (some .boolean) "ColourLinkerModel") (G : mG D cA dA z0 s) (I : mI D cA z0 s μ s.heap [] s.heap.size) {k : Int32 → Int32 → Int32 → Int32 → Option (Int32)} {kx143 : Int32 → Option (Int32)} (hk : ∀ (ls : Array Slot) (x1 : Int32) (x2 : Int32) (x3 : Int32) (x4 : Int32), k x1 x2 x3 x4 = some r → lv_has ls 7 [(0, va_rf (some h0)), (1, .int x1), (2, .int x2), (3, .int x3), (4, .int x4)] → W p l e rm_Mo_same s m args below meth c s.heap [] 0 0 (MQ below (mQR (some (.int r))) args s 0 0 (fun _ => False)) (F0 m 72 ls [])) (hkx143 : ∀ (ls : Array Slot) (x3 : Int32), kx143 x3 = some r → lv_has ls 7 [(0, va_rf (some h0)), (3, .int x3)] → W p l e rm_Mo_same s m args below meth c s.heap [] 0 0 (MQ below (mQR (some (.int r))) args s 0 0 (fun _ => False)) (F0 m 143 ls [])) {ls : Array Slot} {x1 : Int32} {x2 : Int32} {x4 : Int32} {s0 : Int32} (hf : f_Mo_same_136 μ h0 k kx143 x1 x2 x4 s0 = some r) (hl : lv_has ls 7 [(0, va_rf (some h0)), (1, .int x1), (2, .int x2), (4, .int x4)]) : W p l e rm_Mo_same s m args below meth c s.heap [] 0 0 (MQ below (mQR (some (.int r))) args s 0 0 (fun _ => False)) (F0 m 136 ls [.int s0]) := by
  have hx := X.ex
  have hb := X.by_
  unfold f_Mo_same_136 at hf
  refine lv_istore_n (i := 3) (lv' := [(3, .int s0), (0, va_rf (some h0)), (1, .int x1), (2, .int x2), (4, .int x4)]) hx hb d_Mo_same_136 rfl hl (by decide) rfl (fun ls hl => ?_)
  refine lv_iinc (i := 4) (k := 4) (v := (x4 + (1 : Int32))) (lv' := [(4, .int (x4 + (1 : Int32))), (3, .int s0), (0, va_rf (some h0)), (1, .int x1), (2, .int x2)]) hx hb d_Mo_same_137 hl rfl (congrArg (fun t => x4 + t) (by decide : Int32.ofInt (1) = (1 : Int32))) (by decide) rfl (fun ls hl => ?_)
  refine lv_goto (tgt := 72) hx hb d_Mo_same_140 (by decide) ?_
  exact hk _ _ _ _ _ hf (lv_sub hl [2, 3, 4, 1, 0] rfl)

set_option maxHeartbeats 4000000 in
set_option maxRecDepth 100000 in
theorem w_Mo_same_111 {μ : mM} {h0 : Nat} {r : Int32} (X : mX p m meth c s args b_Mo_same 7 (some .boolean) "ColourLinkerModel") (G : mG D cA dA z0 s) (I : mI D cA z0 s μ s.heap [] s.heap.size) {k : Int32 → Int32 → Int32 → Int32 → Option (Int32)} {kx143 : Int32 → Option (Int32)} (hk : ∀ (ls : Array Slot) (x1 : Int32) (x2 : Int32) (x3 : Int32) (x4 : Int32), k x1 x2 x3 x4 = some r → lv_has ls 7 [(0, va_rf (some h0)), (1, .int x1), (2, .int x2), (3, .int x3), (4, .int x4)] → W p l e rm_Mo_same s m args below meth c s.heap [] 0 0 (MQ below (mQR (some (.int r))) args s 0 0 (fun _ => False)) (F0 m 72 ls [])) (hkx143 : ∀ (ls : Array Slot) (x3 : Int32), kx143 x3 = some r → lv_has ls 7 [(0, va_rf (some h0)), (3, .int x3)] → W p l e rm_Mo_same s m args below meth c s.heap [] 0 0 (MQ below (mQR (some (.int r))) args s 0 0 (fun _ => False)) (F0 m 143 ls [])) {ls : Array Slot} {x1 : Int32} {x2 : Int32} {x4 : Int32} {x5 : Int32} {x6 : Int32} (hf : f_Mo_same_111 μ h0 k kx143 x1 x2 x4 x5 x6 = some r) (hl : lv_has ls 7 [(0, va_rf (some h0)), (1, .int x1), (2, .int x2), (4, .int x4), (5, .int x5), (6, .int x6)]) : W p l e rm_Mo_same s m args below meth c s.heap [] 0 0 (MQ below (mQR (some (.int r))) args s 0 0 (fun _ => False)) (F0 m 111 ls []) := by
  have hx := X.ex
  have hb := X.by_
  unfold f_Mo_same_111 at hf
  refine lv_iload hx hb d_Mo_same_111 (lv_at hl 4 rfl) ?_
  refine lv_iload hx hb d_Mo_same_113 (lv_at hl 5 rfl) ?_
  refine lv_icmp_ne (tgt := 122) hx hb d_Mo_same_115 (by decide) (fun hc => ?_) (fun hc => ?_)
  · have hf := miff hf hc
    refine lv_iconst (v := 0) hx hb d_Mo_same_122 (by decide) ?_
    refine lv_goto (tgt := 136) hx hb d_Mo_same_123 (by decide) ?_
    exact w_Mo_same_136 X G I hk hkx143 hf (lv_sub hl [0, 1, 2, 3] rfl)
  · have hf := mift hf hc
    refine lv_iconst (v := 1) hx hb d_Mo_same_118 (by decide) ?_
    refine lv_goto (tgt := 136) hx hb d_Mo_same_119 (by decide) ?_
    exact w_Mo_same_136 X G I hk hkx143 hf (lv_sub hl [0, 1, 2, 3] rfl)

set_option maxHeartbeats 4000000 in
set_option maxRecDepth 100000 in
theorem w_Mo_same_72 {μ : mM} {h0 : Nat} {r : Int32} (X : mX p m meth c s args b_Mo_same 7 (some .boolean) "ColourLinkerModel") (G : mG D cA dA z0 s) (I : mI D cA z0 s μ s.heap [] s.heap.size) {kx143 : Int32 → Option (Int32)} (hkx143 : ∀ (ls : Array Slot) (x3 : Int32), kx143 x3 = some r → lv_has ls 7 [(0, va_rf (some h0)), (3, .int x3)] → W p l e rm_Mo_same s m args below meth c s.heap [] 0 0 (MQ below (mQR (some (.int r))) args s 0 0 (fun _ => False)) (F0 m 143 ls [])) : ∀ (n : Nat) (ls : Array Slot) (x1 : Int32) (x2 : Int32) (x3 : Int32) (x4 : Int32), f_Mo_same_72 μ h0 kx143 n x1 x2 x3 x4 = some r → lv_has ls 7 [(0, va_rf (some h0)), (1, .int x1), (2, .int x2), (3, .int x3), (4, .int x4)] → W p l e rm_Mo_same s m args below meth c s.heap [] 0 0 (MQ below (mQR (some (.int r))) args s 0 0 (fun _ => False)) (F0 m 72 ls []) := by
  have hx := X.ex
  have hb := X.by_
  intro n
  induction n with
  | zero => intro ls x1 x2 x3 x4 hf hl; rw [f_Mo_same_72] at hf; cases hf
  | succ n ih =>
    intro ls x1 x2 x3 x4 hf hl
    rw [f_Mo_same_72] at hf
    refine lv_iload hx hb d_Mo_same_72 (lv_at hl 4 rfl) ?_
    refine lv_bipush (v := 12) hx hb d_Mo_same_74 (by decide) ?_
    refine lv_icmp_gt (tgt := 143) hx hb d_Mo_same_76 (by decide) (fun hc => ?_) (fun hc => ?_)
    · have hf := mift hf hc
      exact hkx143 _ _ hf (lv_sub hl [0, 3] rfl)
    · have hf := miff hf hc
      refine lv_iload_n hx hb d_Mo_same_79 rfl (lv_at hl 3 rfl) ?_
      refine lv_if_eq (tgt := 143) hx hb d_Mo_same_80 (by decide) (fun hc => ?_) (fun hc => ?_)
      · have hf := mift hf hc
        exact hkx143 _ _ hf (lv_sub hl [0, 3] rfl)
      · have hf := miff hf hc
        refine r_aload_n X d_Mo_same_83 rfl (lv_at hl 0 rfl) ?_
        refine lv_iload_n hx hb d_Mo_same_84 rfl (lv_at hl 1 rfl) ?_
        refine lv_iload hx hb d_Mo_same_85 (lv_at hl 4 rfl) ?_
        obtain ⟨q9, hv, hf⟩ := mbind hf
        obtain ⟨a, ha, hv⟩ := mbind hv
        obtain ⟨ha, fs, hm⟩ := mrc_e ha
        refine m_caR (m_runV (As := [.int x1, .int x4]) (r := some h0) (rest := []) X G I h_Mo_entry k_951 (c_Mo_entry hv) mPr_blind (m_pre G I) hm rfl ha rfl rfl hl.1 (Nat.le_of_ble_eq_true rfl) rfl rfl ⟨Nat.le_of_ble_eq_true rfl, Nat.le_of_ble_eq_true rfl⟩ ⟨Nat.le_refl _, Nat.le_refl _⟩ d_Mo_same_87) ?_
        refine lv_istore (i := 5) (lv' := [(5, .int q9), (0, va_rf (some h0)), (1, .int x1), (2, .int x2), (3, .int x3), (4, .int x4)]) hx hb d_Mo_same_90 hl (by decide) rfl (fun ls hl => ?_)
        refine r_aload_n X d_Mo_same_92 rfl (lv_at hl 1 rfl) ?_
        refine lv_iload_n hx hb d_Mo_same_93 rfl (lv_at hl 3 rfl) ?_
        refine lv_iload hx hb d_Mo_same_94 (lv_at hl 5 rfl) ?_
        obtain ⟨q10, hv, hf⟩ := mbind hf
        obtain ⟨a, ha, hv⟩ := mbind hv
        obtain ⟨ha, fs, hm⟩ := mrc_e ha
        refine m_caR (m_runV (As := [.int x2, .int x4]) (r := some h0) (rest := []) X G I h_Mo_entry k_951 (c_Mo_entry hv) mPr_blind (m_pre G I) hm rfl ha rfl rfl hl.1 (Nat.le_of_ble_eq_true rfl) rfl rfl ⟨Nat.le_of_ble_eq_true rfl, Nat.le_of_ble_eq_true rfl⟩ ⟨Nat.le_refl _, Nat.le_refl _⟩ d_Mo_same_96) ?_
        refine lv_istore (i := 6) (lv' := [(6, .int q10), (5, .int q9), (0, va_rf (some h0)), (1, .int x1), (2, .int x2), (3, .int x3), (4, .int x4)]) hx hb d_Mo_same_99 hl (by decide) rfl (fun ls hl => ?_)
        refine lv_iload hx hb d_Mo_same_101 (lv_at hl 1 rfl) ?_
        refine lv_if_lt (tgt := 111) hx hb d_Mo_same_103 (by decide) (fun hc => ?_) (fun hc => ?_)
        · have hf := mift hf hc
          exact w_Mo_same_111 X G I ih hkx143 hf (lv_sub hl [2, 3, 4, 6, 1, 0] rfl)
        · have hf := miff hf hc
          refine lv_iload hx hb d_Mo_same_106 (lv_at hl 0 rfl) ?_
          refine lv_if_ge (tgt := 126) hx hb d_Mo_same_108 (by decide) (fun hc => ?_) (fun hc => ?_)
          · have hf := mift hf hc
            refine r_aload_n X d_Mo_same_126 rfl (lv_at hl 2 rfl) ?_
            refine lv_iload_n hx hb d_Mo_same_127 rfl (lv_at hl 3 rfl) ?_
            refine lv_iload hx hb d_Mo_same_128 (lv_at hl 1 rfl) ?_
            refine lv_iload_n hx hb d_Mo_same_130 rfl (lv_at hl 4 rfl) ?_
            refine lv_iload hx hb d_Mo_same_131 (lv_at hl 0 rfl) ?_
            obtain ⟨q11, hv, hf⟩ := mbind hf
            obtain ⟨a, ha, hv⟩ := mbind hv
            obtain ⟨ha, fs, hm⟩ := mrc_e ha
            refine m_caR (m_runV (As := [.int x1, .int q9, .int x2, .int q10]) (r := some h0) (rest := []) X G I h_Mo_alike k_963 (c_Mo_alike hv) mPr_blind (m_pre G I) hm rfl ha rfl rfl hl.1 (Nat.le_of_ble_eq_true rfl) rfl rfl ⟨Nat.le_of_ble_eq_true rfl, Nat.le_of_ble_eq_true rfl⟩ ⟨Nat.le_refl _, Nat.le_refl _⟩ d_Mo_same_133) ?_
            exact w_Mo_same_136 X G I ih hkx143 hf (lv_sub hl [2, 3, 4, 6] rfl)
          · have hf := miff hf hc
            exact w_Mo_same_111 X G I ih hkx143 hf (lv_sub hl [2, 3, 4, 6, 1, 0] rfl)

set_option maxHeartbeats 4000000 in
set_option maxRecDepth 100000 in
theorem w_Mo_same_68 {μ : mM} {h0 : Nat} {r : Int32} (X : mX p m meth c s args b_Mo_same 7 (some .boolean) "ColourLinkerModel") (G : mG D cA dA z0 s) (I : mI D cA z0 s μ s.heap [] s.heap.size) {ls : Array Slot} {x1 : Int32} {x2 : Int32} {s0 : Int32} (hf : f_Mo_same_68 μ h0 x1 x2 s0 = some r) (hl : lv_has ls 7 [(0, va_rf (some h0)), (1, .int x1), (2, .int x2)]) : W p l e rm_Mo_same s m args below meth c s.heap [] 0 0 (MQ below (mQR (some (.int r))) args s 0 0 (fun _ => False)) (F0 m 68 ls [.int s0]) := by
  have hx := X.ex
  have hb := X.by_
  unfold f_Mo_same_68 at hf
  refine lv_istore_n (i := 3) (lv' := [(3, .int s0), (0, va_rf (some h0)), (1, .int x1), (2, .int x2)]) hx hb d_Mo_same_68 rfl hl (by decide) rfl (fun ls hl => ?_)
  refine lv_iconst (v := 1) hx hb d_Mo_same_69 (by decide) ?_
  refine lv_istore (i := 4) (lv' := [(4, .int (1 : Int32)), (3, .int s0), (0, va_rf (some h0)), (1, .int x1), (2, .int x2)]) hx hb d_Mo_same_70 hl (by decide) rfl (fun ls hl => ?_)
  exact w_Mo_same_72 X G I (fun ls x3 hf hl => w_Mo_same_143 X G I hf hl) 4096 _ _ _ _ _ hf (lv_sub hl [2, 3, 4, 1, 0] rfl)

set_option maxHeartbeats 4000000 in
set_option maxRecDepth 100000 in
theorem w_Mo_same_67 {μ : mM} {h0 : Nat} {r : Int32} (X : mX p m meth c s args b_Mo_same 7 (some .boolean) "ColourLinkerModel") (G : mG D cA dA z0 s) (I : mI D cA z0 s μ s.heap [] s.heap.size) {ls : Array Slot} {x1 : Int32} {x2 : Int32} (hf : f_Mo_same_67 μ h0 x1 x2 = some r) (hl : lv_has ls 7 [(0, va_rf (some h0)), (1, .int x1), (2, .int x2)]) : W p l e rm_Mo_same s m args below meth c s.heap [] 0 0 (MQ below (mQR (some (.int r))) args s 0 0 (fun _ => False)) (F0 m 67 ls []) := by
  have hx := X.ex
  have hb := X.by_
  unfold f_Mo_same_67 at hf
  refine lv_iconst (v := 0) hx hb d_Mo_same_67 (by decide) ?_
  exact w_Mo_same_68 X G I hf hl

set_option maxHeartbeats 4000000 in
set_option maxRecDepth 100000 in
theorem w_Mo_same_16 {μ : mM} {h0 : Nat} {r : Int32} (X : mX p m meth c s args b_Mo_same 7 (some .boolean) "ColourLinkerModel") (G : mG D cA dA z0 s) (I : mI D cA z0 s μ s.heap [] s.heap.size) {ls : Array Slot}  (hf : f_Mo_same_16 μ h0 = some r) (hl : lv_has ls 7 [(0, va_rf (some h0))]) : W p l e rm_Mo_same s m args below meth c s.heap [] 0 0 (MQ below (mQR (some (.int r))) args s 0 0 (fun _ => False)) (F0 m 16 ls []) := by
  have hx := X.ex
  have hb := X.by_
  unfold f_Mo_same_16 at hf
  refine lv_iconst (v := 0) hx hb d_Mo_same_16 (by decide) ?_
  obtain rfl := Option.some.inj hf
  exact r_zretR X (Or.inl rfl) d_Mo_same_17

set_option maxHeartbeats 4000000 in
set_option maxRecDepth 100000 in
theorem w_Mo_same {μ : mM} {h0 : Nat} {r : Int32} (X : mX p m meth c s args b_Mo_same 7 (some .boolean) "ColourLinkerModel") (G : mG D cA dA z0 s) (I : mI D cA z0 s μ s.heap [] s.heap.size) {ls : Array Slot} {x1 : Int32} {x2 : Int32} (hf : f_Mo_same μ h0 x1 x2 = some r) (hl : lv_has ls 7 [(0, va_rf (some h0)), (1, .int x1), (2, .int x2)]) : W p l e rm_Mo_same s m args below meth c s.heap [] 0 0 (MQ below (mQR (some (.int r))) args s 0 0 (fun _ => False)) (F0 m 0 ls []) := by
  have hx := X.ex
  have hb := X.by_
  unfold f_Mo_same at hf
  refine r_aload_n X d_Mo_same_0 rfl (lv_at hl 0 rfl) ?_
  refine lv_iload_n hx hb d_Mo_same_1 rfl (lv_at hl 1 rfl) ?_
  obtain ⟨q1, hv, hf⟩ := mbind hf
  obtain ⟨a, ha, hv⟩ := mbind hv
  obtain ⟨ha, fs, hm⟩ := mrc_e ha
  refine m_caR (m_runV (As := [.int x1]) (r := some h0) (rest := []) X G I h_Mo_there k_943 (c_Mo_there hv) mPr_blind (m_pre G I) hm rfl ha rfl rfl hl.1 (Nat.le_of_ble_eq_true rfl) rfl rfl ⟨Nat.le_of_ble_eq_true rfl, Nat.le_of_ble_eq_true rfl⟩ ⟨Nat.le_refl _, Nat.le_refl _⟩ d_Mo_same_2) ?_
  refine lv_if_eq (tgt := 16) hx hb d_Mo_same_5 (by decide) (fun hc => ?_) (fun hc => ?_)
  · have hf := mift hf hc
    exact w_Mo_same_16 X G I hf (lv_sub hl [0] rfl)
  · have hf := miff hf hc
    refine r_aload_n X d_Mo_same_8 rfl (lv_at hl 0 rfl) ?_
    refine lv_iload_n hx hb d_Mo_same_9 rfl (lv_at hl 2 rfl) ?_
    obtain ⟨q2, hv, hf⟩ := mbind hf
    obtain ⟨a, ha, hv⟩ := mbind hv
    obtain ⟨ha, fs, hm⟩ := mrc_e ha
    refine m_caR (m_runV (As := [.int x2]) (r := some h0) (rest := []) X G I h_Mo_there k_943 (c_Mo_there hv) mPr_blind (m_pre G I) hm rfl ha rfl rfl hl.1 (Nat.le_of_ble_eq_true rfl) rfl rfl ⟨Nat.le_of_ble_eq_true rfl, Nat.le_of_ble_eq_true rfl⟩ ⟨Nat.le_refl _, Nat.le_refl _⟩ d_Mo_same_10) ?_
    refine lv_if_ne (tgt := 18) hx hb d_Mo_same_13 (by decide) (fun hc => ?_) (fun hc => ?_)
    · have hf := miff hf hc
      refine r_aload_n X d_Mo_same_18 rfl (lv_at hl 0 rfl) ?_
      refine lv_iload_n hx hb d_Mo_same_19 rfl (lv_at hl 1 rfl) ?_
      refine lv_iconst (v := 2) hx hb d_Mo_same_20 (by decide) ?_
      obtain ⟨q3, hv, hf⟩ := mbind hf
      obtain ⟨a, ha, hv⟩ := mbind hv
      obtain ⟨ha, fs, hm⟩ := mrc_e ha
      refine m_caR (m_runV (As := [.int x1, .int (2 : Int32)]) (r := some h0) (rest := []) X G I h_Mo_part k_955 (c_Mo_part hv) mPr_blind (m_pre G I) hm rfl ha rfl rfl hl.1 (Nat.le_of_ble_eq_true rfl) rfl rfl ⟨Nat.le_of_ble_eq_true rfl, Nat.le_of_ble_eq_true rfl⟩ ⟨Nat.le_refl _, Nat.le_refl _⟩ d_Mo_same_21) ?_
      refine r_aload_n X d_Mo_same_24 rfl (lv_at hl 0 rfl) ?_
      refine lv_iload_n hx hb d_Mo_same_25 rfl (lv_at hl 2 rfl) ?_
      refine lv_iconst (v := 2) hx hb d_Mo_same_26 (by decide) ?_
      obtain ⟨q4, hv, hf⟩ := mbind hf
      obtain ⟨a, ha, hv⟩ := mbind hv
      obtain ⟨ha, fs, hm⟩ := mrc_e ha
      refine m_caR (m_runV (As := [.int x2, .int (2 : Int32)]) (r := some h0) (rest := [.int q3]) X G I h_Mo_part k_955 (c_Mo_part hv) mPr_blind (m_pre G I) hm rfl ha rfl rfl hl.1 (Nat.le_of_ble_eq_true rfl) rfl rfl ⟨Nat.le_of_ble_eq_true rfl, Nat.le_of_ble_eq_true rfl⟩ ⟨Nat.le_refl _, Nat.le_refl _⟩ d_Mo_same_27) ?_
      refine lv_icmp_ne (tgt := 67) hx hb d_Mo_same_30 (by decide) (fun hc => ?_) (fun hc => ?_)
      · have hf := miff hf hc
        exact w_Mo_same_67 X G I hf hl
      · have hf := mift hf hc
        refine r_aload_n X d_Mo_same_33 rfl (lv_at hl 0 rfl) ?_
        refine lv_iload_n hx hb d_Mo_same_34 rfl (lv_at hl 1 rfl) ?_
        refine lv_iconst (v := 3) hx hb d_Mo_same_35 (by decide) ?_
        obtain ⟨q5, hv, hf⟩ := mbind hf
        obtain ⟨a, ha, hv⟩ := mbind hv
        obtain ⟨ha, fs, hm⟩ := mrc_e ha
        refine m_caR (m_runV (As := [.int x1, .int (3 : Int32)]) (r := some h0) (rest := []) X G I h_Mo_part k_955 (c_Mo_part hv) mPr_blind (m_pre G I) hm rfl ha rfl rfl hl.1 (Nat.le_of_ble_eq_true rfl) rfl rfl ⟨Nat.le_of_ble_eq_true rfl, Nat.le_of_ble_eq_true rfl⟩ ⟨Nat.le_refl _, Nat.le_refl _⟩ d_Mo_same_36) ?_
        refine r_aload_n X d_Mo_same_39 rfl (lv_at hl 0 rfl) ?_
        refine lv_iload_n hx hb d_Mo_same_40 rfl (lv_at hl 2 rfl) ?_
        refine lv_iconst (v := 3) hx hb d_Mo_same_41 (by decide) ?_
        obtain ⟨q6, hv, hf⟩ := mbind hf
        obtain ⟨a, ha, hv⟩ := mbind hv
        obtain ⟨ha, fs, hm⟩ := mrc_e ha
        refine m_caR (m_runV (As := [.int x2, .int (3 : Int32)]) (r := some h0) (rest := [.int q5]) X G I h_Mo_part k_955 (c_Mo_part hv) mPr_blind (m_pre G I) hm rfl ha rfl rfl hl.1 (Nat.le_of_ble_eq_true rfl) rfl rfl ⟨Nat.le_of_ble_eq_true rfl, Nat.le_of_ble_eq_true rfl⟩ ⟨Nat.le_refl _, Nat.le_refl _⟩ d_Mo_same_42) ?_
        refine lv_icmp_ne (tgt := 67) hx hb d_Mo_same_45 (by decide) (fun hc => ?_) (fun hc => ?_)
        · have hf := miff hf hc
          exact w_Mo_same_67 X G I hf hl
        · have hf := mift hf hc
          refine r_aload_n X d_Mo_same_48 rfl (lv_at hl 0 rfl) ?_
          refine lv_iload_n hx hb d_Mo_same_49 rfl (lv_at hl 1 rfl) ?_
          refine lv_iconst (v := 4) hx hb d_Mo_same_50 (by decide) ?_
          obtain ⟨q7, hv, hf⟩ := mbind hf
          obtain ⟨a, ha, hv⟩ := mbind hv
          obtain ⟨ha, fs, hm⟩ := mrc_e ha
          refine m_caR (m_runV (As := [.int x1, .int (4 : Int32)]) (r := some h0) (rest := []) X G I h_Mo_part k_955 (c_Mo_part hv) mPr_blind (m_pre G I) hm rfl ha rfl rfl hl.1 (Nat.le_of_ble_eq_true rfl) rfl rfl ⟨Nat.le_of_ble_eq_true rfl, Nat.le_of_ble_eq_true rfl⟩ ⟨Nat.le_refl _, Nat.le_refl _⟩ d_Mo_same_51) ?_
          refine r_aload_n X d_Mo_same_54 rfl (lv_at hl 0 rfl) ?_
          refine lv_iload_n hx hb d_Mo_same_55 rfl (lv_at hl 2 rfl) ?_
          refine lv_iconst (v := 4) hx hb d_Mo_same_56 (by decide) ?_
          obtain ⟨q8, hv, hf⟩ := mbind hf
          obtain ⟨a, ha, hv⟩ := mbind hv
          obtain ⟨ha, fs, hm⟩ := mrc_e ha
          refine m_caR (m_runV (As := [.int x2, .int (4 : Int32)]) (r := some h0) (rest := [.int q7]) X G I h_Mo_part k_955 (c_Mo_part hv) mPr_blind (m_pre G I) hm rfl ha rfl rfl hl.1 (Nat.le_of_ble_eq_true rfl) rfl rfl ⟨Nat.le_of_ble_eq_true rfl, Nat.le_of_ble_eq_true rfl⟩ ⟨Nat.le_refl _, Nat.le_refl _⟩ d_Mo_same_57) ?_
          refine lv_icmp_ne (tgt := 67) hx hb d_Mo_same_60 (by decide) (fun hc => ?_) (fun hc => ?_)
          · have hf := miff hf hc
            exact w_Mo_same_67 X G I hf hl
          · have hf := mift hf hc
            refine lv_iconst (v := 1) hx hb d_Mo_same_63 (by decide) ?_
            refine lv_goto (tgt := 68) hx hb d_Mo_same_64 (by decide) ?_
            exact w_Mo_same_68 X G I hf hl
    · have hf := mift hf hc
      exact w_Mo_same_16 X G I hf (lv_sub hl [0] rfl)

set_option maxHeartbeats 4000000 in
set_option maxRecDepth 100000 in
theorem c_Mo_same {l : Launch} {D : va_G} {cA : Nat → ClassId} {dA z0 : Nat} {μ : mM} {h0 : Nat} {x1 : Int32} {x2 : Int32} {r : Int32} (hf : f_Mo_same μ h0 x1 x2 = some r) : Met l y_Mo_same (mW y_Mo_same b_Mo_same 7 (some .boolean)) rm_Mo_same (va_Pc [.ref h0, .int x1, .int x2] (mPr D cA dA z0 μ)) (mQR (some (.int r))) 0 0 (fun _ => False) := by
  refine Met.ofW (cc := b_Mo_same) (maxL := 7) (ret := (some .boolean)) (by decide) rfl ?_
  intro p e s m args below meth c s₁ B hml hv
  obtain ⟨rfl, G, hP⟩ := hv
  have X := mX.of B hml
  exact m_entry (lv := [(0, va_rf (some h0)), (1, .int x1), (2, .int x2)]) (Nat.le_of_ble_eq_true rfl) rfl (fun ls hl => w_Mo_same X G (mI.start hP) hf hl)

abbrev rm_Buffer_load : Room := { frames := 1, cells := 0, slots := 0, locals := 26 }
theorem h_Buffer_load : mCV y_Buffer_load b_Buffer_load 2 none 1 := ⟨k_636, k_76, ⟨by decide, by decide, by decide +kernel⟩, k_634, k_635⟩
set_option maxHeartbeats 4000000 in
set_option maxRecDepth 100000 in
theorem w_Buffer_load {h0 : Nat} {r : mM} (X : mX p m meth c s args b_Buffer_load 2 none "ColourLinker$Buffer") (G : mG D cA dA z0 s) {H : Heap} {locs : List Loc} {μ : mM} {ls : Array Slot} {x1 : Option Nat} (I : mI D cA z0 s μ H locs s.heap.size) (hf : f_Buffer_load h0 μ x1 = some r) (hl : lv_has ls 2 [(0, va_rf (some h0)), (1, va_rf x1)]) : W p l e rm_Buffer_load s m args below meth c H locs 0 0 (MQ below (mQW D cA z0 none r) args s 0 0 (mA z0)) (F0 m 0 ls []) := by
  have hx := X.ex
  have hb := X.by_
  unfold f_Buffer_load at hf
  refine r_aload_n X d_Buffer_load_0 rfl (lv_at hl 0 rfl) ?_
  refine r_aload_n X d_Buffer_load_1 rfl (lv_at hl 1 rfl) ?_
  obtain ⟨v1, hv, hf⟩ := mbind hf
  refine r_alen X G I hv d_Buffer_load_2 ?_
  refine lv_sipush (v := 256) hx hb d_Buffer_load_3 (by decide) ?_
  refine va_mmin (rest := [va_rf (some h0)]) hx hb (X.ml.trans hl.1.symm) X.ow (X.w k_637) (X.w k_279) (X.w k_83) (X.w k_280) (Nat.le_of_ble_eq_true rfl) (Nat.le_trans (Nat.add_le_add_right (m_cat8 (Nat.le_of_ble_eq_true rfl)) 13) (Nat.le_of_ble_eq_true rfl)) (Nat.le_refl _) (Nat.le_refl _) d_Buffer_load_6 ?_
  obtain ⟨m2, hv, hf⟩ := mbind hf
  refine r_put (ty := .int) X G I hv o_Buffer_count k_106 (Or.inl rfl) (by decide) rfl rfl d_Buffer_load_9 (fun H locs I => ?_)
  refine r_aload_n X d_Buffer_load_12 rfl (lv_at hl 1 rfl) ?_
  refine lv_iconst (v := 0) hx hb d_Buffer_load_13 (by decide) ?_
  refine r_aload_n X d_Buffer_load_14 rfl (lv_at hl 0 rfl) ?_
  obtain ⟨v3, hv, hf⟩ := mbind hf
  refine r_getf X G I (mfA_e hv) o_Buffer_row k_105 (Or.inl rfl) d_Buffer_load_15 ?_
  refine lv_iconst (v := 0) hx hb d_Buffer_load_18 (by decide) ?_
  refine r_aload_n X d_Buffer_load_19 rfl (lv_at hl 0 rfl) ?_
  obtain ⟨v4, hv, hf⟩ := mbind hf
  refine r_getf X G I (mfI_e hv) o_Buffer_count k_106 (Or.inl rfl) d_Buffer_load_20 ?_
  obtain ⟨q5, hv, hf⟩ := mbind hf
  refine r_copy (rest := []) X G I hl.1 hv k_261 k_263 k_262 k_81 (Nat.le_of_ble_eq_true rfl) (Nat.le_trans (Nat.add_le_add_right (m_cat8 (Nat.le_of_ble_eq_true rfl)) _) (Nat.le_of_ble_eq_true rfl)) d_Buffer_load_23 (fun H locs I => ?_)
  obtain rfl := Option.some.inj hf
  exact r_vretW X I d_Buffer_load_26

set_option maxHeartbeats 4000000 in
set_option maxRecDepth 100000 in
theorem c_Buffer_load {l : Launch} {D : va_G} {cA : Nat → ClassId} {dA z0 : Nat} {μ : mM} {h0 : Nat} {x1 : Option Nat} {r : mM} (hf : f_Buffer_load h0 μ x1 = some r) : Met l y_Buffer_load (mW y_Buffer_load b_Buffer_load 2 none) rm_Buffer_load (va_Pc [.ref h0, va_rf x1] (mPr D cA dA z0 μ)) (mQW D cA z0 none r) 0 0 (mA z0) := by
  refine Met.ofW (cc := b_Buffer_load) (maxL := 2) (ret := none) (by decide) rfl ?_
  intro p e s m args below meth c s₁ B hml hv
  obtain ⟨rfl, G, hP⟩ := hv
  have X := mX.of B hml
  exact m_entry (lv := [(0, va_rf (some h0)), (1, va_rf x1)]) (by simp [lg_sl, mrf_cat, mc_int, mc_long, mc_ref]) (by simp [lv_args, mrf_cat, mc_int, mc_long, mc_ref, mrf_some]) (fun ls hl => w_Buffer_load X G (mI.start hP) hf hl)

abbrev rm_CL_write : Room := { frames := 2, cells := 0, slots := 0, locals := 47 }
theorem h_CL_write : mCV y_CL_write b_CL_write 3 (some .int) 1 := ⟨k_632, k_75, ⟨by decide, by decide, by decide +kernel⟩, k_630, k_631⟩
set_option maxHeartbeats 4000000 in
set_option maxRecDepth 100000 in
theorem w_CL_write {h0 : Nat} {r : Int32 × mM} (X : mX p m meth c s args b_CL_write 3 (some .int) "ColourLinker") (G : mG D cA dA z0 s) {H : Heap} {locs : List Loc} {μ : mM} {ls : Array Slot} {x1 : Int32} (I : mI D cA z0 s μ H locs s.heap.size) (hf : f_CL_write h0 μ x1 = some r) (hl : lv_has ls 3 [(0, va_rf (some h0)), (1, .int x1)]) : W p l e rm_CL_write s m args below meth c H locs 0 0 (MQ below (mQW D cA z0 (some (.int r.1)) r.2) args s 0 0 (mA z0)) (F0 m 0 ls []) := by
  have hx := X.ex
  have hb := X.by_
  unfold f_CL_write at hf
  refine r_aload_n X d_CL_write_0 rfl (lv_at hl 0 rfl) ?_
  refine lv_iload_n hx hb d_CL_write_1 rfl (lv_at hl 1 rfl) ?_
  obtain ⟨q1, hv, hf⟩ := mbind hf
  obtain ⟨a, ha, hv⟩ := mbind hv
  obtain ⟨ha, fs, hm⟩ := mrc_e ha
  refine m_caR (m_runV (As := [.int x1]) (r := some h0) (rest := []) X G I h_CL_profileAt k_617 (c_CL_profileAt hv) mPr_blind (m_pre G I) hm rfl ha rfl rfl hl.1 (Nat.le_of_ble_eq_true rfl) rfl rfl ⟨Nat.le_of_ble_eq_true rfl, Nat.le_of_ble_eq_true rfl⟩ ⟨Nat.le_refl _, Nat.le_refl _⟩ d_CL_write_2) ?_
  refine r_astore_n (i := 2) (lv' := [(2, va_rf q1), (0, va_rf (some h0)), (1, .int x1)]) X d_CL_write_5 rfl hl (by decide) rfl (fun ls hl => ?_)
  refine r_aload_n X d_CL_write_6 rfl (lv_at hl 0 rfl) ?_
  refine r_ifnonnull (tgt := 12) X d_CL_write_7 (by decide) (fun hc => ?_) (fun hc => ?_)
  · have hf := miff hf hc
    refine r_aload_n X d_CL_write_12 rfl (lv_at hl 1 rfl) ?_
    obtain ⟨v2, hv, hf⟩ := mbind hf
    refine r_getf X G I (mfA_e hv) o_CL_buffer k_146 (Or.inl rfl) d_CL_write_13 ?_
    refine r_aload_n X d_CL_write_16 rfl (lv_at hl 0 rfl) ?_
    obtain ⟨v3, hv, hf⟩ := mbind hf
    refine r_getfN X G I (mfA_e hv) o_Profile_plain k_397 (Or.inl rfl) d_CL_write_17 ?_
    obtain ⟨q4, hv, hf⟩ := mbind hf
    obtain ⟨a, ha, hv⟩ := mbind hv
    obtain ⟨ha, fs, hm⟩ := mrc_e ha
    refine m_caWv (m_runV (As := [va_rf v3]) (r := v2) (rest := []) X G I h_Buffer_load k_633 (c_Buffer_load hv) mPr_blind (m_pre G I) hm rfl ha rfl rfl hl.1 (Nat.le_of_ble_eq_true rfl) rfl rfl ⟨Nat.le_of_ble_eq_true rfl, Nat.le_of_ble_eq_true rfl⟩ ⟨Nat.le_refl _, Nat.le_refl _⟩ d_CL_write_20) I (fun H locs I => ?_)
    refine r_aload_n X d_CL_write_23 rfl (lv_at hl 1 rfl) ?_
    obtain ⟨v5, hv, hf⟩ := mbind hf
    refine r_getf X G I (mfA_e hv) o_CL_buffer k_146 (Or.inl rfl) d_CL_write_24 ?_
    obtain ⟨v6, hv, hf⟩ := mbind hf
    refine r_getfN X G I (mfI_e hv) o_Buffer_count k_107 (Or.inl rfl) d_CL_write_27 ?_
    obtain rfl := Option.some.inj hf
    exact r_iretW X I d_CL_write_30
  · have hf := mift hf hc
    refine lv_iconst (v := -1) hx hb d_CL_write_10 (by decide) ?_
    obtain rfl := Option.some.inj hf
    exact r_iretW X I d_CL_write_11

set_option maxHeartbeats 4000000 in
set_option maxRecDepth 100000 in
theorem c_CL_write {l : Launch} {D : va_G} {cA : Nat → ClassId} {dA z0 : Nat} {μ : mM} {h0 : Nat} {x1 : Int32} {r : Int32 × mM} (hf : f_CL_write h0 μ x1 = some r) : Met l y_CL_write (mW y_CL_write b_CL_write 3 (some .int)) rm_CL_write (va_Pc [.ref h0, .int x1] (mPr D cA dA z0 μ)) (mQW D cA z0 (some (.int r.1)) r.2) 0 0 (mA z0) := by
  refine Met.ofW (cc := b_CL_write) (maxL := 3) (ret := (some .int)) (by decide) rfl ?_
  intro p e s m args below meth c s₁ B hml hv
  obtain ⟨rfl, G, hP⟩ := hv
  have X := mX.of B hml
  exact m_entry (lv := [(0, va_rf (some h0)), (1, .int x1)]) (Nat.le_of_ble_eq_true rfl) rfl (fun ls hl => w_CL_write X G (mI.start hP) hf hl)

abbrev rm_Mo_written : Room := { frames := 2, cells := 0, slots := 0, locals := 51 }
theorem h_Mo_written : mCV y_Mo_written b_Mo_written 6 (some .int) 3 := ⟨k_974, k_79, ⟨by decide, by decide, by decide +kernel⟩, k_973, k_35⟩
set_option maxHeartbeats 4000000 in
set_option maxRecDepth 100000 in
theorem w_Mo_written_52 {μ : mM} {h0 : Nat} {r : Int32} (X : mX p m meth c s args b_Mo_written 6 (some .int) "ColourLinkerModel") (G : mG D cA dA z0 s) (I : mI D cA z0 s μ s.heap [] s.heap.size) {ls : Array Slot}  (hf : f_Mo_written_52 μ h0 = some r) (hl : lv_has ls 6 [(0, va_rf (some h0))]) : W p l e rm_Mo_written s m args below meth c s.heap [] 0 0 (MQ below (mQR (some (.int r))) args s 0 0 (fun _ => False)) (F0 m 52 ls []) := by
  have hx := X.ex
  have hb := X.by_
  unfold f_Mo_written_52 at hf
  refine lv_iconst (v := -1) hx hb d_Mo_written_52 (by decide) ?_
  obtain rfl := Option.some.inj hf
  exact r_iretR X d_Mo_written_53

set_option maxHeartbeats 4000000 in
set_option maxRecDepth 100000 in
theorem w_Mo_written_4 {μ : mM} {h0 : Nat} {r : Int32} (X : mX p m meth c s args b_Mo_written 6 (some .int) "ColourLinkerModel") (G : mG D cA dA z0 s) (I : mI D cA z0 s μ s.heap [] s.heap.size) {kx52 : Unit → Option (Int32)} (hkx52 : ∀ (ls : Array Slot), kx52 () = some r → lv_has ls 6 [(0, va_rf (some h0))] → W p l e rm_Mo_written s m args below meth c s.heap [] 0 0 (MQ below (mQR (some (.int r))) args s 0 0 (fun _ => False)) (F0 m 52 ls [])) : ∀ (n : Nat) (ls : Array Slot) (x1 : Int32) (x2 : Int32) (x3 : Int32) (x4 : Int32), f_Mo_written_4 μ h0 kx52 n x1 x2 x3 x4 = some r → lv_has ls 6 [(0, va_rf (some h0)), (1, .int x1), (2, .int x2), (3, .int x3), (4, .int x4)] → W p l e rm_Mo_written s m args below meth c s.heap [] 0 0 (MQ below (mQR (some (.int r))) args s 0 0 (fun _ => False)) (F0 m 4 ls []) := by
  have hx := X.ex
  have hb := X.by_
  intro n
  induction n with
  | zero => intro ls x1 x2 x3 x4 hf hl; rw [f_Mo_written_4] at hf; cases hf
  | succ n ih =>
    intro ls x1 x2 x3 x4 hf hl
    rw [f_Mo_written_4] at hf
    refine lv_iload hx hb d_Mo_written_4 (lv_at hl 4 rfl) ?_
    refine lv_iload_n hx hb d_Mo_written_6 rfl (lv_at hl 3 rfl) ?_
    refine lv_icmp_ge (tgt := 52) hx hb d_Mo_written_7 (by decide) (fun hc => ?_) (fun hc => ?_)
    · have hf := mift hf hc
      exact hkx52 _ hf (lv_sub hl [0] rfl)
    · have hf := miff hf hc
      refine r_aload_n X d_Mo_written_10 rfl (lv_at hl 0 rfl) ?_
      refine lv_iload_n hx hb d_Mo_written_11 rfl (lv_at hl 1 rfl) ?_
      refine r_aload_n X d_Mo_written_12 rfl (lv_at hl 0 rfl) ?_
      obtain ⟨v1, hv, hf⟩ := mbind hf
      refine r_getf X G I (mfA_e hv) o_Mo_buffer k_834 (Or.inl rfl) d_Mo_written_13 ?_
      refine lv_iload hx hb d_Mo_written_16 (lv_at hl 4 rfl) ?_
      obtain ⟨v2, hv, hf⟩ := mbind hf
      refine r_iald X G I hv d_Mo_written_18 ?_
      obtain ⟨q3, hv, hf⟩ := mbind hf
      obtain ⟨a, ha, hv⟩ := mbind hv
      obtain ⟨ha, fs, hm⟩ := mrc_e ha
      refine m_caR (m_runV (As := [.int x1, .int v2]) (r := some h0) (rest := []) X G I h_Mo_entry k_951 (c_Mo_entry hv) mPr_blind (m_pre G I) hm rfl ha rfl rfl hl.1 (Nat.le_of_ble_eq_true rfl) rfl rfl ⟨Nat.le_of_ble_eq_true rfl, Nat.le_of_ble_eq_true rfl⟩ ⟨Nat.le_refl _, Nat.le_refl _⟩ d_Mo_written_19) ?_
      refine lv_istore (i := 5) (lv' := [(5, .int q3), (0, va_rf (some h0)), (1, .int x1), (2, .int x2), (3, .int x3), (4, .int x4)]) hx hb d_Mo_written_22 hl (by decide) rfl (fun ls hl => ?_)
      refine r_aload_n X d_Mo_written_24 rfl (lv_at hl 1 rfl) ?_
      refine lv_iload_n hx hb d_Mo_written_25 rfl (lv_at hl 2 rfl) ?_
      refine lv_iload_n hx hb d_Mo_written_26 rfl (lv_at hl 3 rfl) ?_
      refine lv_iload_n hx hb d_Mo_written_27 rfl (lv_at hl 2 rfl) ?_
      refine lv_iload hx hb d_Mo_written_28 (lv_at hl 0 rfl) ?_
      obtain ⟨q4, hv, hf⟩ := mbind hf
      obtain ⟨a, ha, hv⟩ := mbind hv
      obtain ⟨ha, fs, hm⟩ := mrc_e ha
      refine m_caR (m_runV (As := [.int x1, .int x2, .int x1, .int q3]) (r := some h0) (rest := []) X G I h_Mo_alike k_963 (c_Mo_alike hv) mPr_blind (m_pre G I) hm rfl ha rfl rfl hl.1 (Nat.le_of_ble_eq_true rfl) rfl rfl ⟨Nat.le_of_ble_eq_true rfl, Nat.le_of_ble_eq_true rfl⟩ ⟨Nat.le_refl _, Nat.le_refl _⟩ d_Mo_written_30) ?_
      refine lv_if_eq (tgt := 46) hx hb d_Mo_written_33 (by decide) (fun hc => ?_) (fun hc => ?_)
      · have hf := mift hf hc
        refine lv_iinc (i := 4) (k := 5) (v := (x4 + (4 : Int32))) (lv' := [(4, .int (x4 + (4 : Int32))), (5, .int q3), (0, va_rf (some h0)), (1, .int x1), (2, .int x2), (3, .int x3)]) hx hb d_Mo_written_46 hl rfl (congrArg (fun t => x4 + t) (by decide : Int32.ofInt (4) = (4 : Int32))) (by decide) rfl (fun ls hl => ?_)
        refine lv_goto (tgt := 4) hx hb d_Mo_written_49 (by decide) ?_
        exact ih _ _ _ _ _ hf (lv_sub hl [2, 3, 4, 5, 0] rfl)
      · have hf := miff hf hc
        refine r_aload_n X d_Mo_written_36 rfl (lv_at hl 1 rfl) ?_
        obtain ⟨v5, hv, hf⟩ := mbind hf
        refine r_getf X G I (mfA_e hv) o_Mo_buffer k_834 (Or.inl rfl) d_Mo_written_37 ?_
        refine lv_iload hx hb d_Mo_written_40 (lv_at hl 5 rfl) ?_
        refine lv_iconst (v := 1) hx hb d_Mo_written_42 (by decide) ?_
        refine lv_iadd hx hb d_Mo_written_43 ?_
        obtain ⟨v6, hv, hf⟩ := mbind hf
        refine r_iald X G I hv d_Mo_written_44 ?_
        obtain rfl := Option.some.inj hf
        exact r_iretR X d_Mo_written_45

set_option maxHeartbeats 4000000 in
set_option maxRecDepth 100000 in
theorem w_Mo_written {μ : mM} {h0 : Nat} {r : Int32} (X : mX p m meth c s args b_Mo_written 6 (some .int) "ColourLinkerModel") (G : mG D cA dA z0 s) (I : mI D cA z0 s μ s.heap [] s.heap.size) {ls : Array Slot} {x1 : Int32} {x2 : Int32} {x3 : Int32} (hf : f_Mo_written μ h0 x1 x2 x3 = some r) (hl : lv_has ls 6 [(0, va_rf (some h0)), (1, .int x1), (2, .int x2), (3, .int x3)]) : W p l e rm_Mo_written s m args below meth c s.heap [] 0 0 (MQ below (mQR (some (.int r))) args s 0 0 (fun _ => False)) (F0 m 0 ls []) := by
  have hx := X.ex
  have hb := X.by_
  unfold f_Mo_written at hf
  refine lv_bipush (v := 8) hx hb d_Mo_written_0 (by decide) ?_
  refine lv_istore (i := 4) (lv' := [(4, .int (8 : Int32)), (0, va_rf (some h0)), (1, .int x1), (2, .int x2), (3, .int x3)]) hx hb d_Mo_written_2 hl (by decide) rfl (fun ls hl => ?_)
  exact w_Mo_written_4 X G I (fun ls hf hl => w_Mo_written_52 X G I hf hl) 4096 _ _ _ _ _ hf (lv_sub hl [1, 2, 3, 4, 0] rfl)

set_option maxHeartbeats 4000000 in
set_option maxRecDepth 100000 in
theorem c_Mo_written {l : Launch} {D : va_G} {cA : Nat → ClassId} {dA z0 : Nat} {μ : mM} {h0 : Nat} {x1 : Int32} {x2 : Int32} {x3 : Int32} {r : Int32} (hf : f_Mo_written μ h0 x1 x2 x3 = some r) : Met l y_Mo_written (mW y_Mo_written b_Mo_written 6 (some .int)) rm_Mo_written (va_Pc [.ref h0, .int x1, .int x2, .int x3] (mPr D cA dA z0 μ)) (mQR (some (.int r))) 0 0 (fun _ => False) := by
  refine Met.ofW (cc := b_Mo_written) (maxL := 6) (ret := (some .int)) (by decide) rfl ?_
  intro p e s m args below meth c s₁ B hml hv
  obtain ⟨rfl, G, hP⟩ := hv
  have X := mX.of B hml
  exact m_entry (lv := [(0, va_rf (some h0)), (1, .int x1), (2, .int x2), (3, .int x3)]) (Nat.le_of_ble_eq_true rfl) rfl (fun ls hl => w_Mo_written X G (mI.start hP) hf hl)

end WK
