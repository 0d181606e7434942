section WK
variable {p : Program} {l : Launch} {e : Env} {s : State} {m : MethodId} {args : Array Value} {below : List Frame} {meth : Method} {c : Code} {D : va_G} {cA : Nat → ClassId} {dA z0 : Nat}
abbrev rm_Curves_areRising : Room := { frames := 4, cells := 0, slots := 0, locals := 97 }
theorem h_Curves_areRising : mCV y_Curves_areRising b_Curves_areRising 3 (some .boolean) 0 := ⟨k_682, k_86, ⟨by decide, by decide, by decide +kernel⟩, k_680, k_681⟩
set_option maxHeartbeats 4000000 in
set_option maxRecDepth 100000 in
theorem w_Curves_areRising_41 {μ : mM} {h0 : Nat} {r : Int32} (X : mX p m meth c s args b_Curves_areRising 3 (some .boolean) "ColourLinker$Curves") (G : mG D cA dA z0 s) (I : mI D cA z0 s μ s.heap [] s.heap.size) {ls : Array Slot} {x1 : Int32} (hf : f_Curves_areRising_41 μ h0 x1 = some r) (hl : lv_has ls 3 [(0, va_rf (some h0)), (1, .int x1)]) : W p l e rm_Curves_areRising s m args below meth c s.heap [] 0 0 (MQ below (mQR (some (.int r))) args s 0 0 (fun _ => False)) (F0 m 41 ls []) := by
  have hx := X.ex
  have hb := X.by_
  unfold f_Curves_areRising_41 at hf
  refine lv_iload_n hx hb d_Curves_areRising_41 rfl (lv_at hl 1 rfl) ?_
  obtain ⟨v6, hv, hf⟩ := mbind hf
  obtain ⟨hz0, hz⟩ := mz_e hv
  rw [hz0] at hf
  obtain rfl := Option.some.inj hf
  exact r_zretR X hz d_Curves_areRising_42

set_option maxHeartbeats 4000000 in
set_option maxRecDepth 100000 in
theorem w_Curves_areRising_34 {μ : mM} {h0 : Nat} {r : Int32} (X : mX p m meth c s args b_Curves_areRising 3 (some .boolean) "ColourLinker$Curves") (G : mG D cA dA z0 s) (I : mI D cA z0 s μ s.heap [] s.heap.size) {k : Int32 → Int32 → Option (Int32)} {kx41 : Int32 → Option (Int32)} (hk : ∀ (ls : Array Slot) (x1 : Int32) (x2 : Int32), k x1 x2 = some r → lv_has ls 3 [(0, va_rf (some h0)), (1, .int x1), (2, .int x2)] → W p l e rm_Curves_areRising s m args below meth c s.heap [] 0 0 (MQ below (mQR (some (.int r))) args s 0 0 (fun _ => False)) (F0 m 4 ls [])) (hkx41 : ∀ (ls : Array Slot) (x1 : Int32), kx41 x1 = some r → lv_has ls 3 [(0, va_rf (some h0)), (1, .int x1)] → W p l e rm_Curves_areRising s m args below meth c s.heap [] 0 0 (MQ below (mQR (some (.int r))) args s 0 0 (fun _ => False)) (F0 m 41 ls [])) {ls : Array Slot} {x2 : Int32} {s0 : Int32} (hf : f_Curves_areRising_34 μ h0 k kx41 x2 s0 = some r) (hl : lv_has ls 3 [(0, va_rf (some h0)), (2, .int x2)]) : W p l e rm_Curves_areRising s m args below meth c s.heap [] 0 0 (MQ below (mQR (some (.int r))) args s 0 0 (fun _ => False)) (F0 m 34 ls [.int s0]) := by
  have hx := X.ex
  have hb := X.by_
  unfold f_Curves_areRising_34 at hf
  refine lv_istore_n (i := 1) (lv' := [(1, .int s0), (0, va_rf (some h0)), (2, .int x2)]) hx hb d_Curves_areRising_34 rfl hl (by decide) (by simp [mrf_cat]) (fun ls hl => ?_)
  refine lv_iinc (i := 2) (k := 2) (v := (x2 + (1 : Int32))) (lv' := [(2, .int (x2 + (1 : Int32))), (1, .int s0), (0, va_rf (some h0))]) hx hb d_Curves_areRising_35 hl rfl (congrArg (fun t => x2 + t) (by decide : Int32.ofInt (1) = (1 : Int32))) (by decide) rfl (fun ls hl => ?_)
  refine lv_goto (tgt := 4) hx hb d_Curves_areRising_38 (by decide) ?_
  exact hk _ _ _ hf (lv_sub hl [2, 1, 0] rfl)

set_option maxHeartbeats 4000000 in
set_option maxRecDepth 100000 in
theorem w_Curves_areRising_33 {μ : mM} {h0 : Nat} {r : Int32} (X : mX p m meth c s args b_Curves_areRising 3 (some .boolean) "ColourLinker$Curves") (G : mG D cA dA z0 s) (I : mI D cA z0 s μ s.heap [] s.heap.size) {k : Int32 → Int32 → Option (Int32)} {kx41 : Int32 → Option (Int32)} (hk : ∀ (ls : Array Slot) (x1 : Int32) (x2 : Int32), k x1 x2 = some r → lv_has ls 3 [(0, va_rf (some h0)), (1, .int x1), (2, .int x2)] → W p l e rm_Curves_areRising s m args below meth c s.heap [] 0 0 (MQ below (mQR (some (.int r))) args s 0 0 (fun _ => False)) (F0 m 4 ls [])) (hkx41 : ∀ (ls : Array Slot) (x1 : Int32), kx41 x1 = some r → lv_has ls 3 [(0, va_rf (some h0)), (1, .int x1)] → W p l e rm_Curves_areRising s m args below meth c s.heap [] 0 0 (MQ below (mQR (some (.int r))) args s 0 0 (fun _ => False)) (F0 m 41 ls [])) {ls : Array Slot} {x2 : Int32} (hf : f_Curves_areRising_33 μ h0 k kx41 x2 = some r) (hl : lv_has ls 3 [(0, va_rf (some h0)), (2, .int x2)]) : W p l e rm_Curves_areRising s m args below meth c s.heap [] 0 0 (MQ below (mQR (some (.int r))) args s 0 0 (fun _ => False)) (F0 m 33 ls []) := by
  have hx := X.ex
  have hb := X.by_
  unfold f_Curves_areRising_33 at hf
  refine lv_iconst (v := 0) hx hb d_Curves_areRising_33 (by decide) ?_
  exact w_Curves_areRising_34 X G I hk hkx41 hf hl

set_option maxHeartbeats 4000000 in
set_option maxRecDepth 100000 in
theorem w_Curves_areRising_4 {μ : mM} {h0 : Nat} {r : Int32} (X : mX p m meth c s args b_Curves_areRising 3 (some .boolean) "ColourLinker$Curves") (G : mG D cA dA z0 s) (I : mI D cA z0 s μ s.heap [] s.heap.size) {kx41 : Int32 → Option (Int32)} (hkx41 : ∀ (ls : Array Slot) (x1 : Int32), kx41 x1 = some r → lv_has ls 3 [(0, va_rf (some h0)), (1, .int x1)] → W p l e rm_Curves_areRising s m args below meth c s.heap [] 0 0 (MQ below (mQR (some (.int r))) args s 0 0 (fun _ => False)) (F0 m 41 ls [])) : ∀ (n : Nat) (ls : Array Slot) (x1 : Int32) (x2 : Int32), f_Curves_areRising_4 μ h0 kx41 n x1 x2 = some r → lv_has ls 3 [(0, va_rf (some h0)), (1, .int x1), (2, .int x2)] → W p l e rm_Curves_areRising s m args below meth c s.heap [] 0 0 (MQ below (mQR (some (.int r))) args s 0 0 (fun _ => False)) (F0 m 4 ls []) := by
  have hx := X.ex
  have hb := X.by_
  intro n
  induction n with
  | zero => intro ls x1 x2 hf hl; rw [f_Curves_areRising_4] at hf; cases hf
  | succ n ih =>
    intro ls x1 x2 hf hl
    rw [f_Curves_areRising_4] at hf
    refine lv_iload_n hx hb d_Curves_areRising_4 rfl (lv_at hl 2 rfl) ?_
    refine r_aload_n X d_Curves_areRising_5 rfl (lv_at hl 0 rfl) ?_
    obtain ⟨v1, hv, hf⟩ := mbind hf
    refine r_getf X G I (mfA_e hv) o_Curves_row k_343 (Or.inl rfl) d_Curves_areRising_6 ?_
    obtain ⟨v2, hv, hf⟩ := mbind hf
    refine r_alen X G I hv d_Curves_areRising_9 ?_
    refine lv_icmp_ge (tgt := 41) hx hb d_Curves_areRising_10 (by decide) (fun hc => ?_) (fun hc => ?_)
    · have hf := mift hf hc
      exact hkx41 _ _ hf (lv_sub hl [0, 1] rfl)
    · have hf := miff hf hc
      refine lv_iload_n hx hb d_Curves_areRising_13 rfl (lv_at hl 1 rfl) ?_
      refine lv_if_eq (tgt := 33) hx hb d_Curves_areRising_14 (by decide) (fun hc => ?_) (fun hc => ?_)
      · have hf := mift hf hc
        exact w_Curves_areRising_33 X G I ih hkx41 hf (lv_sub hl [0, 2] rfl)
      · have hf := miff hf hc
        refine r_aload_n X d_Curves_areRising_17 rfl (lv_at hl 0 rfl) ?_
        obtain ⟨v3, hv, hf⟩ := mbind hf
        refine r_getf X G I (mfA_e hv) o_Curves_row k_343 (Or.inl rfl) d_Curves_areRising_18 ?_
        refine lv_iload_n hx hb d_Curves_areRising_21 rfl (lv_at hl 2 rfl) ?_
        obtain ⟨v4, hv, hf⟩ := mbind hf
        refine r_aald X G I hv d_Curves_areRising_22 ?_
        obtain ⟨q5, hv, hf⟩ := mbind hf
        obtain ⟨a, ha, hv⟩ := mbind hv
        obtain ⟨ha, fs, hm⟩ := mrc_e ha
        refine m_caR (m_runV (As := []) (r := v4) (rest := []) X G I h_Curve_isRising k_683 (c_Curve_isRising hv) mPr_blind (m_pre G I) hm rfl ha rfl rfl hl.1 (Nat.le_of_ble_eq_true rfl) rfl rfl ⟨Nat.le_of_ble_eq_true rfl, Nat.le_of_ble_eq_true rfl⟩ ⟨Nat.le_refl _, Nat.le_refl _⟩ d_Curves_areRising_23) ?_
        refine lv_if_eq (tgt := 33) hx hb d_Curves_areRising_26 (by decide) (fun hc => ?_) (fun hc => ?_)
        · have hf := mift hf hc
          exact w_Curves_areRising_33 X G I ih hkx41 hf (lv_sub hl [0, 2] rfl)
        · have hf := miff hf hc
          refine lv_iconst (v := 1) hx hb d_Curves_areRising_29 (by decide) ?_
          refine lv_goto (tgt := 34) hx hb d_Curves_areRising_30 (by decide) ?_
          exact w_Curves_areRising_34 X G I ih hkx41 hf (lv_sub hl [0, 2] rfl)

set_option maxHeartbeats 4000000 in
set_option maxRecDepth 100000 in
theorem w_Curves_areRising {μ : mM} {h0 : Nat} {r : Int32} (X : mX p m meth c s args b_Curves_areRising 3 (some .boolean) "ColourLinker$Curves") (G : mG D cA dA z0 s) (I : mI D cA z0 s μ s.heap [] s.heap.size) {ls : Array Slot}  (hf : f_Curves_areRising μ h0 = some r) (hl : lv_has ls 3 [(0, va_rf (some h0))]) : W p l e rm_Curves_areRising s m args below meth c s.heap [] 0 0 (MQ below (mQR (some (.int r))) args s 0 0 (fun _ => False)) (F0 m 0 ls []) := by
  have hx := X.ex
  have hb := X.by_
  unfold f_Curves_areRising at hf
  refine lv_iconst (v := 1) hx hb d_Curves_areRising_0 (by decide) ?_
  refine lv_istore_n (i := 1) (lv' := [(1, .int (1 : Int32)), (0, va_rf (some h0))]) hx hb d_Curves_areRising_1 rfl hl (by decide) (by simp [mrf_cat]) (fun ls hl => ?_)
  refine lv_iconst (v := 0) hx hb d_Curves_areRising_2 (by decide) ?_
  refine lv_istore_n (i := 2) (lv' := [(2, .int (0 : Int32)), (1, .int (1 : Int32)), (0, va_rf (some h0))]) hx hb d_Curves_areRising_3 rfl hl (by decide) rfl (fun ls hl => ?_)
  exact w_Curves_areRising_4 X G I (fun ls x1 hf hl => w_Curves_areRising_41 X G I hf hl) 4096 _ _ _ hf (lv_sub hl [2, 1, 0] rfl)

set_option maxHeartbeats 4000000 in
set_option maxRecDepth 100000 in
theorem c_Curves_areRising {l : Launch} {D : va_G} {cA : Nat → ClassId} {dA z0 : Nat} {μ : mM} {h0 : Nat} {r : Int32} (hf : f_Curves_areRising μ h0 = some r) : Met l y_Curves_areRising (mW y_Curves_areRising b_Curves_areRising 3 (some .boolean)) rm_Curves_areRising (va_Pc [.ref h0] (mPr D cA dA z0 μ)) (mQR (some (.int r))) 0 0 (fun _ => False) := by
  refine Met.ofW (cc := b_Curves_areRising) (maxL := 3) (ret := (some .boolean)) (by decide) rfl ?_
  intro p e s m args below meth c s₁ B hml hv
  obtain ⟨rfl, G, hP⟩ := hv
  have X := mX.of B hml
  exact m_entry (lv := [(0, va_rf (some h0))]) (Nat.le_of_ble_eq_true rfl) rfl (fun ls hl => w_Curves_areRising X G (mI.start hP) hf hl)

abbrev rm_Profile_hasWhiteOf : Room := { frames := 0, cells := 0, slots := 0, locals := 0 }
theorem h_Profile_hasWhiteOf : mCV y_Profile_hasWhiteOf b_Profile_hasWhiteOf 2 (some .boolean) 1 := ⟨k_690, k_80, ⟨by decide, by decide, by decide +kernel⟩, k_688, k_689⟩
set_option maxHeartbeats 4000000 in
set_option maxRecDepth 100000 in
theorem w_Profile_hasWhiteOf_50 {μ : mM} {h0 : Nat} {r : Int32} (X : mX p m meth c s args b_Profile_hasWhiteOf 2 (some .boolean) "ColourLinker$Profile") (G : mG D cA dA z0 s) (I : mI D cA z0 s μ s.heap [] s.heap.size) {ls : Array Slot} {s0 : Int32} (hf : f_Profile_hasWhiteOf_50 μ h0 s0 = some r) (hl : lv_has ls 2 [(0, va_rf (some h0))]) : W p l e rm_Profile_hasWhiteOf s m args below meth c s.heap [] 0 0 (MQ below (mQR (some (.int r))) args s 0 0 (fun _ => False)) (F0 m 50 ls [.int s0]) := by
  have hx := X.ex
  have hb := X.by_
  unfold f_Profile_hasWhiteOf_50 at hf
  obtain ⟨v13, hv, hf⟩ := mbind hf
  obtain ⟨hz0, hz⟩ := mz_e hv
  rw [hz0] at hf
  obtain rfl := Option.some.inj hf
  exact r_zretR X hz d_Profile_hasWhiteOf_50

set_option maxHeartbeats 4000000 in
set_option maxRecDepth 100000 in
theorem w_Profile_hasWhiteOf_49 {μ : mM} {h0 : Nat} {r : Int32} (X : mX p m meth c s args b_Profile_hasWhiteOf 2 (some .boolean) "ColourLinker$Profile") (G : mG D cA dA z0 s) (I : mI D cA z0 s μ s.heap [] s.heap.size) {ls : Array Slot}  (hf : f_Profile_hasWhiteOf_49 μ h0 = some r) (hl : lv_has ls 2 [(0, va_rf (some h0))]) : W p l e rm_Profile_hasWhiteOf s m args below meth c s.heap [] 0 0 (MQ below (mQR (some (.int r))) args s 0 0 (fun _ => False)) (F0 m 49 ls []) := by
  have hx := X.ex
  have hb := X.by_
  unfold f_Profile_hasWhiteOf_49 at hf
  refine lv_iconst (v := 0) hx hb d_Profile_hasWhiteOf_49 (by decide) ?_
  exact w_Profile_hasWhiteOf_50 X G I hf hl

set_option maxHeartbeats 4000000 in
set_option maxRecDepth 100000 in
theorem w_Profile_hasWhiteOf {μ : mM} {h0 : Nat} {r : Int32} (X : mX p m meth c s args b_Profile_hasWhiteOf 2 (some .boolean) "ColourLinker$Profile") (G : mG D cA dA z0 s) (I : mI D cA z0 s μ s.heap [] s.heap.size) {ls : Array Slot} {x1 : Option Nat} (hf : f_Profile_hasWhiteOf μ h0 x1 = some r) (hl : lv_has ls 2 [(0, va_rf (some h0)), (1, va_rf x1)]) : W p l e rm_Profile_hasWhiteOf s m args below meth c s.heap [] 0 0 (MQ below (mQR (some (.int r))) args s 0 0 (fun _ => False)) (F0 m 0 ls []) := by
  have hx := X.ex
  have hb := X.by_
  unfold f_Profile_hasWhiteOf at hf
  refine r_aload_n X d_Profile_hasWhiteOf_0 rfl (lv_at hl 0 rfl) ?_
  obtain ⟨v1, hv, hf⟩ := mbind hf
  refine r_getf X G I (mfA_e hv) o_Profile_white k_408 (Or.inl rfl) d_Profile_hasWhiteOf_1 ?_
  refine lv_iconst (v := 0) hx hb d_Profile_hasWhiteOf_4 (by decide) ?_
  obtain ⟨v2, hv, hf⟩ := mbind hf
  refine r_iald X G I hv d_Profile_hasWhiteOf_5 ?_
  refine r_aload_n X d_Profile_hasWhiteOf_6 rfl (lv_at hl 1 rfl) ?_
  obtain ⟨v3, hv, hf⟩ := mbind hf
  refine r_getf X G I (mfA_e hv) o_Profile_white k_408 (Or.inl rfl) d_Profile_hasWhiteOf_7 ?_
  refine lv_iconst (v := 0) hx hb d_Profile_hasWhiteOf_10 (by decide) ?_
  obtain ⟨v4, hv, hf⟩ := mbind hf
  refine r_iald X G I hv d_Profile_hasWhiteOf_11 ?_
  refine lv_icmp_ne (tgt := 49) hx hb d_Profile_hasWhiteOf_12 (by decide) (fun hc => ?_) (fun hc => ?_)
  · have hf := miff hf hc
    exact w_Profile_hasWhiteOf_49 X G I hf (lv_sub hl [0] rfl)
  · have hf := mift hf hc
    refine r_aload_n X d_Profile_hasWhiteOf_15 rfl (lv_at hl 0 rfl) ?_
    obtain ⟨v5, hv, hf⟩ := mbind hf
    refine r_getf X G I (mfA_e hv) o_Profile_white k_408 (Or.inl rfl) d_Profile_hasWhiteOf_16 ?_
    refine lv_iconst (v := 1) hx hb d_Profile_hasWhiteOf_19 (by decide) ?_
    obtain ⟨v6, hv, hf⟩ := mbind hf
    refine r_iald X G I hv d_Profile_hasWhiteOf_20 ?_
    refine r_aload_n X d_Profile_hasWhiteOf_21 rfl (lv_at hl 1 rfl) ?_
    obtain ⟨v7, hv, hf⟩ := mbind hf
    refine r_getf X G I (mfA_e hv) o_Profile_white k_408 (Or.inl rfl) d_Profile_hasWhiteOf_22 ?_
    refine lv_iconst (v := 1) hx hb d_Profile_hasWhiteOf_25 (by decide) ?_
    obtain ⟨v8, hv, hf⟩ := mbind hf
    refine r_iald X G I hv d_Profile_hasWhiteOf_26 ?_
    refine lv_icmp_ne (tgt := 49) hx hb d_Profile_hasWhiteOf_27 (by decide) (fun hc => ?_) (fun hc => ?_)
    · have hf := miff hf hc
      exact w_Profile_hasWhiteOf_49 X G I hf (lv_sub hl [0] rfl)
    · have hf := mift hf hc
      refine r_aload_n X d_Profile_hasWhiteOf_30 rfl (lv_at hl 0 rfl) ?_
      obtain ⟨v9, hv, hf⟩ := mbind hf
      refine r_getf X G I (mfA_e hv) o_Profile_white k_408 (Or.inl rfl) d_Profile_hasWhiteOf_31 ?_
      refine lv_iconst (v := 2) hx hb d_Profile_hasWhiteOf_34 (by decide) ?_
      obtain ⟨v10, hv, hf⟩ := mbind hf
      refine r_iald X G I hv d_Profile_hasWhiteOf_35 ?_
      refine r_aload_n X d_Profile_hasWhiteOf_36 rfl (lv_at hl 1 rfl) ?_
      obtain ⟨v11, hv, hf⟩ := mbind hf
      refine r_getf X G I (mfA_e hv) o_Profile_white k_408 (Or.inl rfl) d_Profile_hasWhiteOf_37 ?_
      refine lv_iconst (v := 2) hx hb d_Profile_hasWhiteOf_40 (by decide) ?_
      obtain ⟨v12, hv, hf⟩ := mbind hf
      refine r_iald X G I hv d_Profile_hasWhiteOf_41 ?_
      refine lv_icmp_ne (tgt := 49) hx hb d_Profile_hasWhiteOf_42 (by decide) (fun hc => ?_) (fun hc => ?_)
      · have hf := miff hf hc
        exact w_Profile_hasWhiteOf_49 X G I hf (lv_sub hl [0] rfl)
      · have hf := mift hf hc
        refine lv_iconst (v := 1) hx hb d_Profile_hasWhiteOf_45 (by decide) ?_
        refine lv_goto (tgt := 50) hx hb d_Profile_hasWhiteOf_46 (by decide) ?_
        exact w_Profile_hasWhiteOf_50 X G I hf (lv_sub hl [0] rfl)

set_option maxHeartbeats 4000000 in
set_option maxRecDepth 100000 in
theorem c_Profile_hasWhiteOf {l : Launch} {D : va_G} {cA : Nat → ClassId} {dA z0 : Nat} {μ : mM} {h0 : Nat} {x1 : Option Nat} {r : Int32} (hf : f_Profile_hasWhiteOf μ h0 x1 = some r) : Met l y_Profile_hasWhiteOf (mW y_Profile_hasWhiteOf b_Profile_hasWhiteOf 2 (some .boolean)) rm_Profile_hasWhiteOf (va_Pc [.ref h0, va_rf x1] (mPr D cA dA z0 μ)) (mQR (some (.int r))) 0 0 (fun _ => False) := by
  refine Met.ofW (cc := b_Profile_hasWhiteOf) (maxL := 2) (ret := (some .boolean)) (by decide) rfl ?_
  intro p e s m args below meth c s₁ B hml hv
  obtain ⟨rfl, G, hP⟩ := hv
  have X := mX.of B hml
  exact m_entry (lv := [(0, va_rf (some h0)), (1, va_rf x1)]) (by simp [lg_sl, mrf_cat, mc_int, mc_long, mc_ref]) (by simp [lv_args, mrf_cat, mc_int, mc_long, mc_ref, mrf_some]) (fun ls hl => w_Profile_hasWhiteOf X G (mI.start hP) hf hl)

abbrev rm_CL_needsScale : Room := { frames := 1, cells := 0, slots := 0, locals := 21 }
theorem h_CL_needsScale : mCS y_CL_needsScale b_CL_needsScale 3 (some .boolean) 3 := ⟨k_686, k_75, ⟨by decide, by decide, by decide +kernel⟩, k_685⟩
set_option maxHeartbeats 4000000 in
set_option maxRecDepth 100000 in
theorem w_CL_needsScale_18 {μ : mM} {r : Int32} (X : mX p m meth c s args b_CL_needsScale 3 (some .boolean) "ColourLinker") (G : mG D cA dA z0 s) (I : mI D cA z0 s μ s.heap [] s.heap.size) {ls : Array Slot} {s0 : Int32} (hf : f_CL_needsScale_18 μ s0 = some r) (hl : lv_has ls 3 []) : W p l e rm_CL_needsScale s m args below meth c s.heap [] 0 0 (MQ below (mQR (some (.int r))) args s 0 0 (fun _ => False)) (F0 m 18 ls [.int s0]) := by
  have hx := X.ex
  have hb := X.by_
  unfold f_CL_needsScale_18 at hf
  obtain ⟨v2, hv, hf⟩ := mbind hf
  obtain ⟨hz0, hz⟩ := mz_e hv
  rw [hz0] at hf
  obtain rfl := Option.some.inj hf
  exact r_zretR X hz d_CL_needsScale_18

set_option maxHeartbeats 4000000 in
set_option maxRecDepth 100000 in
theorem w_CL_needsScale_17 {μ : mM} {r : Int32} (X : mX p m meth c s args b_CL_needsScale 3 (some .boolean) "ColourLinker") (G : mG D cA dA z0 s) (I : mI D cA z0 s μ s.heap [] s.heap.size) {ls : Array Slot}  (hf : f_CL_needsScale_17 μ = some r) (hl : lv_has ls 3 []) : W p l e rm_CL_needsScale s m args below meth c s.heap [] 0 0 (MQ below (mQR (some (.int r))) args s 0 0 (fun _ => False)) (F0 m 17 ls []) := by
  have hx := X.ex
  have hb := X.by_
  unfold f_CL_needsScale_17 at hf
  refine lv_iconst (v := 0) hx hb d_CL_needsScale_17 (by decide) ?_
  exact w_CL_needsScale_18 X G I hf hl

set_option maxHeartbeats 4000000 in
set_option maxRecDepth 100000 in
theorem w_CL_needsScale {μ : mM} {r : Int32} (X : mX p m meth c s args b_CL_needsScale 3 (some .boolean) "ColourLinker") (G : mG D cA dA z0 s) (I : mI D cA z0 s μ s.heap [] s.heap.size) {ls : Array Slot} {x0 : Option Nat} {x1 : Option Nat} {x2 : Int32} (hf : f_CL_needsScale μ x0 x1 x2 = some r) (hl : lv_has ls 3 [(0, va_rf x0), (1, va_rf x1), (2, .int x2)]) : W p l e rm_CL_needsScale s m args below meth c s.heap [] 0 0 (MQ below (mQR (some (.int r))) args s 0 0 (fun _ => False)) (F0 m 0 ls []) := by
  have hx := X.ex
  have hb := X.by_
  unfold f_CL_needsScale at hf
  refine lv_iload_n hx hb d_CL_needsScale_0 rfl (lv_at hl 2 rfl) ?_
  refine lv_iconst (v := 3) hx hb d_CL_needsScale_1 (by decide) ?_
  refine lv_icmp_ne (tgt := 17) hx hb d_CL_needsScale_2 (by decide) (fun hc => ?_) (fun hc => ?_)
  · have hf := miff hf hc
    exact w_CL_needsScale_17 X G I hf (lv_sub hl [] rfl)
  · have hf := mift hf hc
    refine r_aload_n X d_CL_needsScale_5 rfl (lv_at hl 0 rfl) ?_
    refine r_aload_n X d_CL_needsScale_6 rfl (lv_at hl 1 rfl) ?_
    obtain ⟨q1, hv, hf⟩ := mbind hf
    obtain ⟨a, ha, hv⟩ := mbind hv
    obtain ⟨ha, fs, hm⟩ := mrc_e ha
    refine m_caR (m_runV (As := [va_rf x1]) (r := x0) (rest := []) X G I h_Profile_hasWhiteOf k_687 (c_Profile_hasWhiteOf hv) mPr_blind (m_pre G I) hm rfl ha rfl rfl hl.1 (Nat.le_of_ble_eq_true rfl) rfl rfl ⟨Nat.le_of_ble_eq_true rfl, Nat.le_of_ble_eq_true rfl⟩ ⟨Nat.le_refl _, Nat.le_refl _⟩ d_CL_needsScale_7) ?_
    refine lv_if_ne (tgt := 17) hx hb d_CL_needsScale_10 (by decide) (fun hc => ?_) (fun hc => ?_)
    · have hf := miff hf hc
      exact w_CL_needsScale_17 X G I hf (lv_sub hl [] rfl)
    · have hf := mift hf hc
      refine lv_iconst (v := 1) hx hb d_CL_needsScale_13 (by decide) ?_
      refine lv_goto (tgt := 18) hx hb d_CL_needsScale_14 (by decide) ?_
      exact w_CL_needsScale_18 X G I hf (lv_sub hl [] rfl)

set_option maxHeartbeats 4000000 in
set_option maxRecDepth 100000 in
theorem c_CL_needsScale {l : Launch} {D : va_G} {cA : Nat → ClassId} {dA z0 : Nat} {μ : mM} {x0 : Option Nat} {x1 : Option Nat} {x2 : Int32} {r : Int32} (hf : f_CL_needsScale μ x0 x1 x2 = some r) : Met l y_CL_needsScale (mW y_CL_needsScale b_CL_needsScale 3 (some .boolean)) rm_CL_needsScale (va_Pc [va_rf x0, va_rf x1, .int x2] (mPr D cA dA z0 μ)) (mQR (some (.int r))) 0 0 (fun _ => False) := by
  refine Met.ofW (cc := b_CL_needsScale) (maxL := 3) (ret := (some .boolean)) (by decide) rfl ?_
  intro p e s m args below meth c s₁ B hml hv
  obtain ⟨rfl, G, hP⟩ := hv
  have X := mX.of B hml
  exact m_entry (lv := [(0, va_rf x0), (1, va_rf x1), (2, .int x2)]) (by simp [lg_sl, mrf_cat, mc_int, mc_long, mc_ref]) (by simp [lv_args, mrf_cat, mc_int, mc_long, mc_ref, mrf_some]) (fun ls hl => w_CL_needsScale X G (mI.start hP) hf hl)

abbrev rm_Profile_whiteHasZero : Room := { frames := 0, cells := 0, slots := 0, locals := 0 }
theorem h_Profile_whiteHasZero : mCV y_Profile_whiteHasZero b_Profile_whiteHasZero 1 (some .boolean) 0 := ⟨k_694, k_80, ⟨by decide, by decide, by decide +kernel⟩, k_692, k_693⟩
set_option maxHeartbeats 4000000 in
set_option maxRecDepth 100000 in
theorem w_Profile_whiteHasZero_32 {μ : mM} {h0 : Nat} {r : Int32} (X : mX p m meth c s args b_Profile_whiteHasZero 1 (some .boolean) "ColourLinker$Profile") (G : mG D cA dA z0 s) (I : mI D cA z0 s μ s.heap [] s.heap.size) {ls : Array Slot} {s0 : Int32} (hf : f_Profile_whiteHasZero_32 μ h0 s0 = some r) (hl : lv_has ls 1 [(0, va_rf (some h0))]) : W p l e rm_Profile_whiteHasZero s m args below meth c s.heap [] 0 0 (MQ below (mQR (some (.int r))) args s 0 0 (fun _ => False)) (F0 m 32 ls [.int s0]) := by
  have hx := X.ex
  have hb := X.by_
  unfold f_Profile_whiteHasZero_32 at hf
  obtain ⟨v7, hv, hf⟩ := mbind hf
  obtain ⟨hz0, hz⟩ := mz_e hv
  rw [hz0] at hf
  obtain rfl := Option.some.inj hf
  exact r_zretR X hz d_Profile_whiteHasZero_32

set_option maxHeartbeats 4000000 in
set_option maxRecDepth 100000 in
theorem w_Profile_whiteHasZero_27 {μ : mM} {h0 : Nat} {r : Int32} (X : mX p m meth c s args b_Profile_whiteHasZero 1 (some .boolean) "ColourLinker$Profile") (G : mG D cA dA z0 s) (I : mI D cA z0 s μ s.heap [] s.heap.size) {ls : Array Slot}  (hf : f_Profile_whiteHasZero_27 μ h0 = some r) (hl : lv_has ls 1 [(0, va_rf (some h0))]) : W p l e rm_Profile_whiteHasZero s m args below meth c s.heap [] 0 0 (MQ below (mQR (some (.int r))) args s 0 0 (fun _ => False)) (F0 m 27 ls []) := by
  have hx := X.ex
  have hb := X.by_
  unfold f_Profile_whiteHasZero_27 at hf
  refine lv_iconst (v := 1) hx hb d_Profile_whiteHasZero_27 (by decide) ?_
  refine lv_goto (tgt := 32) hx hb d_Profile_whiteHasZero_28 (by decide) ?_
  exact w_Profile_whiteHasZero_32 X G I hf hl

set_option maxHeartbeats 4000000 in
set_option maxRecDepth 100000 in
theorem w_Profile_whiteHasZero {μ : mM} {h0 : Nat} {r : Int32} (X : mX p m meth c s args b_Profile_whiteHasZero 1 (some .boolean) "ColourLinker$Profile") (G : mG D cA dA z0 s) (I : mI D cA z0 s μ s.heap [] s.heap.size) {ls : Array Slot}  (hf : f_Profile_whiteHasZero μ h0 = some r) (hl : lv_has ls 1 [(0, va_rf (some h0))]) : W p l e rm_Profile_whiteHasZero s m args below meth c s.heap [] 0 0 (MQ below (mQR (some (.int r))) args s 0 0 (fun _ => False)) (F0 m 0 ls []) := by
  have hx := X.ex
  have hb := X.by_
  unfold f_Profile_whiteHasZero at hf
  refine r_aload_n X d_Profile_whiteHasZero_0 rfl (lv_at hl 0 rfl) ?_
  obtain ⟨v1, hv, hf⟩ := mbind hf
  refine r_getf X G I (mfA_e hv) o_Profile_white k_408 (Or.inl rfl) d_Profile_whiteHasZero_1 ?_
  refine lv_iconst (v := 0) hx hb d_Profile_whiteHasZero_4 (by decide) ?_
  obtain ⟨v2, hv, hf⟩ := mbind hf
  refine r_iald X G I hv d_Profile_whiteHasZero_5 ?_
  refine lv_if_eq (tgt := 27) hx hb d_Profile_whiteHasZero_6 (by decide) (fun hc => ?_) (fun hc => ?_)
  · have hf := mift hf hc
    exact w_Profile_whiteHasZero_27 X G I hf hl
  · have hf := miff hf hc
    refine r_aload_n X d_Profile_whiteHasZero_9 rfl (lv_at hl 0 rfl) ?_
    obtain ⟨v3, hv, hf⟩ := mbind hf
    refine r_getf X G I (mfA_e hv) o_Profile_white k_408 (Or.inl rfl) d_Profile_whiteHasZero_10 ?_
    refine lv_iconst (v := 1) hx hb d_Profile_whiteHasZero_13 (by decide) ?_
    obtain ⟨v4, hv, hf⟩ := mbind hf
    refine r_iald X G I hv d_Profile_whiteHasZero_14 ?_
    refine lv_if_eq (tgt := 27) hx hb d_Profile_whiteHasZero_15 (by decide) (fun hc => ?_) (fun hc => ?_)
    · have hf := mift hf hc
      exact w_Profile_whiteHasZero_27 X G I hf hl
    · have hf := miff hf hc
      refine r_aload_n X d_Profile_whiteHasZero_18 rfl (lv_at hl 0 rfl) ?_
      obtain ⟨v5, hv, hf⟩ := mbind hf
      refine r_getf X G I (mfA_e hv) o_Profile_white k_408 (Or.inl rfl) d_Profile_whiteHasZero_19 ?_
      refine lv_iconst (v := 2) hx hb d_Profile_whiteHasZero_22 (by decide) ?_
      obtain ⟨v6, hv, hf⟩ := mbind hf
      refine r_iald X G I hv d_Profile_whiteHasZero_23 ?_
      refine lv_if_ne (tgt := 31) hx hb d_Profile_whiteHasZero_24 (by decide) (fun hc => ?_) (fun hc => ?_)
      · have hf := miff hf hc
        refine lv_iconst (v := 0) hx hb d_Profile_whiteHasZero_31 (by decide) ?_
        exact w_Profile_whiteHasZero_32 X G I hf hl
      · have hf := mift hf hc
        exact w_Profile_whiteHasZero_27 X G I hf hl

set_option maxHeartbeats 4000000 in
set_option maxRecDepth 100000 in
theorem c_Profile_whiteHasZero {l : Launch} {D : va_G} {cA : Nat → ClassId} {dA z0 : Nat} {μ : mM} {h0 : Nat} {r : Int32} (hf : f_Profile_whiteHasZero μ h0 = some r) : Met l y_Profile_whiteHasZero (mW y_Profile_whiteHasZero b_Profile_whiteHasZero 1 (some .boolean)) rm_Profile_whiteHasZero (va_Pc [.ref h0] (mPr D cA dA z0 μ)) (mQR (some (.int r))) 0 0 (fun _ => False) := by
  refine Met.ofW (cc := b_Profile_whiteHasZero) (maxL := 1) (ret := (some .boolean)) (by decide) rfl ?_
  intro p e s m args below meth c s₁ B hml hv
  obtain ⟨rfl, G, hP⟩ := hv
  have X := mX.of B hml
  exact m_entry (lv := [(0, va_rf (some h0))]) (Nat.le_of_ble_eq_true rfl) rfl (fun ls hl => w_Profile_whiteHasZero X G (mI.start hP) hf hl)

abbrev rm_CL_refusal : Room := { frames := 5, cells := 0, slots := 0, locals := 119 }
theorem h_CL_refusal : mCS y_CL_refusal b_CL_refusal 7 (some .int) 4 := ⟨k_662, k_75, ⟨by decide, by decide, by decide +kernel⟩, k_661⟩
set_option maxHeartbeats 4000000 in
set_option maxRecDepth 100000 in
theorem w_CL_refusal_144 {μ : mM} {r : Int32} (X : mX p m meth c s args b_CL_refusal 7 (some .int) "ColourLinker") (G : mG D cA dA z0 s) (I : mI D cA z0 s μ s.heap [] s.heap.size) {ls : Array Slot}  (hf : f_CL_refusal_144 μ = some r) (hl : lv_has ls 7 []) : W p l e rm_CL_refusal s m args below meth c s.heap [] 0 0 (MQ below (mQR (some (.int r))) args s 0 0 (fun _ => False)) (F0 m 144 ls []) := by
  have hx := X.ex
  have hb := X.by_
  unfold f_CL_refusal_144 at hf
  refine lv_iconst (v := 0) hx hb d_CL_refusal_144 (by decide) ?_
  obtain rfl := Option.some.inj hf
  exact r_iretR X d_CL_refusal_145

set_option maxHeartbeats 4000000 in
set_option maxRecDepth 100000 in
theorem w_CL_refusal_141 {μ : mM} {r : Int32} (X : mX p m meth c s args b_CL_refusal 7 (some .int) "ColourLinker") (G : mG D cA dA z0 s) (I : mI D cA z0 s μ s.heap [] s.heap.size) {ls : Array Slot}  (hf : f_CL_refusal_141 μ = some r) (hl : lv_has ls 7 []) : W p l e rm_CL_refusal s m args below meth c s.heap [] 0 0 (MQ below (mQR (some (.int r))) args s 0 0 (fun _ => False)) (F0 m 141 ls []) := by
  have hx := X.ex
  have hb := X.by_
  unfold f_CL_refusal_141 at hf
  refine lv_bipush (v := -7) hx hb d_CL_refusal_141 (by decide) ?_
  obtain rfl := Option.some.inj hf
  exact r_iretR X d_CL_refusal_143

set_option maxHeartbeats 4000000 in
set_option maxRecDepth 100000 in
theorem w_CL_refusal_117 {μ : mM} {r : Int32} (X : mX p m meth c s args b_CL_refusal 7 (some .int) "ColourLinker") (G : mG D cA dA z0 s) (I : mI D cA z0 s μ s.heap [] s.heap.size) {ls : Array Slot} {x0 : Option Nat} {x1 : Option Nat} {x2 : Int32} {x3 : Int32} (hf : f_CL_refusal_117 μ x0 x1 x2 x3 = some r) (hl : lv_has ls 7 [(0, va_rf x0), (1, va_rf x1), (2, .int x2), (3, .int x3)]) : W p l e rm_CL_refusal s m args below meth c s.heap [] 0 0 (MQ below (mQR (some (.int r))) args s 0 0 (fun _ => False)) (F0 m 117 ls []) := by
  have hx := X.ex
  have hb := X.by_
  unfold f_CL_refusal_117 at hf
  refine lv_iload_n hx hb d_CL_refusal_117 rfl (lv_at hl 3 rfl) ?_
  refine lv_if_eq (tgt := 144) hx hb d_CL_refusal_118 (by decide) (fun hc => ?_) (fun hc => ?_)
  · have hf := mift hf hc
    exact w_CL_refusal_144 X G I hf (lv_sub hl [] rfl)
  · have hf := miff hf hc
    refine r_aload_n X d_CL_refusal_121 rfl (lv_at hl 0 rfl) ?_
    refine lv_iload_n hx hb d_CL_refusal_122 rfl (lv_at hl 2 rfl) ?_
    obtain ⟨q12, hv, hf⟩ := mbind hf
    obtain ⟨a, ha, hv⟩ := mbind hv
    obtain ⟨ha, fs, hm⟩ := mrc_e ha
    refine m_caR (m_runV (As := [.int x2]) (r := x0) (rest := []) X G I h_Profile_blackLevel k_695 (c_Profile_blackLevel hv) mPr_blind (m_pre G I) hm rfl ha rfl rfl hl.1 (Nat.le_of_ble_eq_true rfl) rfl rfl ⟨Nat.le_of_ble_eq_true rfl, Nat.le_of_ble_eq_true rfl⟩ ⟨Nat.le_refl _, Nat.le_refl _⟩ d_CL_refusal_123) ?_
    refine lv_ldc (v := 32768) hx hb X.ow (X.w k_696) d_CL_refusal_126 ?_
    refine lv_icmp_ge (tgt := 141) hx hb d_CL_refusal_128 (by decide) (fun hc => ?_) (fun hc => ?_)
    · have hf := mift hf hc
      exact w_CL_refusal_141 X G I hf (lv_sub hl [] rfl)
    · have hf := miff hf hc
      refine r_aload_n X d_CL_refusal_131 rfl (lv_at hl 1 rfl) ?_
      refine lv_iload_n hx hb d_CL_refusal_132 rfl (lv_at hl 2 rfl) ?_
      obtain ⟨q13, hv, hf⟩ := mbind hf
      obtain ⟨a, ha, hv⟩ := mbind hv
      obtain ⟨ha, fs, hm⟩ := mrc_e ha
      refine m_caR (m_runV (As := [.int x2]) (r := x1) (rest := []) X G I h_Profile_blackLevel k_695 (c_Profile_blackLevel hv) mPr_blind (m_pre G I) hm rfl ha rfl rfl hl.1 (Nat.le_of_ble_eq_true rfl) rfl rfl ⟨Nat.le_of_ble_eq_true rfl, Nat.le_of_ble_eq_true rfl⟩ ⟨Nat.le_refl _, Nat.le_refl _⟩ d_CL_refusal_133) ?_
      refine lv_ldc (v := 32768) hx hb X.ow (X.w k_696) d_CL_refusal_136 ?_
      refine lv_icmp_lt (tgt := 144) hx hb d_CL_refusal_138 (by decide) (fun hc => ?_) (fun hc => ?_)
      · have hf := mift hf hc
        exact w_CL_refusal_144 X G I hf (lv_sub hl [] rfl)
      · have hf := miff hf hc
        exact w_CL_refusal_141 X G I hf (lv_sub hl [] rfl)

set_option maxHeartbeats 4000000 in
set_option maxRecDepth 100000 in
theorem w_CL_refusal_98 {μ : mM} {r : Int32} (X : mX p m meth c s args b_CL_refusal 7 (some .int) "ColourLinker") (G : mG D cA dA z0 s) (I : mI D cA z0 s μ s.heap [] s.heap.size) {ls : Array Slot} {x0 : Option Nat} {x1 : Option Nat} {x2 : Int32} {x3 : Int32} (hf : f_CL_refusal_98 μ x0 x1 x2 x3 = some r) (hl : lv_has ls 7 [(0, va_rf x0), (1, va_rf x1), (2, .int x2), (3, .int x3)]) : W p l e rm_CL_refusal s m args below meth c s.heap [] 0 0 (MQ below (mQR (some (.int r))) args s 0 0 (fun _ => False)) (F0 m 98 ls []) := by
  have hx := X.ex
  have hb := X.by_
  unfold f_CL_refusal_98 at hf
  refine r_aload_n X d_CL_refusal_98 rfl (lv_at hl 0 rfl) ?_
  refine r_aload_n X d_CL_refusal_99 rfl (lv_at hl 1 rfl) ?_
  refine lv_iload_n hx hb d_CL_refusal_100 rfl (lv_at hl 2 rfl) ?_
  obtain ⟨q10, hv, hf⟩ := mbind hf
  refine m_caR (m_runS (As := [va_rf x0, va_rf x1, .int x2]) (rest := []) X h_CL_needsScale k_684 (c_CL_needsScale hv) mPr_blind (m_pre G I) rfl rfl hl.1 (Nat.le_of_ble_eq_true rfl) rfl rfl ⟨Nat.le_of_ble_eq_true rfl, Nat.le_of_ble_eq_true rfl⟩ ⟨Nat.le_refl _, Nat.le_refl _⟩ d_CL_refusal_101) ?_
  refine lv_if_eq (tgt := 117) hx hb d_CL_refusal_104 (by decide) (fun hc => ?_) (fun hc => ?_)
  · have hf := mift hf hc
    exact w_CL_refusal_117 X G I hf hl
  · have hf := miff hf hc
    refine r_aload_n X d_CL_refusal_107 rfl (lv_at hl 1 rfl) ?_
    obtain ⟨q11, hv, hf⟩ := mbind hf
    obtain ⟨a, ha, hv⟩ := mbind hv
    obtain ⟨ha, fs, hm⟩ := mrc_e ha
    refine m_caR (m_runV (As := []) (r := x1) (rest := []) X G I h_Profile_whiteHasZero k_691 (c_Profile_whiteHasZero hv) mPr_blind (m_pre G I) hm rfl ha rfl rfl hl.1 (Nat.le_of_ble_eq_true rfl) rfl rfl ⟨Nat.le_of_ble_eq_true rfl, Nat.le_of_ble_eq_true rfl⟩ ⟨Nat.le_refl _, Nat.le_refl _⟩ d_CL_refusal_108) ?_
    refine lv_if_eq (tgt := 117) hx hb d_CL_refusal_111 (by decide) (fun hc => ?_) (fun hc => ?_)
    · have hf := mift hf hc
      exact w_CL_refusal_117 X G I hf hl
    · have hf := miff hf hc
      refine lv_bipush (v := -7) hx hb d_CL_refusal_114 (by decide) ?_
      obtain rfl := Option.some.inj hf
      exact r_iretR X d_CL_refusal_116

set_option maxHeartbeats 4000000 in
set_option maxRecDepth 100000 in
theorem w_CL_refusal_64 {μ : mM} {r : Int32} (X : mX p m meth c s args b_CL_refusal 7 (some .int) "ColourLinker") (G : mG D cA dA z0 s) (I : mI D cA z0 s μ s.heap [] s.heap.size) {ls : Array Slot} {x0 : Option Nat} {x1 : Option Nat} {x2 : Int32} {x3 : Int32} (hf : f_CL_refusal_64 μ x0 x1 x2 x3 = some r) (hl : lv_has ls 7 [(0, va_rf x0), (1, va_rf x1), (2, .int x2), (3, .int x3)]) : W p l e rm_CL_refusal s m args below meth c s.heap [] 0 0 (MQ below (mQR (some (.int r))) args s 0 0 (fun _ => False)) (F0 m 64 ls []) := by
  have hx := X.ex
  have hb := X.by_
  unfold f_CL_refusal_64 at hf
  refine r_aload_n X d_CL_refusal_64 rfl (lv_at hl 1 rfl) ?_
  refine lv_iload_n hx hb d_CL_refusal_65 rfl (lv_at hl 2 rfl) ?_
  refine lv_iconst (v := 1) hx hb d_CL_refusal_66 (by decide) ?_
  obtain ⟨q6, hv, hf⟩ := mbind hf
  obtain ⟨a, ha, hv⟩ := mbind hv
  obtain ⟨ha, fs, hm⟩ := mrc_e ha
  refine m_caR (m_runV (As := [.int x2, .int (1 : Int32)]) (r := x1) (rest := []) X G I h_Profile_backPiece k_667 (c_Profile_backPiece hv) mPr_blind (m_pre G I) hm rfl ha rfl rfl hl.1 (Nat.le_of_ble_eq_true rfl) rfl rfl ⟨Nat.le_of_ble_eq_true rfl, Nat.le_of_ble_eq_true rfl⟩ ⟨Nat.le_refl _, Nat.le_refl _⟩ d_CL_refusal_67) ?_
  refine r_astore (i := 6) (lv' := [(6, va_rf q6), (0, va_rf x0), (1, va_rf x1), (2, .int x2), (3, .int x3)]) X d_CL_refusal_70 hl (by decide) rfl (fun ls hl => ?_)
  refine r_aload X d_CL_refusal_72 (lv_at hl 0 rfl) ?_
  obtain ⟨v7, hv, hf⟩ := mbind hf
  refine r_inst X G I hv rfl n_Curves k_678 d_CL_refusal_74 ?_
  refine lv_if_eq (tgt := 98) hx hb d_CL_refusal_77 (by decide) (fun hc => ?_) (fun hc => ?_)
  · have hf := mift hf hc
    exact w_CL_refusal_98 X G I hf (lv_sub hl [1, 2, 3, 4] rfl)
  · have hf := miff hf hc
    refine r_aload X d_CL_refusal_80 (lv_at hl 0 rfl) ?_
    obtain ⟨u8, hv, hf⟩ := mbind hf
    refine r_cast X G I hv rfl k_678 d_CL_refusal_82 ?_
    refine r_astore (i := 5) (lv' := [(5, va_rf q6), (6, va_rf q6), (0, va_rf x0), (1, va_rf x1), (2, .int x2), (3, .int x3)]) X d_CL_refusal_85 hl (by decide) rfl (fun ls hl => ?_)
    refine r_aload X d_CL_refusal_87 (lv_at hl 0 rfl) ?_
    obtain ⟨q9, hv, hf⟩ := mbind hf
    obtain ⟨a, ha, hv⟩ := mbind hv
    obtain ⟨ha, fs, hm⟩ := mrc_e ha
    refine m_caR (m_runV (As := []) (r := q6) (rest := []) X G I h_Curves_areRising k_679 (c_Curves_areRising hv) mPr_blind (m_pre G I) hm rfl ha rfl rfl hl.1 (Nat.le_of_ble_eq_true rfl) rfl rfl ⟨Nat.le_of_ble_eq_true rfl, Nat.le_of_ble_eq_true rfl⟩ ⟨Nat.le_refl _, Nat.le_refl _⟩ d_CL_refusal_89) ?_
    refine lv_if_ne (tgt := 98) hx hb d_CL_refusal_92 (by decide) (fun hc => ?_) (fun hc => ?_)
    · have hf := miff hf hc
      exact w_CL_refusal_98 X G I hf (lv_sub hl [2, 3, 4, 5] rfl)
    · have hf := mift hf hc
      refine lv_bipush (v := -6) hx hb d_CL_refusal_95 (by decide) ?_
      obtain rfl := Option.some.inj hf
      exact r_iretR X d_CL_refusal_97

set_option maxHeartbeats 4000000 in
set_option maxRecDepth 100000 in
theorem w_CL_refusal_9 {μ : mM} {r : Int32} (X : mX p m meth c s args b_CL_refusal 7 (some .int) "ColourLinker") (G : mG D cA dA z0 s) (I : mI D cA z0 s μ s.heap [] s.heap.size) {ls : Array Slot}  (hf : f_CL_refusal_9 μ = some r) (hl : lv_has ls 7 []) : W p l e rm_CL_refusal s m args below meth c s.heap [] 0 0 (MQ below (mQR (some (.int r))) args s 0 0 (fun _ => False)) (F0 m 9 ls []) := by
  have hx := X.ex
  have hb := X.by_
  unfold f_CL_refusal_9 at hf
  refine lv_bipush (v := -2) hx hb d_CL_refusal_9 (by decide) ?_
  obtain rfl := Option.some.inj hf
  exact r_iretR X d_CL_refusal_11

set_option maxHeartbeats 4000000 in
set_option maxRecDepth 100000 in
theorem w_CL_refusal {μ : mM} {r : Int32} (X : mX p m meth c s args b_CL_refusal 7 (some .int) "ColourLinker") (G : mG D cA dA z0 s) (I : mI D cA z0 s μ s.heap [] s.heap.size) {ls : Array Slot} {x0 : Option Nat} {x1 : Option Nat} {x2 : Int32} {x3 : Int32} (hf : f_CL_refusal μ x0 x1 x2 x3 = some r) (hl : lv_has ls 7 [(0, va_rf x0), (1, va_rf x1), (2, .int x2), (3, .int x3)]) : W p l e rm_CL_refusal s m args below meth c s.heap [] 0 0 (MQ below (mQR (some (.int r))) args s 0 0 (fun _ => False)) (F0 m 0 ls []) := by
  have hx := X.ex
  have hb := X.by_
  unfold f_CL_refusal at hf
  refine lv_iload_n hx hb d_CL_refusal_0 rfl (lv_at hl 2 rfl) ?_
  refine lv_if_lt (tgt := 9) hx hb d_CL_refusal_1 (by decide) (fun hc => ?_) (fun hc => ?_)
  · have hf := mift hf hc
    exact w_CL_refusal_9 X G I hf (lv_sub hl [] rfl)
  · have hf := miff hf hc
    refine lv_iload_n hx hb d_CL_refusal_4 rfl (lv_at hl 2 rfl) ?_
    refine lv_iconst (v := 3) hx hb d_CL_refusal_5 (by decide) ?_
    refine lv_icmp_le (tgt := 12) hx hb d_CL_refusal_6 (by decide) (fun hc => ?_) (fun hc => ?_)
    · have hf := mift hf hc
      refine r_aload_n X d_CL_refusal_12 rfl (lv_at hl 1 rfl) ?_
      obtain ⟨q1, hv, hf⟩ := mbind hf
      obtain ⟨a, ha, hv⟩ := mbind hv
      obtain ⟨ha, fs, hm⟩ := mrc_e ha
      refine m_caR (m_runV (As := []) (r := x1) (rest := []) X G I h_Profile_isSourceAlone k_663 (c_Profile_isSourceAlone hv) mPr_blind (m_pre G I) hm rfl ha rfl rfl hl.1 (Nat.le_of_ble_eq_true rfl) rfl rfl ⟨Nat.le_of_ble_eq_true rfl, Nat.le_of_ble_eq_true rfl⟩ ⟨Nat.le_refl _, Nat.le_refl _⟩ d_CL_refusal_13) ?_
      refine lv_if_eq (tgt := 22) hx hb d_CL_refusal_16 (by decide) (fun hc => ?_) (fun hc => ?_)
      · have hf := mift hf hc
        refine r_aload_n X d_CL_refusal_22 rfl (lv_at hl 1 rfl) ?_
        refine lv_iload_n hx hb d_CL_refusal_23 rfl (lv_at hl 2 rfl) ?_
        refine lv_iconst (v := 0) hx hb d_CL_refusal_24 (by decide) ?_
        obtain ⟨q2, hv, hf⟩ := mbind hf
        obtain ⟨a, ha, hv⟩ := mbind hv
        obtain ⟨ha, fs, hm⟩ := mrc_e ha
        refine m_caR (m_runV (As := [.int x2, .int (0 : Int32)]) (r := x1) (rest := []) X G I h_Profile_backPiece k_667 (c_Profile_backPiece hv) mPr_blind (m_pre G I) hm rfl ha rfl rfl hl.1 (Nat.le_of_ble_eq_true rfl) rfl rfl ⟨Nat.le_of_ble_eq_true rfl, Nat.le_of_ble_eq_true rfl⟩ ⟨Nat.le_refl _, Nat.le_refl _⟩ d_CL_refusal_25) ?_
        refine r_astore (i := 4) (lv' := [(4, va_rf q2), (0, va_rf x0), (1, va_rf x1), (2, .int x2), (3, .int x3)]) X d_CL_refusal_28 hl (by decide) rfl (fun ls hl => ?_)
        refine r_aload X d_CL_refusal_30 (lv_at hl 0 rfl) ?_
        refine r_ifnonnull (tgt := 38) X d_CL_refusal_32 (by decide) (fun hc => ?_) (fun hc => ?_)
        · have hf := miff hf hc
          refine r_aload X d_CL_refusal_38 (lv_at hl 0 rfl) ?_
          obtain ⟨v3, hv, hf⟩ := mbind hf
          refine r_inst X G I hv rfl n_Matrix k_671 d_CL_refusal_40 ?_
          refine lv_if_eq (tgt := 64) hx hb d_CL_refusal_43 (by decide) (fun hc => ?_) (fun hc => ?_)
          · have hf := mift hf hc
            exact w_CL_refusal_64 X G I hf (lv_sub hl [1, 2, 3, 4] rfl)
          · have hf := miff hf hc
            refine r_aload X d_CL_refusal_46 (lv_at hl 0 rfl) ?_
            obtain ⟨u4, hv, hf⟩ := mbind hf
            refine r_cast X G I hv rfl k_671 d_CL_refusal_48 ?_
            refine r_astore (i := 5) (lv' := [(5, va_rf q2), (4, va_rf q2), (0, va_rf x0), (1, va_rf x1), (2, .int x2), (3, .int x3)]) X d_CL_refusal_51 hl (by decide) (by simp [mrf_cat]) (fun ls hl => ?_)
            refine r_aload X d_CL_refusal_53 (lv_at hl 0 rfl) ?_
            obtain ⟨q5, hv, hf⟩ := mbind hf
            obtain ⟨a, ha, hv⟩ := mbind hv
            obtain ⟨ha, fs, hm⟩ := mrc_e ha
            refine m_caR (m_runV (As := []) (r := q2) (rest := []) X G I h_Matrix_isSingular k_672 (c_Matrix_isSingular hv) mPr_blind (m_pre G I) hm rfl ha rfl rfl hl.1 (Nat.le_of_ble_eq_true rfl) rfl rfl ⟨Nat.le_of_ble_eq_true rfl, Nat.le_of_ble_eq_true rfl⟩ ⟨Nat.le_refl _, Nat.le_refl _⟩ d_CL_refusal_55) ?_
            refine lv_if_eq (tgt := 64) hx hb d_CL_refusal_58 (by decide) (fun hc => ?_) (fun hc => ?_)
            · have hf := mift hf hc
              exact w_CL_refusal_64 X G I hf (lv_sub hl [2, 3, 4, 5] rfl)
            · have hf := miff hf hc
              refine lv_bipush (v := -5) hx hb d_CL_refusal_61 (by decide) ?_
              obtain rfl := Option.some.inj hf
              exact r_iretR X d_CL_refusal_63
        · have hf := mift hf hc
          refine lv_bipush (v := -4) hx hb d_CL_refusal_35 (by decide) ?_
          obtain rfl := Option.some.inj hf
          exact r_iretR X d_CL_refusal_37
      · have hf := miff hf hc
        refine lv_bipush (v := -3) hx hb d_CL_refusal_19 (by decide) ?_
        obtain rfl := Option.some.inj hf
        exact r_iretR X d_CL_refusal_21
    · have hf := miff hf hc
      exact w_CL_refusal_9 X G I hf (lv_sub hl [] rfl)

set_option maxHeartbeats 4000000 in
set_option maxRecDepth 100000 in
theorem c_CL_refusal {l : Launch} {D : va_G} {cA : Nat → ClassId} {dA z0 : Nat} {μ : mM} {x0 : Option Nat} {x1 : Option Nat} {x2 : Int32} {x3 : Int32} {r : Int32} (hf : f_CL_refusal μ x0 x1 x2 x3 = some r) : Met l y_CL_refusal (mW y_CL_refusal b_CL_refusal 7 (some .int)) rm_CL_refusal (va_Pc [va_rf x0, va_rf x1, .int x2, .int x3] (mPr D cA dA z0 μ)) (mQR (some (.int r))) 0 0 (fun _ => False) := by
  refine Met.ofW (cc := b_CL_refusal) (maxL := 7) (ret := (some .int)) (by decide) rfl ?_
  intro p e s m args below meth c s₁ B hml hv
  obtain ⟨rfl, G, hP⟩ := hv
  have X := mX.of B hml
  exact m_entry (lv := [(0, va_rf x0), (1, va_rf x1), (2, .int x2), (3, .int x3)]) (by simp [lg_sl, mrf_cat, mc_int, mc_long, mc_ref]) (by simp [lv_args, mrf_cat, mc_int, mc_long, mc_ref, mrf_some]) (fun ls hl => w_CL_refusal X G (mI.start hP) hf hl)

abbrev rm_Link_wasMadeFrom : Room := { frames := 0, cells := 0, slots := 0, locals := 0 }
theorem h_Link_wasMadeFrom : mCV y_Link_wasMadeFrom b_Link_wasMadeFrom 6 (some .boolean) 5 := ⟨k_704, k_90, ⟨by decide, by decide, by decide +kernel⟩, k_702, k_703⟩
set_option maxHeartbeats 4000000 in
set_option maxRecDepth 100000 in
theorem w_Link_wasMadeFrom_47 {μ : mM} {h0 : Nat} {r : Int32} (X : mX p m meth c s args b_Link_wasMadeFrom 6 (some .boolean) "ColourLinker$Link") (G : mG D cA dA z0 s) (I : mI D cA z0 s μ s.heap [] s.heap.size) {ls : Array Slot} {s0 : Int32} (hf : f_Link_wasMadeFrom_47 μ h0 s0 = some r) (hl : lv_has ls 6 [(0, va_rf (some h0))]) : W p l e rm_Link_wasMadeFrom s m args below meth c s.heap [] 0 0 (MQ below (mQR (some (.int r))) args s 0 0 (fun _ => False)) (F0 m 47 ls [.int s0]) := by
  have hx := X.ex
  have hb := X.by_
  unfold f_Link_wasMadeFrom_47 at hf
  obtain ⟨v6, hv, hf⟩ := mbind hf
  obtain ⟨hz0, hz⟩ := mz_e hv
  rw [hz0] at hf
  obtain rfl := Option.some.inj hf
  exact r_zretR X hz d_Link_wasMadeFrom_47

set_option maxHeartbeats 4000000 in
set_option maxRecDepth 100000 in
theorem w_Link_wasMadeFrom_46 {μ : mM} {h0 : Nat} {r : Int32} (X : mX p m meth c s args b_Link_wasMadeFrom 6 (some .boolean) "ColourLinker$Link") (G : mG D cA dA z0 s) (I : mI D cA z0 s μ s.heap [] s.heap.size) {ls : Array Slot}  (hf : f_Link_wasMadeFrom_46 μ h0 = some r) (hl : lv_has ls 6 [(0, va_rf (some h0))]) : W p l e rm_Link_wasMadeFrom s m args below meth c s.heap [] 0 0 (MQ below (mQR (some (.int r))) args s 0 0 (fun _ => False)) (F0 m 46 ls []) := by
  have hx := X.ex
  have hb := X.by_
  unfold f_Link_wasMadeFrom_46 at hf
  refine lv_iconst (v := 0) hx hb d_Link_wasMadeFrom_46 (by decide) ?_
  exact w_Link_wasMadeFrom_47 X G I hf hl

set_option maxHeartbeats 4000000 in
set_option maxRecDepth 100000 in
theorem w_Link_wasMadeFrom {μ : mM} {h0 : Nat} {r : Int32} (X : mX p m meth c s args b_Link_wasMadeFrom 6 (some .boolean) "ColourLinker$Link") (G : mG D cA dA z0 s) (I : mI D cA z0 s μ s.heap [] s.heap.size) {ls : Array Slot} {x1 : Option Nat} {x2 : Option Nat} {x3 : Option Nat} {x4 : Int32} {x5 : Int32} (hf : f_Link_wasMadeFrom μ h0 x1 x2 x3 x4 x5 = some r) (hl : lv_has ls 6 [(0, va_rf (some h0)), (1, va_rf x1), (2, va_rf x2), (3, va_rf x3), (4, .int x4), (5, .int x5)]) : W p l e rm_Link_wasMadeFrom s m args below meth c s.heap [] 0 0 (MQ below (mQR (some (.int r))) args s 0 0 (fun _ => False)) (F0 m 0 ls []) := by
  have hx := X.ex
  have hb := X.by_
  unfold f_Link_wasMadeFrom at hf
  refine r_aload_n X d_Link_wasMadeFrom_0 rfl (lv_at hl 0 rfl) ?_
  obtain ⟨v1, hv, hf⟩ := mbind hf
  refine r_getf X G I (mfA_e hv) o_Link_base k_746 (Or.inl rfl) d_Link_wasMadeFrom_1 ?_
  refine r_aload_n X d_Link_wasMadeFrom_4 rfl (lv_at hl 1 rfl) ?_
  refine lv_acmp_ne (tgt := 46) hx hb d_Link_wasMadeFrom_5 (by decide) (fun hc => ?_) (fun hc => ?_)
  · have hf := miff hf hc
    exact w_Link_wasMadeFrom_46 X G I hf (lv_sub hl [0] rfl)
  · have hf := mift hf hc
    refine r_aload_n X d_Link_wasMadeFrom_8 rfl (lv_at hl 0 rfl) ?_
    obtain ⟨v2, hv, hf⟩ := mbind hf
    refine r_getf X G I (mfA_e hv) o_Link_from k_747 (Or.inl rfl) d_Link_wasMadeFrom_9 ?_
    refine r_aload_n X d_Link_wasMadeFrom_12 rfl (lv_at hl 2 rfl) ?_
    refine lv_acmp_ne (tgt := 46) hx hb d_Link_wasMadeFrom_13 (by decide) (fun hc => ?_) (fun hc => ?_)
    · have hf := miff hf hc
      exact w_Link_wasMadeFrom_46 X G I hf (lv_sub hl [0] rfl)
    · have hf := mift hf hc
      refine r_aload_n X d_Link_wasMadeFrom_16 rfl (lv_at hl 0 rfl) ?_
      obtain ⟨v3, hv, hf⟩ := mbind hf
      refine r_getf X G I (mfA_e hv) o_Link_to k_748 (Or.inl rfl) d_Link_wasMadeFrom_17 ?_
      refine r_aload_n X d_Link_wasMadeFrom_20 rfl (lv_at hl 3 rfl) ?_
      refine lv_acmp_ne (tgt := 46) hx hb d_Link_wasMadeFrom_21 (by decide) (fun hc => ?_) (fun hc => ?_)
      · have hf := miff hf hc
        exact w_Link_wasMadeFrom_46 X G I hf (lv_sub hl [0] rfl)
      · have hf := mift hf hc
        refine r_aload_n X d_Link_wasMadeFrom_24 rfl (lv_at hl 0 rfl) ?_
        obtain ⟨v4, hv, hf⟩ := mbind hf
        refine r_getf X G I (mfI_e hv) o_Link_intent k_750 (Or.inl rfl) d_Link_wasMadeFrom_25 ?_
        refine lv_iload hx hb d_Link_wasMadeFrom_28 (lv_at hl 4 rfl) ?_
        refine lv_icmp_ne (tgt := 46) hx hb d_Link_wasMadeFrom_30 (by decide) (fun hc => ?_) (fun hc => ?_)
        · have hf := miff hf hc
          exact w_Link_wasMadeFrom_46 X G I hf (lv_sub hl [0] rfl)
        · have hf := mift hf hc
          refine r_aload_n X d_Link_wasMadeFrom_33 rfl (lv_at hl 0 rfl) ?_
          obtain ⟨v5, hv, hf⟩ := mbind hf
          refine r_getf X G I (mfI_e hv) o_Link_asked k_751 (Or.inl rfl) d_Link_wasMadeFrom_34 ?_
          refine lv_iload hx hb d_Link_wasMadeFrom_37 (lv_at hl 5 rfl) ?_
          refine lv_icmp_ne (tgt := 46) hx hb d_Link_wasMadeFrom_39 (by decide) (fun hc => ?_) (fun hc => ?_)
          · have hf := miff hf hc
            exact w_Link_wasMadeFrom_46 X G I hf (lv_sub hl [0] rfl)
          · have hf := mift hf hc
            refine lv_iconst (v := 1) hx hb d_Link_wasMadeFrom_42 (by decide) ?_
            refine lv_goto (tgt := 47) hx hb d_Link_wasMadeFrom_43 (by decide) ?_
            exact w_Link_wasMadeFrom_47 X G I hf (lv_sub hl [0] rfl)

set_option maxHeartbeats 4000000 in
set_option maxRecDepth 100000 in
theorem c_Link_wasMadeFrom {l : Launch} {D : va_G} {cA : Nat → ClassId} {dA z0 : Nat} {μ : mM} {h0 : Nat} {x1 : Option Nat} {x2 : Option Nat} {x3 : Option Nat} {x4 : Int32} {x5 : Int32} {r : Int32} (hf : f_Link_wasMadeFrom μ h0 x1 x2 x3 x4 x5 = some r) : Met l y_Link_wasMadeFrom (mW y_Link_wasMadeFrom b_Link_wasMadeFrom 6 (some .boolean)) rm_Link_wasMadeFrom (va_Pc [.ref h0, va_rf x1, va_rf x2, va_rf x3, .int x4, .int x5] (mPr D cA dA z0 μ)) (mQR (some (.int r))) 0 0 (fun _ => False) := by
  refine Met.ofW (cc := b_Link_wasMadeFrom) (maxL := 6) (ret := (some .boolean)) (by decide) rfl ?_
  intro p e s m args below meth c s₁ B hml hv
  obtain ⟨rfl, G, hP⟩ := hv
  have X := mX.of B hml
  exact m_entry (lv := [(0, va_rf (some h0)), (1, va_rf x1), (2, va_rf x2), (3, va_rf x3), (4, .int x4), (5, .int x5)]) (by simp [lg_sl, mrf_cat, mc_int, mc_long, mc_ref]) (by simp [lv_args, mrf_cat, mc_int, mc_long, mc_ref, mrf_some]) (fun ls hl => w_Link_wasMadeFrom X G (mI.start hP) hf hl)

abbrev rm_CL_findMade : Room := { frames := 1, cells := 0, slots := 0, locals := 25 }
theorem h_CL_findMade : mCV y_CL_findMade b_CL_findMade 7 (some .int) 5 := ⟨k_700, k_75, ⟨by decide, by decide, by decide +kernel⟩, k_699, k_21⟩
set_option maxHeartbeats 4000000 in
set_option maxRecDepth 100000 in
theorem w_CL_findMade_41 {μ : mM} {h0 : Nat} {r : Int32} (X : mX p m meth c s args b_CL_findMade 7 (some .int) "ColourLinker") (G : mG D cA dA z0 s) (I : mI D cA z0 s μ s.heap [] s.heap.size) {ls : Array Slot}  (hf : f_CL_findMade_41 μ h0 = some r) (hl : lv_has ls 7 [(0, va_rf (some h0))]) : W p l e rm_CL_findMade s m args below meth c s.heap [] 0 0 (MQ below (mQR (some (.int r))) args s 0 0 (fun _ => False)) (F0 m 41 ls []) := by
  have hx := X.ex
  have hb := X.by_
  unfold f_CL_findMade_41 at hf
  refine lv_iconst (v := -1) hx hb d_CL_findMade_41 (by decide) ?_
  obtain rfl := Option.some.inj hf
  exact r_iretR X d_CL_findMade_42

set_option maxHeartbeats 4000000 in
set_option maxRecDepth 100000 in
theorem w_CL_findMade_3 {μ : mM} {h0 : Nat} {r : Int32} (X : mX p m meth c s args b_CL_findMade 7 (some .int) "ColourLinker") (G : mG D cA dA z0 s) (I : mI D cA z0 s μ s.heap [] s.heap.size) {kx41 : Unit → Option (Int32)} (hkx41 : ∀ (ls : Array Slot), kx41 () = some r → lv_has ls 7 [(0, va_rf (some h0))] → W p l e rm_CL_findMade s m args below meth c s.heap [] 0 0 (MQ below (mQR (some (.int r))) args s 0 0 (fun _ => False)) (F0 m 41 ls [])) : ∀ (n : Nat) (ls : Array Slot) (x1 : Option Nat) (x2 : Option Nat) (x3 : Option Nat) (x4 : Int32) (x5 : Int32) (x6 : Int32), f_CL_findMade_3 μ h0 kx41 n x1 x2 x3 x4 x5 x6 = some r → lv_has ls 7 [(0, va_rf (some h0)), (1, va_rf x1), (2, va_rf x2), (3, va_rf x3), (4, .int x4), (5, .int x5), (6, .int x6)] → W p l e rm_CL_findMade s m args below meth c s.heap [] 0 0 (MQ below (mQR (some (.int r))) args s 0 0 (fun _ => False)) (F0 m 3 ls []) := by
  have hx := X.ex
  have hb := X.by_
  intro n
  induction n with
  | zero => intro ls x1 x2 x3 x4 x5 x6 hf hl; rw [f_CL_findMade_3] at hf; cases hf
  | succ n ih =>
    intro ls x1 x2 x3 x4 x5 x6 hf hl
    rw [f_CL_findMade_3] at hf
    refine lv_iload hx hb d_CL_findMade_3 (lv_at hl 6 rfl) ?_
    refine r_aload_n X d_CL_findMade_5 rfl (lv_at hl 0 rfl) ?_
    obtain ⟨v1, hv, hf⟩ := mbind hf
    refine r_getf X G I (mfI_e hv) o_CL_madeCount k_150 (Or.inl rfl) d_CL_findMade_6 ?_
    refine lv_icmp_ge (tgt := 41) hx hb d_CL_findMade_9 (by decide) (fun hc => ?_) (fun hc => ?_)
    · have hf := mift hf hc
      exact hkx41 _ hf (lv_sub hl [0] rfl)
    · have hf := miff hf hc
      refine r_aload_n X d_CL_findMade_12 rfl (lv_at hl 0 rfl) ?_
      obtain ⟨v2, hv, hf⟩ := mbind hf
      refine r_getf X G I (mfA_e hv) o_CL_made k_149 (Or.inl rfl) d_CL_findMade_13 ?_
      refine lv_iload hx hb d_CL_findMade_16 (lv_at hl 6 rfl) ?_
      obtain ⟨v3, hv, hf⟩ := mbind hf
      refine r_aald X G I hv d_CL_findMade_18 ?_
      refine r_aload_n X d_CL_findMade_19 rfl (lv_at hl 1 rfl) ?_
      refine r_aload_n X d_CL_findMade_20 rfl (lv_at hl 2 rfl) ?_
      refine r_aload_n X d_CL_findMade_21 rfl (lv_at hl 3 rfl) ?_
      refine lv_iload hx hb d_CL_findMade_22 (lv_at hl 4 rfl) ?_
      refine lv_iload hx hb d_CL_findMade_24 (lv_at hl 5 rfl) ?_
      obtain ⟨q4, hv, hf⟩ := mbind hf
      obtain ⟨a, ha, hv⟩ := mbind hv
      obtain ⟨ha, fs, hm⟩ := mrc_e ha
      refine m_caR (m_runV (As := [va_rf x1, va_rf x2, va_rf x3, .int x4, .int x5]) (r := v3) (rest := []) X G I h_Link_wasMadeFrom k_701 (c_Link_wasMadeFrom hv) mPr_blind (m_pre G I) hm rfl ha rfl rfl hl.1 (Nat.le_of_ble_eq_true rfl) rfl rfl ⟨Nat.le_of_ble_eq_true rfl, Nat.le_of_ble_eq_true rfl⟩ ⟨Nat.le_refl _, Nat.le_refl _⟩ d_CL_findMade_26) ?_
      refine lv_if_eq (tgt := 35) hx hb d_CL_findMade_29 (by decide) (fun hc => ?_) (fun hc => ?_)
      · have hf := mift hf hc
        refine lv_iinc (i := 6) (k := 6) (v := (x6 + (1 : Int32))) (lv' := [(6, .int (x6 + (1 : Int32))), (0, va_rf (some h0)), (1, va_rf x1), (2, va_rf x2), (3, va_rf x3), (4, .int x4), (5, .int x5)]) hx hb d_CL_findMade_35 hl rfl (congrArg (fun t => x6 + t) (by decide : Int32.ofInt (1) = (1 : Int32))) (by decide) rfl (fun ls hl => ?_)
        refine lv_goto (tgt := 3) hx hb d_CL_findMade_38 (by decide) ?_
        exact ih _ _ _ _ _ _ _ hf (lv_sub hl [1, 2, 3, 4, 5, 6, 0] rfl)
      · have hf := miff hf hc
        refine lv_iload hx hb d_CL_findMade_32 (lv_at hl 6 rfl) ?_
        obtain rfl := Option.some.inj hf
        exact r_iretR X d_CL_findMade_34

set_option maxHeartbeats 4000000 in
set_option maxRecDepth 100000 in
theorem w_CL_findMade {μ : mM} {h0 : Nat} {r : Int32} (X : mX p m meth c s args b_CL_findMade 7 (some .int) "ColourLinker") (G : mG D cA dA z0 s) (I : mI D cA z0 s μ s.heap [] s.heap.size) {ls : Array Slot} {x1 : Option Nat} {x2 : Option Nat} {x3 : Option Nat} {x4 : Int32} {x5 : Int32} (hf : f_CL_findMade μ h0 x1 x2 x3 x4 x5 = some r) (hl : lv_has ls 7 [(0, va_rf (some h0)), (1, va_rf x1), (2, va_rf x2), (3, va_rf x3), (4, .int x4), (5, .int x5)]) : W p l e rm_CL_findMade s m args below meth c s.heap [] 0 0 (MQ below (mQR (some (.int r))) args s 0 0 (fun _ => False)) (F0 m 0 ls []) := by
  have hx := X.ex
  have hb := X.by_
  unfold f_CL_findMade at hf
  refine lv_iconst (v := 0) hx hb d_CL_findMade_0 (by decide) ?_
  refine lv_istore (i := 6) (lv' := [(6, .int (0 : Int32)), (0, va_rf (some h0)), (1, va_rf x1), (2, va_rf x2), (3, va_rf x3), (4, .int x4), (5, .int x5)]) hx hb d_CL_findMade_1 hl (by decide) rfl (fun ls hl => ?_)
  exact w_CL_findMade_3 X G I (fun ls hf hl => w_CL_findMade_41 X G I hf hl) 4096 _ _ _ _ _ _ _ hf (lv_sub hl [1, 2, 3, 4, 5, 6, 0] rfl)

set_option maxHeartbeats 4000000 in
set_option maxRecDepth 100000 in
theorem c_CL_findMade {l : Launch} {D : va_G} {cA : Nat → ClassId} {dA z0 : Nat} {μ : mM} {h0 : Nat} {x1 : Option Nat} {x2 : Option Nat} {x3 : Option Nat} {x4 : Int32} {x5 : Int32} {r : Int32} (hf : f_CL_findMade μ h0 x1 x2 x3 x4 x5 = some r) : Met l y_CL_findMade (mW y_CL_findMade b_CL_findMade 7 (some .int)) rm_CL_findMade (va_Pc [.ref h0, va_rf x1, va_rf x2, va_rf x3, .int x4, .int x5] (mPr D cA dA z0 μ)) (mQR (some (.int r))) 0 0 (fun _ => False) := by
  refine Met.ofW (cc := b_CL_findMade) (maxL := 7) (ret := (some .int)) (by decide) rfl ?_
  intro p e s m args below meth c s₁ B hml hv
  obtain ⟨rfl, G, hP⟩ := hv
  have X := mX.of B hml
  exact m_entry (lv := [(0, va_rf (some h0)), (1, va_rf x1), (2, va_rf x2), (3, va_rf x3), (4, .int x4), (5, .int x5)]) (by simp [lg_sl, mrf_cat, mc_int, mc_long, mc_ref]) (by simp [lv_args, mrf_cat, mc_int, mc_long, mc_ref, mrf_some]) (fun ls hl => w_CL_findMade X G (mI.start hP) hf hl)

abbrev rm_CL_chainPiece : Room := { frames := 0, cells := 0, slots := 0, locals := 0 }
theorem h_CL_chainPiece : mCV y_CL_chainPiece b_CL_chainPiece 2 none 1 := ⟨k_712, k_75, ⟨by decide, by decide, by decide +kernel⟩, k_711, k_23⟩
set_option maxHeartbeats 4000000 in
set_option maxRecDepth 100000 in
theorem w_CL_chainPiece_23 {h0 : Nat} {r : mM} (X : mX p m meth c s args b_CL_chainPiece 2 none "ColourLinker") (G : mG D cA dA z0 s) {H : Heap} {locs : List Loc} {μ : mM} {ls : Array Slot}  (I : mI D cA z0 s μ H locs s.heap.size) (hf : f_CL_chainPiece_23 h0 μ = some r) (hl : lv_has ls 2 [(0, va_rf (some h0))]) : W p l e rm_CL_chainPiece s m args below meth c H locs 0 0 (MQ below (mQW D cA z0 none r) args s 0 0 (mA z0)) (F0 m 23 ls []) := by
  have hx := X.ex
  have hb := X.by_
  unfold f_CL_chainPiece_23 at hf
  obtain rfl := Option.some.inj hf
  exact r_vretW X I d_CL_chainPiece_23

set_option maxHeartbeats 4000000 in
set_option maxRecDepth 100000 in
theorem w_CL_chainPiece {h0 : Nat} {r : mM} (X : mX p m meth c s args b_CL_chainPiece 2 none "ColourLinker") (G : mG D cA dA z0 s) {H : Heap} {locs : List Loc} {μ : mM} {ls : Array Slot} {x1 : Option Nat} (I : mI D cA z0 s μ H locs s.heap.size) (hf : f_CL_chainPiece h0 μ x1 = some r) (hl : lv_has ls 2 [(0, va_rf (some h0)), (1, va_rf x1)]) : W p l e rm_CL_chainPiece s m args below meth c H locs 0 0 (MQ below (mQW D cA z0 none r) args s 0 0 (mA z0)) (F0 m 0 ls []) := by
  have hx := X.ex
  have hb := X.by_
  unfold f_CL_chainPiece at hf
  refine r_aload_n X d_CL_chainPiece_0 rfl (lv_at hl 1 rfl) ?_
  refine r_ifnull (tgt := 23) X d_CL_chainPiece_1 (by decide) (fun hc => ?_) (fun hc => ?_)
  · have hf := mift hf hc
    exact w_CL_chainPiece_23 X G I hf (lv_sub hl [0] rfl)
  · have hf := miff hf hc
    refine r_aload_n X d_CL_chainPiece_4 rfl (lv_at hl 1 rfl) ?_
    obtain ⟨v1, hv, hf⟩ := mbind hf
    refine r_getf X G I (mfI_e hv) o_Piece_leftOut k_138 (Or.inl rfl) d_CL_chainPiece_5 ?_
    refine lv_if_ne (tgt := 23) hx hb d_CL_chainPiece_8 (by decide) (fun hc => ?_) (fun hc => ?_)
    · have hf := miff hf hc
      exact w_CL_chainPiece_23 X G I hf (lv_sub hl [0] rfl)
    · have hf := mift hf hc
      refine r_aload_n X d_CL_chainPiece_11 rfl (lv_at hl 0 rfl) ?_
      obtain ⟨v2, hv, hf⟩ := mbind hf
      refine r_getf X G I (mfI_e hv) o_CL_chainCount k_154 (Or.inl rfl) d_CL_chainPiece_12 ?_
      refine r_aload_n X d_CL_chainPiece_15 rfl (lv_at hl 0 rfl) ?_
      obtain ⟨v3, hv, hf⟩ := mbind hf
      refine r_getf X G I (mfA_e hv) o_CL_chain k_153 (Or.inl rfl) d_CL_chainPiece_16 ?_
      obtain ⟨v4, hv, hf⟩ := mbind hf
      refine r_alen X G I hv d_CL_chainPiece_19 ?_
      refine lv_icmp_lt (tgt := 24) hx hb d_CL_chainPiece_20 (by decide) (fun hc => ?_) (fun hc => ?_)
      · have hf := mift hf hc
        refine r_aload_n X d_CL_chainPiece_24 rfl (lv_at hl 0 rfl) ?_
        obtain ⟨v5, hv, hf⟩ := mbind hf
        refine r_getf X G I (mfA_e hv) o_CL_chain k_153 (Or.inl rfl) d_CL_chainPiece_25 ?_
        refine r_aload_n X d_CL_chainPiece_28 rfl (lv_at hl 0 rfl) ?_
        obtain ⟨v6, hv, hf⟩ := mbind hf
        refine r_getf X G I (mfI_e hv) o_CL_chainCount k_154 (Or.inl rfl) d_CL_chainPiece_29 ?_
        refine r_aload_n X d_CL_chainPiece_32 rfl (lv_at hl 1 rfl) ?_
        obtain ⟨m7, hv, hf⟩ := mbind hf
        refine r_aast X G I hv d_CL_chainPiece_33 (fun H locs I => ?_)
        refine r_aload_n X d_CL_chainPiece_34 rfl (lv_at hl 0 rfl) ?_
        refine lv_dup hx hb d_CL_chainPiece_35 (mrf_cat _) ?_
        obtain ⟨v8, hv, hf⟩ := mbind hf
        refine r_getf X G I (mfI_e hv) o_CL_chainCount k_154 (Or.inl rfl) d_CL_chainPiece_36 ?_
        refine lv_iconst (v := 1) hx hb d_CL_chainPiece_39 (by decide) ?_
        refine lv_iadd hx hb d_CL_chainPiece_40 ?_
        obtain ⟨m9, hv, hf⟩ := mbind hf
        refine r_put (ty := .int) X G I hv o_CL_chainCount k_154 (Or.inl rfl) (by decide) rfl rfl d_CL_chainPiece_41 (fun H locs I => ?_)
        obtain rfl := Option.some.inj hf
        exact r_vretW X I d_CL_chainPiece_44
      · have hf := miff hf hc
        exact w_CL_chainPiece_23 X G I hf (lv_sub hl [0] rfl)

set_option maxHeartbeats 4000000 in
set_option maxRecDepth 100000 in
theorem c_CL_chainPiece {l : Launch} {D : va_G} {cA : Nat → ClassId} {dA z0 : Nat} {μ : mM} {h0 : Nat} {x1 : Option Nat} {r : mM} (hf : f_CL_chainPiece h0 μ x1 = some r) : Met l y_CL_chainPiece (mW y_CL_chainPiece b_CL_chainPiece 2 none) rm_CL_chainPiece (va_Pc [.ref h0, va_rf x1] (mPr D cA dA z0 μ)) (mQW D cA z0 none r) 0 0 (mA z0) := by
  refine Met.ofW (cc := b_CL_chainPiece) (maxL := 2) (ret := none) (by decide) rfl ?_
  intro p e s m args below meth c s₁ B hml hv
  obtain ⟨rfl, G, hP⟩ := hv
  have X := mX.of B hml
  exact m_entry (lv := [(0, va_rf (some h0)), (1, va_rf x1)]) (by simp [lg_sl, mrf_cat, mc_int, mc_long, mc_ref]) (by simp [lv_args, mrf_cat, mc_int, mc_long, mc_ref, mrf_some]) (fun ls hl => w_CL_chainPiece X G (mI.start hP) hf hl)

abbrev rm_CL_chainLink : Room := { frames := 1, cells := 0, slots := 0, locals := 21 }
theorem h_CL_chainLink : mCV y_CL_chainLink b_CL_chainLink 3 none 1 := ⟨k_708, k_75, ⟨by decide, by decide, by decide +kernel⟩, k_707, k_22⟩
set_option maxHeartbeats 4000000 in
set_option maxRecDepth 100000 in
theorem w_CL_chainLink_32 {h0 : Nat} {r : mM} (X : mX p m meth c s args b_CL_chainLink 3 none "ColourLinker") (G : mG D cA dA z0 s) {H : Heap} {locs : List Loc} {μ : mM} {ls : Array Slot}  (I : mI D cA z0 s μ H locs s.heap.size) (hf : f_CL_chainLink_32 h0 μ = some r) (hl : lv_has ls 3 [(0, va_rf (some h0))]) : W p l e rm_CL_chainLink s m args below meth c H locs 0 0 (MQ below (mQW D cA z0 none r) args s 0 0 (mA z0)) (F0 m 32 ls []) := by
  have hx := X.ex
  have hb := X.by_
  unfold f_CL_chainLink_32 at hf
  obtain rfl := Option.some.inj hf
  exact r_vretW X I d_CL_chainLink_32

set_option maxHeartbeats 4000000 in
set_option maxRecDepth 100000 in
theorem w_CL_chainLink_7 {h0 : Nat} {r : mM} (X : mX p m meth c s args b_CL_chainLink 3 none "ColourLinker") (G : mG D cA dA z0 s) {kx32 : mM → Option (mM)} (hkx32 : ∀ (H : Heap) (locs : List Loc) (μ : mM) (ls : Array Slot), mI D cA z0 s μ H locs s.heap.size → kx32 μ = some r → lv_has ls 3 [(0, va_rf (some h0))] → W p l e rm_CL_chainLink s m args below meth c H locs 0 0 (MQ below (mQW D cA z0 none r) args s 0 0 (mA z0)) (F0 m 32 ls [])) : ∀ (n : Nat) (H : Heap) (locs : List Loc) (μ : mM) (ls : Array Slot) (x1 : Option Nat) (x2 : Int32), mI D cA z0 s μ H locs s.heap.size → f_CL_chainLink_7 h0 kx32 n μ x1 x2 = some r → lv_has ls 3 [(0, va_rf (some h0)), (1, va_rf x1), (2, .int x2)] → W p l e rm_CL_chainLink s m args below meth c H locs 0 0 (MQ below (mQW D cA z0 none r) args s 0 0 (mA z0)) (F0 m 7 ls []) := by
  have hx := X.ex
  have hb := X.by_
  intro n
  induction n with
  | zero => intro H locs μ ls x1 x2 I hf hl; rw [f_CL_chainLink_7] at hf; cases hf
  | succ n ih =>
    intro H locs μ ls x1 x2 I hf hl
    rw [f_CL_chainLink_7] at hf
    refine lv_iload_n hx hb d_CL_chainLink_7 rfl (lv_at hl 2 rfl) ?_
    refine r_aload_n X d_CL_chainLink_8 rfl (lv_at hl 1 rfl) ?_
    obtain ⟨v1, hv, hf⟩ := mbind hf
    refine r_getfN X G I (mfA_e hv) o_Link_row k_755 (Or.inl rfl) d_CL_chainLink_9 ?_
    obtain ⟨v2, hv, hf⟩ := mbind hf
    refine r_alen X G I hv d_CL_chainLink_12 ?_
    refine lv_icmp_ge (tgt := 32) hx hb d_CL_chainLink_13 (by decide) (fun hc => ?_) (fun hc => ?_)
    · have hf := mift hf hc
      exact hkx32 _ _ _ _ I hf (lv_sub hl [0] rfl)
    · have hf := miff hf hc
      refine r_aload_n X d_CL_chainLink_16 rfl (lv_at hl 0 rfl) ?_
      refine r_aload_n X d_CL_chainLink_17 rfl (lv_at hl 1 rfl) ?_
      obtain ⟨v3, hv, hf⟩ := mbind hf
      refine r_getfN X G I (mfA_e hv) o_Link_row k_755 (Or.inl rfl) d_CL_chainLink_18 ?_
      refine lv_iload_n hx hb d_CL_chainLink_21 rfl (lv_at hl 2 rfl) ?_
      obtain ⟨v4, hv, hf⟩ := mbind hf
      refine r_aald X G I hv d_CL_chainLink_22 ?_
      obtain ⟨q5, hv, hf⟩ := mbind hf
      obtain ⟨a, ha, hv⟩ := mbind hv
      obtain ⟨ha, fs, hm⟩ := mrc_e ha
      refine m_caWv (m_runV (As := [va_rf v4]) (r := some h0) (rest := []) X G I h_CL_chainPiece k_709 (c_CL_chainPiece hv) mPr_blind (m_pre G I) hm rfl ha rfl rfl hl.1 (Nat.le_of_ble_eq_true rfl) rfl rfl ⟨Nat.le_of_ble_eq_true rfl, Nat.le_of_ble_eq_true rfl⟩ ⟨Nat.le_refl _, Nat.le_refl _⟩ d_CL_chainLink_23) I (fun H locs I => ?_)
      refine lv_iinc (i := 2) (k := 2) (v := (x2 + (1 : Int32))) (lv' := [(2, .int (x2 + (1 : Int32))), (0, va_rf (some h0)), (1, va_rf x1)]) hx hb d_CL_chainLink_26 hl rfl (congrArg (fun t => x2 + t) (by decide : Int32.ofInt (1) = (1 : Int32))) (by decide) (by simp [mrf_cat]) (fun ls hl => ?_)
      refine lv_goto (tgt := 7) hx hb d_CL_chainLink_29 (by decide) ?_
      exact ih _ _ _ _ _ _ I hf (lv_sub hl [1, 2, 0] rfl)

set_option maxHeartbeats 4000000 in
set_option maxRecDepth 100000 in
theorem w_CL_chainLink {h0 : Nat} {r : mM} (X : mX p m meth c s args b_CL_chainLink 3 none "ColourLinker") (G : mG D cA dA z0 s) {H : Heap} {locs : List Loc} {μ : mM} {ls : Array Slot} {x1 : Option Nat} (I : mI D cA z0 s μ H locs s.heap.size) (hf : f_CL_chainLink h0 μ x1 = some r) (hl : lv_has ls 3 [(0, va_rf (some h0)), (1, va_rf x1)]) : W p l e rm_CL_chainLink s m args below meth c H locs 0 0 (MQ below (mQW D cA z0 none r) args s 0 0 (mA z0)) (F0 m 0 ls []) := by
  have hx := X.ex
  have hb := X.by_
  unfold f_CL_chainLink at hf
  refine r_aload_n X d_CL_chainLink_0 rfl (lv_at hl 1 rfl) ?_
  refine r_ifnonnull (tgt := 5) X d_CL_chainLink_1 (by decide) (fun hc => ?_) (fun hc => ?_)
  · have hf := miff hf hc
    refine lv_iconst (v := 0) hx hb d_CL_chainLink_5 (by decide) ?_
    refine lv_istore_n (i := 2) (lv' := [(2, .int (0 : Int32)), (0, va_rf (some h0)), (1, va_rf x1)]) hx hb d_CL_chainLink_6 rfl hl (by decide) (by simp [mrf_cat]) (fun ls hl => ?_)
    exact w_CL_chainLink_7 X G (fun H locs μ ls I hf hl => w_CL_chainLink_32 X G I hf hl) 4096 _ _ _ _ _ _ I hf (lv_sub hl [1, 2, 0] rfl)
  · have hf := mift hf hc
    obtain rfl := Option.some.inj hf
    exact r_vretW X I d_CL_chainLink_4

set_option maxHeartbeats 4000000 in
set_option maxRecDepth 100000 in
theorem c_CL_chainLink {l : Launch} {D : va_G} {cA : Nat → ClassId} {dA z0 : Nat} {μ : mM} {h0 : Nat} {x1 : Option Nat} {r : mM} (hf : f_CL_chainLink h0 μ x1 = some r) : Met l y_CL_chainLink (mW y_CL_chainLink b_CL_chainLink 3 none) rm_CL_chainLink (va_Pc [.ref h0, va_rf x1] (mPr D cA dA z0 μ)) (mQW D cA z0 none r) 0 0 (mA z0) := by
  refine Met.ofW (cc := b_CL_chainLink) (maxL := 3) (ret := none) (by decide) rfl ?_
  intro p e s m args below meth c s₁ B hml hv
  obtain ⟨rfl, G, hP⟩ := hv
  have X := mX.of B hml
  exact m_entry (lv := [(0, va_rf (some h0)), (1, va_rf x1)]) (by simp [lg_sl, mrf_cat, mc_int, mc_long, mc_ref]) (by simp [lv_args, mrf_cat, mc_int, mc_long, mc_ref, mrf_some]) (fun ls hl => w_CL_chainLink X G (mI.start hP) hf hl)

abbrev rm_Adjust_init : Room := { frames := 2, cells := 0, slots := 0, locals := 42 }
theorem h_Adjust_init : mCI y_Adjust_init b_Adjust_init 5 4 := ⟨k_725, k_89, ⟨by decide, by decide, by decide +kernel⟩, k_724, rfl⟩
set_option maxHeartbeats 4000000 in
set_option maxRecDepth 100000 in
theorem w_Adjust_init {h0 : Nat} {r : mM} (X : mX p m meth c s args b_Adjust_init 5 none "ColourLinker$Adjust") (G : mG D cA dA z0 s) (hN : meth.name = "<init>") {H : Heap} {locs : List Loc} {μ : mM} {ls : Array Slot} {x1 : Int32} {x2 : Option Nat} {x3 : Option Nat} {x4 : Int32} (I : mI D cA z0 s μ H locs s.heap.size) (hf : f_Adjust_init h0 μ x1 x2 x3 x4 = some r) (hl : lv_has ls 5 [(0, va_rf (some h0)), (1, .int x1), (2, va_rf x2), (3, va_rf x3), (4, .int x4)]) : W p l e rm_Adjust_init s m args below meth c H locs 0 0 (MQ below (mQW D cA z0 none r) args s 0 0 (mA z0)) (F0 m 0 ls []) := by
  have hx := X.ex
  have hb := X.by_
  unfold f_Adjust_init at hf
  refine r_aload_n X d_Adjust_init_0 rfl (lv_at hl 0 rfl) ?_
  refine lv_iload_n hx hb d_Adjust_init_1 rfl (lv_at hl 1 rfl) ?_
  refine lv_iconst (v := 0) hx hb d_Adjust_init_2 (by decide) ?_
  obtain ⟨q1, hv, hf⟩ := mbind hf
  obtain ⟨a, ha, hv⟩ := mbind hv
  refine m_caWv (m_runI (As := [.int x1, .int (0 : Int32)]) (r := some h0) (rest := []) X h_Piece_init k_726 (c_Piece_init hv) mPr_blind (m_pre G I) ha rfl rfl hl.1 (Nat.le_of_ble_eq_true rfl) rfl rfl ⟨Nat.le_of_ble_eq_true rfl, Nat.le_of_ble_eq_true rfl⟩ ⟨Nat.le_refl _, Nat.le_refl _⟩ d_Adjust_init_3) I (fun H locs I => ?_)
  refine r_aload_n X d_Adjust_init_6 rfl (lv_at hl 0 rfl) ?_
  refine r_aload_n X d_Adjust_init_7 rfl (lv_at hl 2 rfl) ?_
  obtain ⟨m2, hv, hf⟩ := mbind hf
  refine r_putF (ty := (.object "ColourLinker$Profile")) X G I hv o_Adjust_from k_727 hN (by decide) (mn_nA _) (mn_fA _) d_Adjust_init_8 (fun H locs I => ?_)
  refine r_aload_n X d_Adjust_init_11 rfl (lv_at hl 0 rfl) ?_
  refine r_aload_n X d_Adjust_init_12 rfl (lv_at hl 3 rfl) ?_
  obtain ⟨m3, hv, hf⟩ := mbind hf
  refine r_putF (ty := (.object "ColourLinker$Profile")) X G I hv o_Adjust_to k_728 hN (by decide) (mn_nA _) (mn_fA _) d_Adjust_init_13 (fun H locs I => ?_)
  refine r_aload_n X d_Adjust_init_16 rfl (lv_at hl 0 rfl) ?_
  refine lv_iload hx hb d_Adjust_init_17 (lv_at hl 4 rfl) ?_
  obtain ⟨m4, hv, hf⟩ := mbind hf
  refine r_putF (ty := .int) X G I hv o_Adjust_intent k_729 hN (by decide) rfl rfl d_Adjust_init_19 (fun H locs I => ?_)
  obtain rfl := Option.some.inj hf
  exact r_vretW X I d_Adjust_init_22

set_option maxHeartbeats 4000000 in
set_option maxRecDepth 100000 in
theorem c_Adjust_init {l : Launch} {D : va_G} {cA : Nat → ClassId} {dA z0 : Nat} {μ : mM} {h0 : Nat} {x1 : Int32} {x2 : Option Nat} {x3 : Option Nat} {x4 : Int32} {r : mM} (hf : f_Adjust_init h0 μ x1 x2 x3 x4 = some r) : Met l y_Adjust_init (mW y_Adjust_init b_Adjust_init 5 none) rm_Adjust_init (va_Pc [.ref h0, .int x1, va_rf x2, va_rf x3, .int x4] (mPr D cA dA z0 μ)) (mQW D cA z0 none r) 0 0 (mA z0) := by
  refine Met.ofW (cc := b_Adjust_init) (maxL := 5) (ret := none) (by decide) rfl ?_
  intro p e s m args below meth c s₁ B hml hv
  obtain ⟨rfl, G, hP⟩ := hv
  have X := mX.of B hml
  have hN : meth.name = "<init>" := (name_of_methodNamed B.named B.method).1
  exact m_entry (lv := [(0, va_rf (some h0)), (1, .int x1), (2, va_rf x2), (3, va_rf x3), (4, .int x4)]) (by simp [lg_sl, mrf_cat, mc_int, mc_long, mc_ref]) (by simp [lv_args, mrf_cat, mc_int, mc_long, mc_ref, mrf_some]) (fun ls hl => w_Adjust_init X G hN (mI.start hP) hf hl)

abbrev rm_CL_adjustment (k n : Nat) : Room := { frames := 3, cells := k, slots := n, locals := 66 }
theorem h_CL_adjustment : mCS y_CL_adjustment b_CL_adjustment 4 (some (.object "ColourLinker$Piece")) 4 := ⟨k_721, k_75, ⟨by decide, by decide, by decide +kernel⟩, k_720⟩
set_option maxHeartbeats 4000000 in
set_option maxRecDepth 100000 in
theorem w_CL_adjustment_52 {ws : Nat} {r : (Option Nat) × mM × Nat × Nat} (X : mX p m meth c s args b_CL_adjustment 4 (some (.object "ColourLinker$Piece")) "ColourLinker") (G : mG D cA dA z0 s) {H : Heap} {locs : List Loc} {μ : mM} {z w : Nat} {ls : Array Slot}  (hq : mq ws w z r.2.2.1 r.2.2.2) (I : mI D cA z0 s μ H locs z) (hf : f_CL_adjustment_52 μ z w = some r) (hl : lv_has ls 4 []) : W p l e (rm_CL_adjustment (r.2.2.1 - s.heap.size) (r.2.2.2 - ws)) s m args below meth c H locs (z - s.heap.size) (w - ws) (MQ below (mQN D cA z0 (some (va_rf r.1)) r.2.1 r.2.2.1) args s (r.2.2.1 - s.heap.size) (r.2.2.2 - ws) (mA z0)) (F0 m 52 ls []) := by
  have hx := X.ex
  have hb := X.by_
  unfold f_CL_adjustment_52 at hf
  refine r_null X d_CL_adjustment_52 ?_
  obtain rfl := Option.some.inj hf
  exact r_aretN X I (Or.inl ⟨_, rfl⟩) d_CL_adjustment_53

set_option maxHeartbeats 4000000 in
set_option maxRecDepth 100000 in
theorem w_CL_adjustment {ws : Nat} {r : (Option Nat) × mM × Nat × Nat} (X : mX p m meth c s args b_CL_adjustment 4 (some (.object "ColourLinker$Piece")) "ColourLinker") (G : mG D cA dA z0 s) {H : Heap} {locs : List Loc} {μ : mM} {z w : Nat} {ls : Array Slot} {x0 : Option Nat} {x1 : Option Nat} {x2 : Int32} {x3 : Int32} (hw : ws ≤ w) (I : mI D cA z0 s μ H locs z) (hf : f_CL_adjustment μ z w x0 x1 x2 x3 = some r) (hl : lv_has ls 4 [(0, va_rf x0), (1, va_rf x1), (2, .int x2), (3, .int x3)]) : W p l e (rm_CL_adjustment (r.2.2.1 - s.heap.size) (r.2.2.2 - ws)) s m args below meth c H locs (z - s.heap.size) (w - ws) (MQ below (mQN D cA z0 (some (va_rf r.1)) r.2.1 r.2.2.1) args s (r.2.2.1 - s.heap.size) (r.2.2.2 - ws) (mA z0)) (F0 m 0 ls []) := by
  have hx := X.ex
  have hb := X.by_
  unfold f_CL_adjustment at hf
  obtain ⟨-, -, hz2, hw2, hf⟩ := mmT_e hf
  have hq : mq ws w z r.2.2.1 r.2.2.2 := ⟨hw, hz2, hw2⟩
  refine r_aload_n X d_CL_adjustment_0 rfl (lv_at hl 0 rfl) ?_
  refine r_aload_n X d_CL_adjustment_1 rfl (lv_at hl 1 rfl) ?_
  refine lv_iload_n hx hb d_CL_adjustment_2 rfl (lv_at hl 2 rfl) ?_
  obtain ⟨q1, hv, hf⟩ := mbind hf
  refine m_caR (m_runS (As := [va_rf x0, va_rf x1, .int x2]) (rest := []) X h_CL_needsScale k_684 (c_CL_needsScale hv) mPr_blind (m_pre G I) rfl rfl hl.1 (Nat.le_of_ble_eq_true rfl) rfl rfl ⟨Nat.le_of_ble_eq_true rfl, Nat.le_of_ble_eq_true rfl⟩ hq.rm d_CL_adjustment_3) ?_
  refine lv_if_eq (tgt := 22) hx hb d_CL_adjustment_6 (by decide) (fun hc => ?_) (fun hc => ?_)
  · have hf := mift hf hc
    refine lv_iload_n hx hb d_CL_adjustment_22 rfl (lv_at hl 3 rfl) ?_
    refine lv_if_eq (tgt := 52) hx hb d_CL_adjustment_23 (by decide) (fun hc => ?_) (fun hc => ?_)
    · have hf := mift hf hc
      exact w_CL_adjustment_52 X G hq I hf (lv_sub hl [] rfl)
    · have hf := miff hf hc
      refine r_aload_n X d_CL_adjustment_26 rfl (lv_at hl 0 rfl) ?_
      refine lv_iload_n hx hb d_CL_adjustment_27 rfl (lv_at hl 2 rfl) ?_
      obtain ⟨q2, hv, hf⟩ := mbind hf
      obtain ⟨a, ha, hv⟩ := mbind hv
      obtain ⟨ha, fs, hm⟩ := mrc_e ha
      refine m_caR (m_runV (As := [.int x2]) (r := x0) (rest := []) X G I h_Profile_blackLevel k_695 (c_Profile_blackLevel hv) mPr_blind (m_pre G I) hm rfl ha rfl rfl hl.1 (Nat.le_of_ble_eq_true rfl) rfl rfl ⟨Nat.le_of_ble_eq_true rfl, Nat.le_of_ble_eq_true rfl⟩ hq.rm d_CL_adjustment_28) ?_
      refine r_aload_n X d_CL_adjustment_31 rfl (lv_at hl 1 rfl) ?_
      refine lv_iload_n hx hb d_CL_adjustment_32 rfl (lv_at hl 2 rfl) ?_
      obtain ⟨q3, hv, hf⟩ := mbind hf
      obtain ⟨a, ha, hv⟩ := mbind hv
      obtain ⟨ha, fs, hm⟩ := mrc_e ha
      refine m_caR (m_runV (As := [.int x2]) (r := x1) (rest := [.int q2]) X G I h_Profile_blackLevel k_695 (c_Profile_blackLevel hv) mPr_blind (m_pre G I) hm rfl ha rfl rfl hl.1 (Nat.le_of_ble_eq_true rfl) rfl rfl ⟨Nat.le_of_ble_eq_true rfl, Nat.le_of_ble_eq_true rfl⟩ hq.rm d_CL_adjustment_33) ?_
      refine lv_icmp_eq (tgt := 52) hx hb d_CL_adjustment_36 (by decide) (fun hc => ?_) (fun hc => ?_)
      · have hf := mift hf hc
        exact w_CL_adjustment_52 X G hq I hf (lv_sub hl [] rfl)
      · have hf := miff hf hc
        obtain ⟨m4, hv, hf⟩ := mbind hf
        obtain ⟨hz1, hw1, hz2, hw2, hf⟩ := mmT_e hf
        refine r_new (N := 5) X G I hq.1 rfl rfl hv hz2 hw2 (C := "ColourLinker$Adjust") (T := T_Adjust) rfl (by decide +kernel) k_722 k_458 k_89 d_CL_adjustment_39 (fun H I => ?_)
        have hq := hq.up hw1 hz2 hw2
        refine lv_dup hx hb d_CL_adjustment_42 (mrf_cat _) ?_
        refine lv_bipush (v := 8) hx hb d_CL_adjustment_43 (by decide) ?_
        refine r_aload_n X d_CL_adjustment_45 rfl (lv_at hl 0 rfl) ?_
        refine r_aload_n X d_CL_adjustment_46 rfl (lv_at hl 1 rfl) ?_
        refine lv_iload_n hx hb d_CL_adjustment_47 rfl (lv_at hl 2 rfl) ?_
        obtain ⟨q5, hv, hf⟩ := mbind hf
        obtain ⟨a, ha, hv⟩ := mbind hv
        refine m_caWv (m_runI (As := [.int (8 : Int32), va_rf x0, va_rf x1, .int x2]) (r := some z) (rest := [va_rf (some z)]) X h_Adjust_init k_723 (c_Adjust_init hv) mPr_blind (m_pre G I) ha rfl rfl hl.1 (Nat.le_of_ble_eq_true rfl) rfl rfl ⟨Nat.le_of_ble_eq_true rfl, Nat.le_of_ble_eq_true rfl⟩ hq.rm d_CL_adjustment_48) I (fun H locs I => ?_)
        obtain rfl := Option.some.inj hf
        exact r_aretN X I (Or.inl ⟨_, rfl⟩) d_CL_adjustment_51
  · have hf := miff hf hc
    obtain ⟨m6, hv, hf⟩ := mbind hf
    obtain ⟨hz1, hw1, hz2, hw2, hf⟩ := mmT_e hf
    refine r_new (N := 5) X G I hq.1 rfl rfl hv hz2 hw2 (C := "ColourLinker$Adjust") (T := T_Adjust) rfl (by decide +kernel) k_722 k_458 k_89 d_CL_adjustment_9 (fun H I => ?_)
    have hq := hq.up hw1 hz2 hw2
    refine lv_dup hx hb d_CL_adjustment_12 (mrf_cat _) ?_
    refine lv_bipush (v := 7) hx hb d_CL_adjustment_13 (by decide) ?_
    refine r_aload_n X d_CL_adjustment_15 rfl (lv_at hl 0 rfl) ?_
    refine r_aload_n X d_CL_adjustment_16 rfl (lv_at hl 1 rfl) ?_
    refine lv_iload_n hx hb d_CL_adjustment_17 rfl (lv_at hl 2 rfl) ?_
    obtain ⟨q7, hv, hf⟩ := mbind hf
    obtain ⟨a, ha, hv⟩ := mbind hv
    refine m_caWv (m_runI (As := [.int (7 : Int32), va_rf x0, va_rf x1, .int x2]) (r := some z) (rest := [va_rf (some z)]) X h_Adjust_init k_723 (c_Adjust_init hv) mPr_blind (m_pre G I) ha rfl rfl hl.1 (Nat.le_of_ble_eq_true rfl) rfl rfl ⟨Nat.le_of_ble_eq_true rfl, Nat.le_of_ble_eq_true rfl⟩ hq.rm d_CL_adjustment_18) I (fun H locs I => ?_)
    obtain rfl := Option.some.inj hf
    exact r_aretN X I (Or.inl ⟨_, rfl⟩) d_CL_adjustment_21

set_option maxHeartbeats 4000000 in
set_option maxRecDepth 100000 in
theorem c_CL_adjustment {l : Launch} {D : va_G} {cA : Nat → ClassId} {dA z0 : Nat} {μ : mM} {z w : Nat} {x0 : Option Nat} {x1 : Option Nat} {x2 : Int32} {x3 : Int32} {r : (Option Nat) × mM × Nat × Nat} (hf : f_CL_adjustment μ z w x0 x1 x2 x3 = some r) : Met l y_CL_adjustment (mW y_CL_adjustment b_CL_adjustment 4 (some (.object "ColourLinker$Piece"))) (rm_CL_adjustment (r.2.2.1 - z) (r.2.2.2 - w)) (va_Pc [va_rf x0, va_rf x1, .int x2, .int x3] (mPn D cA dA z0 μ z)) (mQN D cA z0 (some (va_rf r.1)) r.2.1 r.2.2.1) (r.2.2.1 - z) (r.2.2.2 - w) (mA z0) := by
  refine Met.ofW (cc := b_CL_adjustment) (maxL := 4) (ret := (some (.object "ColourLinker$Piece"))) (by decide) rfl ?_
  intro p e s m args below meth c s₁ B hml hv
  obtain ⟨rfl, G, hP, rfl⟩ := hv
  have X := mX.of B hml
  refine m_entry (lv := [(0, va_rf x0), (1, va_rf x1), (2, .int x2), (3, .int x3)]) (by simp [lg_sl, mrf_cat, mc_int, mc_long, mc_ref]) (by simp [lv_args, mrf_cat, mc_int, mc_long, mc_ref, mrf_some]) (fun ls hl => ?_)
  have h := w_CL_adjustment (p := p) (l := l) (e := e) (below := below) X G (Nat.le_refl w) (mI.start hP) hf hl
  rw [Nat.sub_self s.heap.size, Nat.sub_self w] at h
  exact h

end WK
