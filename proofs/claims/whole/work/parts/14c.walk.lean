section WK
variable {p : Program} {l : Launch} {e : Env} {s : State} {m : MethodId} {args : Array Value} {below : List Frame} {meth : Method} {c : Code} {D : va_G} {cA : Nat → ClassId} {dA z0 : Nat}
abbrev rm_Matrix_readFactors (k n : Nat) : Room := { frames := 1, cells := k, slots := n, locals := 21 }
theorem h_Matrix_readFactors : mCS y_Matrix_readFactors b_Matrix_readFactors 5 (some (.array .long)) 2 := ⟨k_366, k_88, ⟨by decide, by decide, by decide +kernel⟩, k_365⟩
set_option maxHeartbeats 4000000 in
set_option maxRecDepth 100000 in
theorem w_Matrix_readFactors_54 {ws : Nat} {r : (Option Nat) × mM × Nat × Nat} (X : mX p m meth c s args b_Matrix_readFactors 5 (some (.array .long)) "ColourLinker$Matrix") (G : mG D cA dA z0 s) {H : Heap} {locs : List Loc} {μ : mM} {z w : Nat} {ls : Array Slot} {x2 : Option Nat} (hq : mq ws w z r.2.2.1 r.2.2.2) (I : mI D cA z0 s μ H locs z) (hf : f_Matrix_readFactors_54 μ z w x2 = some r) (hl : lv_has ls 5 [(2, va_rf x2)]) : W p l e (rm_Matrix_readFactors (r.2.2.1 - s.heap.size) (r.2.2.2 - ws)) s m args below meth c H locs (z - s.heap.size) (w - ws) (MQ below (mQN D cA z0 (some (va_rf r.1)) r.2.1 r.2.2.1) args s (r.2.2.1 - s.heap.size) (r.2.2.2 - ws) (mA z0)) (F0 m 54 ls []) := by
  have hx := X.ex
  have hb := X.by_
  unfold f_Matrix_readFactors_54 at hf
  refine r_aload_n X d_Matrix_readFactors_54 rfl (lv_at hl 0 rfl) ?_
  obtain rfl := Option.some.inj hf
  exact r_aretN X I (Or.inr ⟨_, rfl⟩) d_Matrix_readFactors_55

set_option maxHeartbeats 4000000 in
set_option maxRecDepth 100000 in
theorem w_Matrix_readFactors_47 {ws : Nat} {r : (Option Nat) × mM × Nat × Nat} (X : mX p m meth c s args b_Matrix_readFactors 5 (some (.array .long)) "ColourLinker$Matrix") (G : mG D cA dA z0 s) {k : mM → Nat → Nat → (Option Nat) → Int32 → (Option Nat) → Int32 → Option ((Option Nat) × mM × Nat × Nat)} {kx54 : mM → Nat → Nat → (Option Nat) → Option ((Option Nat) × mM × Nat × Nat)} (hk : ∀ (H : Heap) (locs : List Loc) (μ : mM) (z w : Nat) (ls : Array Slot) (x0 : Option Nat) (x1 : Int32) (x2 : Option Nat) (x3 : Int32), mq ws w z r.2.2.1 r.2.2.2 → mI D cA z0 s μ H locs z → k μ z w x0 x1 x2 x3 = some r → lv_has ls 5 [(0, va_rf x0), (1, .int x1), (2, va_rf x2), (3, .int x3)] → W p l e (rm_Matrix_readFactors (r.2.2.1 - s.heap.size) (r.2.2.2 - ws)) s m args below meth c H locs (z - s.heap.size) (w - ws) (MQ below (mQN D cA z0 (some (va_rf r.1)) r.2.1 r.2.2.1) args s (r.2.2.1 - s.heap.size) (r.2.2.2 - ws) (mA z0)) (F0 m 7 ls [])) (hkx54 : ∀ (H : Heap) (locs : List Loc) (μ : mM) (z w : Nat) (ls : Array Slot) (x2 : Option Nat), mq ws w z r.2.2.1 r.2.2.2 → mI D cA z0 s μ H locs z → kx54 μ z w x2 = some r → lv_has ls 5 [(2, va_rf x2)] → W p l e (rm_Matrix_readFactors (r.2.2.1 - s.heap.size) (r.2.2.2 - ws)) s m args below meth c H locs (z - s.heap.size) (w - ws) (MQ below (mQN D cA z0 (some (va_rf r.1)) r.2.1 r.2.2.1) args s (r.2.2.1 - s.heap.size) (r.2.2.2 - ws) (mA z0)) (F0 m 54 ls [])) {H : Heap} {locs : List Loc} {μ : mM} {z w : Nat} {ls : Array Slot} {x0 : Option Nat} {x1 : Int32} {x2 : Option Nat} {x3 : Int32} {s0 : Option Nat} {s1 : Int32} {s2 : Int64} (hq : mq ws w z r.2.2.1 r.2.2.2) (I : mI D cA z0 s μ H locs z) (hf : f_Matrix_readFactors_47 k kx54 μ z w x0 x1 x2 x3 s0 s1 s2 = some r) (hl : lv_has ls 5 [(0, va_rf x0), (1, .int x1), (2, va_rf x2), (3, .int x3)]) : W p l e (rm_Matrix_readFactors (r.2.2.1 - s.heap.size) (r.2.2.2 - ws)) s m args below meth c H locs (z - s.heap.size) (w - ws) (MQ below (mQN D cA z0 (some (va_rf r.1)) r.2.1 r.2.2.1) args s (r.2.2.1 - s.heap.size) (r.2.2.2 - ws) (mA z0)) (F0 m 47 ls [.long s2, .int s1, va_rf s0]) := by
  have hx := X.ex
  have hb := X.by_
  unfold f_Matrix_readFactors_47 at hf
  obtain ⟨m3, hv, hf⟩ := mbind hf
  refine r_last X G I hv d_Matrix_readFactors_47 (fun H locs I => ?_)
  refine lv_iinc (i := 3) (k := 3) (v := (x3 + (1 : Int32))) (lv' := [(3, .int (x3 + (1 : Int32))), (0, va_rf x0), (1, .int x1), (2, va_rf x2)]) hx hb d_Matrix_readFactors_48 hl rfl (congrArg (fun t => x3 + t) (by decide : Int32.ofInt (1) = (1 : Int32))) (by decide) (by simp [mrf_cat]) (fun ls hl => ?_)
  refine lv_goto (tgt := 7) hx hb d_Matrix_readFactors_51 (by decide) ?_
  exact hk _ _ _ _ _ _ _ _ _ _ hq I hf (lv_sub hl [1, 2, 3, 0] rfl)

set_option maxHeartbeats 4000000 in
set_option maxRecDepth 100000 in
theorem w_Matrix_readFactors_7 {ws : Nat} {r : (Option Nat) × mM × Nat × Nat} (X : mX p m meth c s args b_Matrix_readFactors 5 (some (.array .long)) "ColourLinker$Matrix") (G : mG D cA dA z0 s) {kx54 : mM → Nat → Nat → (Option Nat) → Option ((Option Nat) × mM × Nat × Nat)} (hkx54 : ∀ (H : Heap) (locs : List Loc) (μ : mM) (z w : Nat) (ls : Array Slot) (x2 : Option Nat), mq ws w z r.2.2.1 r.2.2.2 → mI D cA z0 s μ H locs z → kx54 μ z w x2 = some r → lv_has ls 5 [(2, va_rf x2)] → W p l e (rm_Matrix_readFactors (r.2.2.1 - s.heap.size) (r.2.2.2 - ws)) s m args below meth c H locs (z - s.heap.size) (w - ws) (MQ below (mQN D cA z0 (some (va_rf r.1)) r.2.1 r.2.2.1) args s (r.2.2.1 - s.heap.size) (r.2.2.2 - ws) (mA z0)) (F0 m 54 ls [])) : ∀ (n : Nat) (H : Heap) (locs : List Loc) (μ : mM) (z w : Nat) (ls : Array Slot) (x0 : Option Nat) (x1 : Int32) (x2 : Option Nat) (x3 : Int32), mq ws w z r.2.2.1 r.2.2.2 → mI D cA z0 s μ H locs z → f_Matrix_readFactors_7 kx54 n μ z w x0 x1 x2 x3 = some r → lv_has ls 5 [(0, va_rf x0), (1, .int x1), (2, va_rf x2), (3, .int x3)] → W p l e (rm_Matrix_readFactors (r.2.2.1 - s.heap.size) (r.2.2.2 - ws)) s m args below meth c H locs (z - s.heap.size) (w - ws) (MQ below (mQN D cA z0 (some (va_rf r.1)) r.2.1 r.2.2.1) args s (r.2.2.1 - s.heap.size) (r.2.2.2 - ws) (mA z0)) (F0 m 7 ls []) := by
  have hx := X.ex
  have hb := X.by_
  intro n
  induction n with
  | zero => intro H locs μ z w ls x0 x1 x2 x3 hq I hf hl; rw [f_Matrix_readFactors_7] at hf; cases hf
  | succ n ih =>
    intro H locs μ z w ls x0 x1 x2 x3 hq I hf hl
    rw [f_Matrix_readFactors_7] at hf
    refine lv_iload_n hx hb d_Matrix_readFactors_7 rfl (lv_at hl 3 rfl) ?_
    refine lv_bipush (v := 9) hx hb d_Matrix_readFactors_8 (by decide) ?_
    refine lv_icmp_ge (tgt := 54) hx hb d_Matrix_readFactors_10 (by decide) (fun hc => ?_) (fun hc => ?_)
    · have hf := mift hf hc
      exact hkx54 _ _ _ _ _ _ _ hq I hf (lv_sub hl [2] rfl)
    · have hf := miff hf hc
      refine r_aload_n X d_Matrix_readFactors_13 rfl (lv_at hl 0 rfl) ?_
      refine lv_iload_n hx hb d_Matrix_readFactors_14 rfl (lv_at hl 1 rfl) ?_
      refine lv_iconst (v := 2) hx hb d_Matrix_readFactors_15 (by decide) ?_
      refine lv_iadd hx hb d_Matrix_readFactors_16 ?_
      refine lv_iconst (v := 2) hx hb d_Matrix_readFactors_17 (by decide) ?_
      refine lv_iload_n hx hb d_Matrix_readFactors_18 rfl (lv_at hl 3 rfl) ?_
      refine lv_imul hx hb d_Matrix_readFactors_19 ?_
      refine lv_iadd hx hb d_Matrix_readFactors_20 ?_
      obtain ⟨q2, hv, hf⟩ := mbind hf
      refine m_caR (m_runSN (As := [va_rf x0, .int ((x1 + (2 : Int32)) + ((2 : Int32) * x3))]) (rest := []) X G h_CL_wordAt k_367 (c_CL_wordAt hv) mPr_blind (m_pre G I) rfl rfl hl.1 (Nat.le_of_ble_eq_true rfl) rfl rfl ⟨Nat.le_of_ble_eq_true rfl, Nat.le_of_ble_eq_true rfl⟩ hq.rm d_Matrix_readFactors_21) ?_
      refine lv_istore (i := 4) (lv' := [(4, .int q2), (0, va_rf x0), (1, .int x1), (2, va_rf x2), (3, .int x3)]) hx hb d_Matrix_readFactors_24 hl (by decide) rfl (fun ls hl => ?_)
      refine r_aload_n X d_Matrix_readFactors_26 rfl (lv_at hl 3 rfl) ?_
      refine lv_iload_n hx hb d_Matrix_readFactors_27 rfl (lv_at hl 4 rfl) ?_
      refine lv_iload hx hb d_Matrix_readFactors_28 (lv_at hl 0 rfl) ?_
      refine lv_ldc (v := 32768) hx hb X.ow (X.w k_368) d_Matrix_readFactors_30 ?_
      refine lv_icmp_lt (tgt := 44) hx hb d_Matrix_readFactors_32 (by decide) (fun hc => ?_) (fun hc => ?_)
      · have hf := mift hf hc
        refine lv_iload hx hb d_Matrix_readFactors_44 (lv_at hl 0 rfl) ?_
        refine lv_i2l hx hb d_Matrix_readFactors_46 rfl ?_
        exact w_Matrix_readFactors_47 X G ih hkx54 hq I hf (lv_sub hl [1, 2, 3, 4] rfl)
      · have hf := miff hf hc
        refine lv_iload hx hb d_Matrix_readFactors_35 (lv_at hl 0 rfl) ?_
        refine lv_ldc (v := 65536) hx hb X.ow (X.w k_369) d_Matrix_readFactors_37 ?_
        refine lv_isub hx hb d_Matrix_readFactors_39 ?_
        refine lv_i2l hx hb d_Matrix_readFactors_40 rfl ?_
        refine lv_goto (tgt := 47) hx hb d_Matrix_readFactors_41 (by decide) ?_
        exact w_Matrix_readFactors_47 X G ih hkx54 hq I hf (lv_sub hl [1, 2, 3, 4] rfl)

set_option maxHeartbeats 4000000 in
set_option maxRecDepth 100000 in
theorem w_Matrix_readFactors {ws : Nat} {r : (Option Nat) × mM × Nat × Nat} (X : mX p m meth c s args b_Matrix_readFactors 5 (some (.array .long)) "ColourLinker$Matrix") (G : mG D cA dA z0 s) {H : Heap} {locs : List Loc} {μ : mM} {z w : Nat} {ls : Array Slot} {x0 : Option Nat} {x1 : Int32} (hw : ws ≤ w) (I : mI D cA z0 s μ H locs z) (hf : f_Matrix_readFactors μ z w x0 x1 = some r) (hl : lv_has ls 5 [(0, va_rf x0), (1, .int x1)]) : W p l e (rm_Matrix_readFactors (r.2.2.1 - s.heap.size) (r.2.2.2 - ws)) s m args below meth c H locs (z - s.heap.size) (w - ws) (MQ below (mQN D cA z0 (some (va_rf r.1)) r.2.1 r.2.2.1) args s (r.2.2.1 - s.heap.size) (r.2.2.2 - ws) (mA z0)) (F0 m 0 ls []) := by
  have hx := X.ex
  have hb := X.by_
  unfold f_Matrix_readFactors at hf
  obtain ⟨-, -, hz2, hw2, hf⟩ := mmT_e hf
  have hq : mq ws w z r.2.2.1 r.2.2.2 := ⟨hw, hz2, hw2⟩
  refine lv_bipush (v := 9) hx hb d_Matrix_readFactors_0 (by decide) ?_
  obtain ⟨m1, hv, hf⟩ := mbind hf
  obtain ⟨hz1, hw1, hz2, hw2, hf⟩ := mmT_e hf
  refine r_newa (atype := .long) X G I hq.1 rfl rfl hv hz2 hw2 (Or.inr (Or.inl ⟨rfl, rfl⟩)) k_389 d_Matrix_readFactors_2 (fun H I => ?_)
  have hq := hq.up hw1 hz2 hw2
  refine r_astore_n (i := 2) (lv' := [(2, va_rf (some z)), (0, va_rf x0), (1, .int x1)]) X d_Matrix_readFactors_4 rfl hl (by decide) rfl (fun ls hl => ?_)
  refine lv_iconst (v := 0) hx hb d_Matrix_readFactors_5 (by decide) ?_
  refine lv_istore_n (i := 3) (lv' := [(3, .int (0 : Int32)), (2, va_rf (some z)), (0, va_rf x0), (1, .int x1)]) hx hb d_Matrix_readFactors_6 rfl hl (by decide) (by simp [mrf_cat]) (fun ls hl => ?_)
  exact w_Matrix_readFactors_7 X G (fun H locs μ z w ls x2 hq I hf hl => w_Matrix_readFactors_54 X G hq I hf hl) 4096 _ _ _ _ _ _ _ _ _ _ hq I hf (lv_sub hl [2, 3, 1, 0] rfl)

set_option maxHeartbeats 4000000 in
set_option maxRecDepth 100000 in
theorem c_Matrix_readFactors {l : Launch} {D : va_G} {cA : Nat → ClassId} {dA z0 : Nat} {μ : mM} {z w : Nat} {x0 : Option Nat} {x1 : Int32} {r : (Option Nat) × mM × Nat × Nat} (hf : f_Matrix_readFactors μ z w x0 x1 = some r) : Met l y_Matrix_readFactors (mW y_Matrix_readFactors b_Matrix_readFactors 5 (some (.array .long))) (rm_Matrix_readFactors (r.2.2.1 - z) (r.2.2.2 - w)) (va_Pc [va_rf x0, .int x1] (mPn D cA dA z0 μ z)) (mQN D cA z0 (some (va_rf r.1)) r.2.1 r.2.2.1) (r.2.2.1 - z) (r.2.2.2 - w) (mA z0) := by
  refine Met.ofW (cc := b_Matrix_readFactors) (maxL := 5) (ret := (some (.array .long))) (by decide) rfl ?_
  intro p e s m args below meth c s₁ B hml hv
  obtain ⟨rfl, G, hP, rfl⟩ := hv
  have X := mX.of B hml
  refine m_entry (lv := [(0, va_rf x0), (1, .int x1)]) (by simp [lg_sl, mrf_cat, mc_int, mc_long, mc_ref]) (by simp [lv_args, mrf_cat, mc_int, mc_long, mc_ref, mrf_some]) (fun ls hl => ?_)
  have h := w_Matrix_readFactors (p := p) (l := l) (e := e) (below := below) X G (Nat.le_refl w) (mI.start hP) hf hl
  rw [Nat.sub_self s.heap.size, Nat.sub_self w] at h
  exact h

abbrev rm_Matrix_isUnit : Room := { frames := 0, cells := 0, slots := 0, locals := 0 }
theorem h_Matrix_isUnit : mCS y_Matrix_isUnit b_Matrix_isUnit 3 (some .boolean) 1 := ⟨k_374, k_88, ⟨by decide, by decide, by decide +kernel⟩, k_373⟩
set_option maxHeartbeats 4000000 in
set_option maxRecDepth 100000 in
theorem w_Matrix_isUnit_47 {μ : mM} {r : Int32} (X : mX p m meth c s args b_Matrix_isUnit 3 (some .boolean) "ColourLinker$Matrix") (G : mG D cA dA z0 s) (I : mI D cA z0 s μ s.heap [] s.heap.size) {ls : Array Slot} {x1 : Int32} (hf : f_Matrix_isUnit_47 μ x1 = some r) (hl : lv_has ls 3 [(1, .int x1)]) : W p l e rm_Matrix_isUnit s m args below meth c s.heap [] 0 0 (MQ below (mQR (some (.int r))) args s 0 0 (fun _ => False)) (F0 m 47 ls []) := by
  have hx := X.ex
  have hb := X.by_
  unfold f_Matrix_isUnit_47 at hf
  refine lv_iload_n hx hb d_Matrix_isUnit_47 rfl (lv_at hl 0 rfl) ?_
  obtain ⟨v2, hv, hf⟩ := mbind hf
  obtain ⟨hz0, hz⟩ := mz_e hv
  rw [hz0] at hf
  obtain rfl := Option.some.inj hf
  exact r_zretR X hz d_Matrix_isUnit_48

set_option maxHeartbeats 4000000 in
set_option maxRecDepth 100000 in
theorem w_Matrix_isUnit_40 {μ : mM} {r : Int32} (X : mX p m meth c s args b_Matrix_isUnit 3 (some .boolean) "ColourLinker$Matrix") (G : mG D cA dA z0 s) (I : mI D cA z0 s μ s.heap [] s.heap.size) {k : (Option Nat) → Int32 → Int32 → Option (Int32)} {kx47 : Int32 → Option (Int32)} (hk : ∀ (ls : Array Slot) (x0 : Option Nat) (x1 : Int32) (x2 : Int32), k x0 x1 x2 = some r → lv_has ls 3 [(0, va_rf x0), (1, .int x1), (2, .int x2)] → W p l e rm_Matrix_isUnit s m args below meth c s.heap [] 0 0 (MQ below (mQR (some (.int r))) args s 0 0 (fun _ => False)) (F0 m 4 ls [])) (hkx47 : ∀ (ls : Array Slot) (x1 : Int32), kx47 x1 = some r → lv_has ls 3 [(1, .int x1)] → W p l e rm_Matrix_isUnit s m args below meth c s.heap [] 0 0 (MQ below (mQR (some (.int r))) args s 0 0 (fun _ => False)) (F0 m 47 ls [])) {ls : Array Slot} {x0 : Option Nat} {x2 : Int32} {s0 : Int32} (hf : f_Matrix_isUnit_40 μ k kx47 x0 x2 s0 = some r) (hl : lv_has ls 3 [(0, va_rf x0), (2, .int x2)]) : W p l e rm_Matrix_isUnit s m args below meth c s.heap [] 0 0 (MQ below (mQR (some (.int r))) args s 0 0 (fun _ => False)) (F0 m 40 ls [.int s0]) := by
  have hx := X.ex
  have hb := X.by_
  unfold f_Matrix_isUnit_40 at hf
  refine lv_istore_n (i := 1) (lv' := [(1, .int s0), (0, va_rf x0), (2, .int x2)]) hx hb d_Matrix_isUnit_40 rfl hl (by decide) (by simp [mrf_cat]) (fun ls hl => ?_)
  refine lv_iinc (i := 2) (k := 2) (v := (x2 + (1 : Int32))) (lv' := [(2, .int (x2 + (1 : Int32))), (1, .int s0), (0, va_rf x0)]) hx hb d_Matrix_isUnit_41 hl rfl (congrArg (fun t => x2 + t) (by decide : Int32.ofInt (1) = (1 : Int32))) (by decide) rfl (fun ls hl => ?_)
  refine lv_goto (tgt := 4) hx hb d_Matrix_isUnit_44 (by decide) ?_
  exact hk _ _ _ _ hf (lv_sub hl [2, 1, 0] rfl)

set_option maxHeartbeats 4000000 in
set_option maxRecDepth 100000 in
theorem w_Matrix_isUnit_39 {μ : mM} {r : Int32} (X : mX p m meth c s args b_Matrix_isUnit 3 (some .boolean) "ColourLinker$Matrix") (G : mG D cA dA z0 s) (I : mI D cA z0 s μ s.heap [] s.heap.size) {k : (Option Nat) → Int32 → Int32 → Option (Int32)} {kx47 : Int32 → Option (Int32)} (hk : ∀ (ls : Array Slot) (x0 : Option Nat) (x1 : Int32) (x2 : Int32), k x0 x1 x2 = some r → lv_has ls 3 [(0, va_rf x0), (1, .int x1), (2, .int x2)] → W p l e rm_Matrix_isUnit s m args below meth c s.heap [] 0 0 (MQ below (mQR (some (.int r))) args s 0 0 (fun _ => False)) (F0 m 4 ls [])) (hkx47 : ∀ (ls : Array Slot) (x1 : Int32), kx47 x1 = some r → lv_has ls 3 [(1, .int x1)] → W p l e rm_Matrix_isUnit s m args below meth c s.heap [] 0 0 (MQ below (mQR (some (.int r))) args s 0 0 (fun _ => False)) (F0 m 47 ls [])) {ls : Array Slot} {x0 : Option Nat} {x2 : Int32} (hf : f_Matrix_isUnit_39 μ k kx47 x0 x2 = some r) (hl : lv_has ls 3 [(0, va_rf x0), (2, .int x2)]) : W p l e rm_Matrix_isUnit s m args below meth c s.heap [] 0 0 (MQ below (mQR (some (.int r))) args s 0 0 (fun _ => False)) (F0 m 39 ls []) := by
  have hx := X.ex
  have hb := X.by_
  unfold f_Matrix_isUnit_39 at hf
  refine lv_iconst (v := 0) hx hb d_Matrix_isUnit_39 (by decide) ?_
  exact w_Matrix_isUnit_40 X G I hk hkx47 hf hl

set_option maxHeartbeats 4000000 in
set_option maxRecDepth 100000 in
theorem w_Matrix_isUnit_30 {μ : mM} {r : Int32} (X : mX p m meth c s args b_Matrix_isUnit 3 (some .boolean) "ColourLinker$Matrix") (G : mG D cA dA z0 s) (I : mI D cA z0 s μ s.heap [] s.heap.size) {k : (Option Nat) → Int32 → Int32 → Option (Int32)} {kx47 : Int32 → Option (Int32)} (hk : ∀ (ls : Array Slot) (x0 : Option Nat) (x1 : Int32) (x2 : Int32), k x0 x1 x2 = some r → lv_has ls 3 [(0, va_rf x0), (1, .int x1), (2, .int x2)] → W p l e rm_Matrix_isUnit s m args below meth c s.heap [] 0 0 (MQ below (mQR (some (.int r))) args s 0 0 (fun _ => False)) (F0 m 4 ls [])) (hkx47 : ∀ (ls : Array Slot) (x1 : Int32), kx47 x1 = some r → lv_has ls 3 [(1, .int x1)] → W p l e rm_Matrix_isUnit s m args below meth c s.heap [] 0 0 (MQ below (mQR (some (.int r))) args s 0 0 (fun _ => False)) (F0 m 47 ls [])) {ls : Array Slot} {x0 : Option Nat} {x2 : Int32} {s0 : Int64} {s1 : Int32} (hf : f_Matrix_isUnit_30 μ k kx47 x0 x2 s0 s1 = some r) (hl : lv_has ls 3 [(0, va_rf x0), (2, .int x2)]) : W p l e rm_Matrix_isUnit s m args below meth c s.heap [] 0 0 (MQ below (mQR (some (.int r))) args s 0 0 (fun _ => False)) (F0 m 30 ls [.int s1, .long s0]) := by
  have hx := X.ex
  have hb := X.by_
  unfold f_Matrix_isUnit_30 at hf
  refine lv_i2l hx hb d_Matrix_isUnit_30 rfl ?_
  refine r_lcne (tgt := 39) X d_Matrix_isUnit_31 d_Matrix_isUnit_32 (by decide) (fun hc => ?_) (fun hc => ?_)
  · have hf := miff hf hc
    exact w_Matrix_isUnit_39 X G I hk hkx47 hf hl
  · have hf := mift hf hc
    refine lv_iconst (v := 1) hx hb d_Matrix_isUnit_35 (by decide) ?_
    refine lv_goto (tgt := 40) hx hb d_Matrix_isUnit_36 (by decide) ?_
    exact w_Matrix_isUnit_40 X G I hk hkx47 hf hl

set_option maxHeartbeats 4000000 in
set_option maxRecDepth 100000 in
theorem w_Matrix_isUnit_4 {μ : mM} {r : Int32} (X : mX p m meth c s args b_Matrix_isUnit 3 (some .boolean) "ColourLinker$Matrix") (G : mG D cA dA z0 s) (I : mI D cA z0 s μ s.heap [] s.heap.size) {kx47 : Int32 → Option (Int32)} (hkx47 : ∀ (ls : Array Slot) (x1 : Int32), kx47 x1 = some r → lv_has ls 3 [(1, .int x1)] → W p l e rm_Matrix_isUnit s m args below meth c s.heap [] 0 0 (MQ below (mQR (some (.int r))) args s 0 0 (fun _ => False)) (F0 m 47 ls [])) : ∀ (n : Nat) (ls : Array Slot) (x0 : Option Nat) (x1 : Int32) (x2 : Int32), f_Matrix_isUnit_4 μ kx47 n x0 x1 x2 = some r → lv_has ls 3 [(0, va_rf x0), (1, .int x1), (2, .int x2)] → W p l e rm_Matrix_isUnit s m args below meth c s.heap [] 0 0 (MQ below (mQR (some (.int r))) args s 0 0 (fun _ => False)) (F0 m 4 ls []) := by
  have hx := X.ex
  have hb := X.by_
  intro n
  induction n with
  | zero => intro ls x0 x1 x2 hf hl; rw [f_Matrix_isUnit_4] at hf; cases hf
  | succ n ih =>
    intro ls x0 x1 x2 hf hl
    rw [f_Matrix_isUnit_4] at hf
    refine lv_iload_n hx hb d_Matrix_isUnit_4 rfl (lv_at hl 2 rfl) ?_
    refine lv_bipush (v := 9) hx hb d_Matrix_isUnit_5 (by decide) ?_
    refine lv_icmp_ge (tgt := 47) hx hb d_Matrix_isUnit_7 (by decide) (fun hc => ?_) (fun hc => ?_)
    · have hf := mift hf hc
      exact hkx47 _ _ hf (lv_sub hl [1] rfl)
    · have hf := miff hf hc
      refine lv_iload_n hx hb d_Matrix_isUnit_10 rfl (lv_at hl 1 rfl) ?_
      refine lv_if_eq (tgt := 39) hx hb d_Matrix_isUnit_11 (by decide) (fun hc => ?_) (fun hc => ?_)
      · have hf := mift hf hc
        exact w_Matrix_isUnit_39 X G I ih hkx47 hf (lv_sub hl [0, 2] rfl)
      · have hf := miff hf hc
        refine r_aload_n X d_Matrix_isUnit_14 rfl (lv_at hl 0 rfl) ?_
        refine lv_iload_n hx hb d_Matrix_isUnit_15 rfl (lv_at hl 2 rfl) ?_
        obtain ⟨v1, hv, hf⟩ := mbind hf
        refine r_lald X G I hv d_Matrix_isUnit_16 ?_
        refine lv_iload_n hx hb d_Matrix_isUnit_17 rfl (lv_at hl 2 rfl) ?_
        refine lv_iconst (v := 4) hx hb d_Matrix_isUnit_18 (by decide) ?_
        refine lv_irem hx hb d_Matrix_isUnit_19 (by decide) ?_
        refine lv_if_ne (tgt := 29) hx hb d_Matrix_isUnit_20 (by decide) (fun hc => ?_) (fun hc => ?_)
        · have hf := miff hf hc
          refine lv_iconst (v := 0) hx hb d_Matrix_isUnit_29 (by decide) ?_
          exact w_Matrix_isUnit_30 X G I ih hkx47 hf (lv_sub hl [0, 2] rfl)
        · have hf := mift hf hc
          refine lv_sipush (v := 4096) hx hb d_Matrix_isUnit_23 (by decide) ?_
          refine lv_goto (tgt := 30) hx hb d_Matrix_isUnit_26 (by decide) ?_
          exact w_Matrix_isUnit_30 X G I ih hkx47 hf (lv_sub hl [0, 2] rfl)

set_option maxHeartbeats 4000000 in
set_option maxRecDepth 100000 in
theorem w_Matrix_isUnit {μ : mM} {r : Int32} (X : mX p m meth c s args b_Matrix_isUnit 3 (some .boolean) "ColourLinker$Matrix") (G : mG D cA dA z0 s) (I : mI D cA z0 s μ s.heap [] s.heap.size) {ls : Array Slot} {x0 : Option Nat} (hf : f_Matrix_isUnit μ x0 = some r) (hl : lv_has ls 3 [(0, va_rf x0)]) : W p l e rm_Matrix_isUnit s m args below meth c s.heap [] 0 0 (MQ below (mQR (some (.int r))) args s 0 0 (fun _ => False)) (F0 m 0 ls []) := by
  have hx := X.ex
  have hb := X.by_
  unfold f_Matrix_isUnit at hf
  refine lv_iconst (v := 1) hx hb d_Matrix_isUnit_0 (by decide) ?_
  refine lv_istore_n (i := 1) (lv' := [(1, .int (1 : Int32)), (0, va_rf x0)]) hx hb d_Matrix_isUnit_1 rfl hl (by decide) (by simp [mrf_cat]) (fun ls hl => ?_)
  refine lv_iconst (v := 0) hx hb d_Matrix_isUnit_2 (by decide) ?_
  refine lv_istore_n (i := 2) (lv' := [(2, .int (0 : Int32)), (1, .int (1 : Int32)), (0, va_rf x0)]) hx hb d_Matrix_isUnit_3 rfl hl (by decide) rfl (fun ls hl => ?_)
  exact w_Matrix_isUnit_4 X G I (fun ls x1 hf hl => w_Matrix_isUnit_47 X G I hf hl) 4096 _ _ _ _ hf (lv_sub hl [2, 1, 0] rfl)

set_option maxHeartbeats 4000000 in
set_option maxRecDepth 100000 in
theorem c_Matrix_isUnit {l : Launch} {D : va_G} {cA : Nat → ClassId} {dA z0 : Nat} {μ : mM} {x0 : Option Nat} {r : Int32} (hf : f_Matrix_isUnit μ x0 = some r) : Met l y_Matrix_isUnit (mW y_Matrix_isUnit b_Matrix_isUnit 3 (some .boolean)) rm_Matrix_isUnit (va_Pc [va_rf x0] (mPr D cA dA z0 μ)) (mQR (some (.int r))) 0 0 (fun _ => False) := by
  refine Met.ofW (cc := b_Matrix_isUnit) (maxL := 3) (ret := (some .boolean)) (by decide) rfl ?_
  intro p e s m args below meth c s₁ B hml hv
  obtain ⟨rfl, G, hP⟩ := hv
  have X := mX.of B hml
  exact m_entry (lv := [(0, va_rf x0)]) (by simp [lg_sl, mrf_cat, mc_int, mc_long, mc_ref]) (by simp [lv_args, mrf_cat, mc_int, mc_long, mc_ref, mrf_some]) (fun ls hl => w_Matrix_isUnit X G (mI.start hP) hf hl)

abbrev rm_Matrix_init : Room := { frames := 2, cells := 0, slots := 0, locals := 42 }
theorem h_Matrix_init : mCI y_Matrix_init b_Matrix_init 6 4 := ⟨k_378, k_88, ⟨by decide, by decide, by decide +kernel⟩, k_377, rfl⟩
set_option maxHeartbeats 4000000 in
set_option maxRecDepth 100000 in
theorem w_Matrix_init {h0 : Nat} {r : mM} (X : mX p m meth c s args b_Matrix_init 6 none "ColourLinker$Matrix") (G : mG D cA dA z0 s) (hN : meth.name = "<init>") {H : Heap} {locs : List Loc} {μ : mM} {ls : Array Slot} {x1 : Int32} {x2 : Int32} {x3 : Option Nat} {x4 : Int64} (I : mI D cA z0 s μ H locs s.heap.size) (hf : f_Matrix_init h0 μ x1 x2 x3 x4 = some r) (hl : lv_has ls 6 [(0, va_rf (some h0)), (1, .int x1), (2, .int x2), (3, va_rf x3), (4, .long x4)]) : W p l e rm_Matrix_init s m args below meth c H locs 0 0 (MQ below (mQW D cA z0 none r) args s 0 0 (mA z0)) (F0 m 0 ls []) := by
  have hx := X.ex
  have hb := X.by_
  unfold f_Matrix_init at hf
  refine r_aload_n X d_Matrix_init_0 rfl (lv_at hl 0 rfl) ?_
  refine lv_iload_n hx hb d_Matrix_init_1 rfl (lv_at hl 1 rfl) ?_
  refine lv_iload_n hx hb d_Matrix_init_2 rfl (lv_at hl 2 rfl) ?_
  obtain ⟨q1, hv, hf⟩ := mbind hf
  obtain ⟨a, ha, hv⟩ := mbind hv
  refine m_caWv (m_runI (As := [.int x1, .int x2]) (r := some h0) (rest := []) X h_Piece_init k_379 (c_Piece_init hv) mPr_blind (m_pre G I) ha rfl rfl hl.1 (Nat.le_of_ble_eq_true rfl) rfl rfl ⟨Nat.le_of_ble_eq_true rfl, Nat.le_of_ble_eq_true rfl⟩ ⟨Nat.le_refl _, Nat.le_refl _⟩ d_Matrix_init_3) I (fun H locs I => ?_)
  refine r_aload_n X d_Matrix_init_6 rfl (lv_at hl 0 rfl) ?_
  refine r_aload_n X d_Matrix_init_7 rfl (lv_at hl 3 rfl) ?_
  obtain ⟨m2, hv, hf⟩ := mbind hf
  refine r_putF (ty := (.array .long)) X G I hv o_Matrix_factors k_380 hN (by decide) (mn_nR _) (mn_fR _) d_Matrix_init_8 (fun H locs I => ?_)
  refine r_aload_n X d_Matrix_init_11 rfl (lv_at hl 0 rfl) ?_
  refine lv_lload hx hb d_Matrix_init_12 (lv_at hl 4 rfl) ?_
  obtain ⟨m3, hv, hf⟩ := mbind hf
  refine r_putF (ty := .long) X G I hv o_Matrix_divisor k_381 hN (by decide) rfl rfl d_Matrix_init_14 (fun H locs I => ?_)
  obtain rfl := Option.some.inj hf
  exact r_vretW X I d_Matrix_init_17

set_option maxHeartbeats 4000000 in
set_option maxRecDepth 100000 in
theorem c_Matrix_init {l : Launch} {D : va_G} {cA : Nat → ClassId} {dA z0 : Nat} {μ : mM} {h0 : Nat} {x1 : Int32} {x2 : Int32} {x3 : Option Nat} {x4 : Int64} {r : mM} (hf : f_Matrix_init h0 μ x1 x2 x3 x4 = some r) : Met l y_Matrix_init (mW y_Matrix_init b_Matrix_init 6 none) rm_Matrix_init (va_Pc [.ref h0, .int x1, .int x2, va_rf x3, .long x4] (mPr D cA dA z0 μ)) (mQW D cA z0 none r) 0 0 (mA z0) := by
  refine Met.ofW (cc := b_Matrix_init) (maxL := 6) (ret := none) (by decide) rfl ?_
  intro p e s m args below meth c s₁ B hml hv
  obtain ⟨rfl, G, hP⟩ := hv
  have X := mX.of B hml
  have hN : meth.name = "<init>" := (name_of_methodNamed B.named B.method).1
  exact m_entry (lv := [(0, va_rf (some h0)), (1, .int x1), (2, .int x2), (3, va_rf x3), (4, .long x4)]) (by simp [lg_sl, mrf_cat, mc_int, mc_long, mc_ref]) (by simp [lv_args, mrf_cat, mc_int, mc_long, mc_ref, mrf_some]) (fun ls hl => w_Matrix_init X G hN (mI.start hP) hf hl)

abbrev rm_Matrix_forth (k n : Nat) : Room := { frames := 3, cells := k, slots := n, locals := 67 }
theorem h_Matrix_forth : mCS y_Matrix_forth b_Matrix_forth 3 (some (.object "ColourLinker$Matrix")) 2 := ⟨k_363, k_88, ⟨by decide, by decide, by decide +kernel⟩, k_362⟩
set_option maxHeartbeats 4000000 in
set_option maxRecDepth 100000 in
theorem w_Matrix_forth {ws : Nat} {r : (Option Nat) × mM × Nat × Nat} (X : mX p m meth c s args b_Matrix_forth 3 (some (.object "ColourLinker$Matrix")) "ColourLinker$Matrix") (G : mG D cA dA z0 s) {H : Heap} {locs : List Loc} {μ : mM} {z w : Nat} {ls : Array Slot} {x0 : Option Nat} {x1 : Int32} (hw : ws ≤ w) (I : mI D cA z0 s μ H locs z) (hf : f_Matrix_forth μ z w x0 x1 = some r) (hl : lv_has ls 3 [(0, va_rf x0), (1, .int x1)]) : W p l e (rm_Matrix_forth (r.2.2.1 - s.heap.size) (r.2.2.2 - ws)) s m args below meth c H locs (z - s.heap.size) (w - ws) (MQ below (mQN D cA z0 (some (va_rf r.1)) r.2.1 r.2.2.1) args s (r.2.2.1 - s.heap.size) (r.2.2.2 - ws) (mA z0)) (F0 m 0 ls []) := by
  have hx := X.ex
  have hb := X.by_
  unfold f_Matrix_forth at hf
  obtain ⟨-, -, hz2, hw2, hf⟩ := mmT_e hf
  have hq : mq ws w z r.2.2.1 r.2.2.2 := ⟨hw, hz2, hw2⟩
  refine r_aload_n X d_Matrix_forth_0 rfl (lv_at hl 0 rfl) ?_
  refine lv_iload_n hx hb d_Matrix_forth_1 rfl (lv_at hl 1 rfl) ?_
  obtain ⟨q1, hv, hf⟩ := mbind hf
  obtain ⟨hz1, hw1, hz2, hw2, hf⟩ := mmT_e hf
  have hrn := hq.rmN I hz1 hw1 hz2 hw2
  refine m_caN (m_runS (As := [va_rf x0, .int x1]) (rest := []) X h_Matrix_readFactors k_364 (c_Matrix_readFactors hv) mPn_blind (m_preN G I) rfl rfl hl.1 (Nat.le_of_ble_eq_true rfl) rfl rfl ⟨Nat.le_of_ble_eq_true rfl, Nat.le_of_ble_eq_true rfl⟩ hrn d_Matrix_forth_2) I hq.1 hz1 hw1 (fun H locs I => ?_)
  have hq := hq.up hw1 hz2 hw2
  refine r_astore_n (i := 2) (lv' := [(2, va_rf q1.1), (0, va_rf x0), (1, .int x1)]) X d_Matrix_forth_5 rfl hl (by decide) rfl (fun ls hl => ?_)
  obtain ⟨m2, hv, hf⟩ := mbind hf
  obtain ⟨hz1, hw1, hz2, hw2, hf⟩ := mmT_e hf
  refine r_new (N := 4) X G I hq.1 rfl rfl hv hz2 hw2 (C := "ColourLinker$Matrix") (T := T_Matrix) rfl (by decide +kernel) k_370 k_371 k_88 d_Matrix_forth_6 (fun H I => ?_)
  have hq := hq.up hw1 hz2 hw2
  refine lv_dup hx hb d_Matrix_forth_9 (mrf_cat _) ?_
  refine lv_iconst (v := 2) hx hb d_Matrix_forth_10 (by decide) ?_
  refine r_aload_n X d_Matrix_forth_11 rfl (lv_at hl 0 rfl) ?_
  obtain ⟨q3, hv, hf⟩ := mbind hf
  refine m_caR (m_runS (As := [va_rf q1.1]) (rest := [.int (2 : Int32), va_rf (some q1.2.2.1), va_rf (some q1.2.2.1)]) X h_Matrix_isUnit k_372 (c_Matrix_isUnit hv) mPr_blind (m_pre G I) rfl rfl hl.1 (Nat.le_of_ble_eq_true rfl) rfl rfl ⟨Nat.le_of_ble_eq_true rfl, Nat.le_of_ble_eq_true rfl⟩ hq.rm d_Matrix_forth_12) ?_
  refine r_aload_n X d_Matrix_forth_15 rfl (lv_at hl 0 rfl) ?_
  refine lv_ldc2 (v := 4096) hx hb X.ow (X.w k_375) d_Matrix_forth_16 ?_
  obtain ⟨q4, hv, hf⟩ := mbind hf
  obtain ⟨a, ha, hv⟩ := mbind hv
  refine m_caWv (m_runI (As := [.int (2 : Int32), .int q3, va_rf q1.1, .long (4096 : Int64)]) (r := some q1.2.2.1) (rest := [va_rf (some q1.2.2.1)]) X h_Matrix_init k_376 (c_Matrix_init hv) mPr_blind (m_pre G I) ha rfl rfl hl.1 (Nat.le_of_ble_eq_true rfl) rfl rfl ⟨Nat.le_of_ble_eq_true rfl, Nat.le_of_ble_eq_true rfl⟩ hq.rm d_Matrix_forth_19) I (fun H locs I => ?_)
  obtain rfl := Option.some.inj hf
  exact r_aretN X I (Or.inl ⟨_, rfl⟩) d_Matrix_forth_22

set_option maxHeartbeats 4000000 in
set_option maxRecDepth 100000 in
theorem c_Matrix_forth {l : Launch} {D : va_G} {cA : Nat → ClassId} {dA z0 : Nat} {μ : mM} {z w : Nat} {x0 : Option Nat} {x1 : Int32} {r : (Option Nat) × mM × Nat × Nat} (hf : f_Matrix_forth μ z w x0 x1 = some r) : Met l y_Matrix_forth (mW y_Matrix_forth b_Matrix_forth 3 (some (.object "ColourLinker$Matrix"))) (rm_Matrix_forth (r.2.2.1 - z) (r.2.2.2 - w)) (va_Pc [va_rf x0, .int x1] (mPn D cA dA z0 μ z)) (mQN D cA z0 (some (va_rf r.1)) r.2.1 r.2.2.1) (r.2.2.1 - z) (r.2.2.2 - w) (mA z0) := by
  refine Met.ofW (cc := b_Matrix_forth) (maxL := 3) (ret := (some (.object "ColourLinker$Matrix"))) (by decide) rfl ?_
  intro p e s m args below meth c s₁ B hml hv
  obtain ⟨rfl, G, hP, rfl⟩ := hv
  have X := mX.of B hml
  refine m_entry (lv := [(0, va_rf x0), (1, .int x1)]) (by simp [lg_sl, mrf_cat, mc_int, mc_long, mc_ref]) (by simp [lv_args, mrf_cat, mc_int, mc_long, mc_ref, mrf_some]) (fun ls hl => ?_)
  have h := w_Matrix_forth (p := p) (l := l) (e := e) (below := below) X G (Nat.le_refl w) (mI.start hP) hf hl
  rw [Nat.sub_self s.heap.size, Nat.sub_self w] at h
  exact h

abbrev rm_Matrix_cofactor : Room := { frames := 0, cells := 0, slots := 0, locals := 0 }
theorem h_Matrix_cofactor : mCS y_Matrix_cofactor b_Matrix_cofactor 7 (some .long) 3 := ⟨k_395, k_88, ⟨by decide, by decide, by decide +kernel⟩, k_394⟩
set_option maxHeartbeats 4000000 in
set_option maxRecDepth 100000 in
theorem w_Matrix_cofactor {μ : mM} {r : Int64} (X : mX p m meth c s args b_Matrix_cofactor 7 (some .long) "ColourLinker$Matrix") (G : mG D cA dA z0 s) (I : mI D cA z0 s μ s.heap [] s.heap.size) {ls : Array Slot} {x0 : Option Nat} {x1 : Int32} {x2 : Int32} (hf : f_Matrix_cofactor μ x0 x1 x2 = some r) (hl : lv_has ls 7 [(0, va_rf x0), (1, .int x1), (2, .int x2)]) : W p l e rm_Matrix_cofactor s m args below meth c s.heap [] 0 0 (MQ below (mQR (some (.long r))) args s 0 0 (fun _ => False)) (F0 m 0 ls []) := by
  have hx := X.ex
  have hb := X.by_
  unfold f_Matrix_cofactor at hf
  refine lv_iconst (v := 3) hx hb d_Matrix_cofactor_0 (by decide) ?_
  refine lv_iload_n hx hb d_Matrix_cofactor_1 rfl (lv_at hl 1 rfl) ?_
  refine lv_iconst (v := 1) hx hb d_Matrix_cofactor_2 (by decide) ?_
  refine lv_iadd hx hb d_Matrix_cofactor_3 ?_
  refine lv_iconst (v := 3) hx hb d_Matrix_cofactor_4 (by decide) ?_
  refine lv_irem hx hb d_Matrix_cofactor_5 (by decide) ?_
  refine lv_imul hx hb d_Matrix_cofactor_6 ?_
  refine lv_istore_n (i := 3) (lv' := [(3, .int ((3 : Int32) * ((x1 + (1 : Int32)) - (x1 + (1 : Int32)) / (3 : Int32) * (3 : Int32)))), (0, va_rf x0), (1, .int x1), (2, .int x2)]) hx hb d_Matrix_cofactor_7 rfl hl (by decide) rfl (fun ls hl => ?_)
  refine lv_iconst (v := 3) hx hb d_Matrix_cofactor_8 (by decide) ?_
  refine lv_iload_n hx hb d_Matrix_cofactor_9 rfl (lv_at hl 2 rfl) ?_
  refine lv_iconst (v := 2) hx hb d_Matrix_cofactor_10 (by decide) ?_
  refine lv_iadd hx hb d_Matrix_cofactor_11 ?_
  refine lv_iconst (v := 3) hx hb d_Matrix_cofactor_12 (by decide) ?_
  refine lv_irem hx hb d_Matrix_cofactor_13 (by decide) ?_
  refine lv_imul hx hb d_Matrix_cofactor_14 ?_
  refine lv_istore (i := 4) (lv' := [(4, .int ((3 : Int32) * ((x1 + (2 : Int32)) - (x1 + (2 : Int32)) / (3 : Int32) * (3 : Int32)))), (3, .int ((3 : Int32) * ((x1 + (1 : Int32)) - (x1 + (1 : Int32)) / (3 : Int32) * (3 : Int32)))), (0, va_rf x0), (1, .int x1), (2, .int x2)]) hx hb d_Matrix_cofactor_15 hl (by decide) rfl (fun ls hl => ?_)
  refine lv_iload_n hx hb d_Matrix_cofactor_17 rfl (lv_at hl 4 rfl) ?_
  refine lv_iconst (v := 1) hx hb d_Matrix_cofactor_18 (by decide) ?_
  refine lv_iadd hx hb d_Matrix_cofactor_19 ?_
  refine lv_iconst (v := 3) hx hb d_Matrix_cofactor_20 (by decide) ?_
  refine lv_irem hx hb d_Matrix_cofactor_21 (by decide) ?_
  refine lv_istore (i := 5) (lv' := [(5, .int ((x2 + (1 : Int32)) - (x2 + (1 : Int32)) / (3 : Int32) * (3 : Int32))), (4, .int ((3 : Int32) * ((x1 + (2 : Int32)) - (x1 + (2 : Int32)) / (3 : Int32) * (3 : Int32)))), (3, .int ((3 : Int32) * ((x1 + (1 : Int32)) - (x1 + (1 : Int32)) / (3 : Int32) * (3 : Int32)))), (0, va_rf x0), (1, .int x1), (2, .int x2)]) hx hb d_Matrix_cofactor_22 hl (by decide) rfl (fun ls hl => ?_)
  refine lv_iload_n hx hb d_Matrix_cofactor_24 rfl (lv_at hl 5 rfl) ?_
  refine lv_iconst (v := 2) hx hb d_Matrix_cofactor_25 (by decide) ?_
  refine lv_iadd hx hb d_Matrix_cofactor_26 ?_
  refine lv_iconst (v := 3) hx hb d_Matrix_cofactor_27 (by decide) ?_
  refine lv_irem hx hb d_Matrix_cofactor_28 (by decide) ?_
  refine lv_istore (i := 6) (lv' := [(6, .int ((x2 + (2 : Int32)) - (x2 + (2 : Int32)) / (3 : Int32) * (3 : Int32))), (5, .int ((x2 + (1 : Int32)) - (x2 + (1 : Int32)) / (3 : Int32) * (3 : Int32))), (4, .int ((3 : Int32) * ((x1 + (2 : Int32)) - (x1 + (2 : Int32)) / (3 : Int32) * (3 : Int32)))), (3, .int ((3 : Int32) * ((x1 + (1 : Int32)) - (x1 + (1 : Int32)) / (3 : Int32) * (3 : Int32)))), (0, va_rf x0), (1, .int x1), (2, .int x2)]) hx hb d_Matrix_cofactor_29 hl (by decide) rfl (fun ls hl => ?_)
  refine r_aload_n X d_Matrix_cofactor_31 rfl (lv_at hl 4 rfl) ?_
  refine lv_iload_n hx hb d_Matrix_cofactor_32 rfl (lv_at hl 3 rfl) ?_
  refine lv_iload hx hb d_Matrix_cofactor_33 (lv_at hl 1 rfl) ?_
  refine lv_iadd hx hb d_Matrix_cofactor_35 ?_
  obtain ⟨v1, hv, hf⟩ := mbind hf
  refine r_lald X G I hv d_Matrix_cofactor_36 ?_
  refine r_aload_n X d_Matrix_cofactor_37 rfl (lv_at hl 4 rfl) ?_
  refine lv_iload hx hb d_Matrix_cofactor_38 (lv_at hl 2 rfl) ?_
  refine lv_iload hx hb d_Matrix_cofactor_40 (lv_at hl 0 rfl) ?_
  refine lv_iadd hx hb d_Matrix_cofactor_42 ?_
  obtain ⟨v2, hv, hf⟩ := mbind hf
  refine r_lald X G I hv d_Matrix_cofactor_43 ?_
  refine lv_lmul hx hb d_Matrix_cofactor_44 ?_
  refine r_aload_n X d_Matrix_cofactor_45 rfl (lv_at hl 4 rfl) ?_
  refine lv_iload_n hx hb d_Matrix_cofactor_46 rfl (lv_at hl 3 rfl) ?_
  refine lv_iload hx hb d_Matrix_cofactor_47 (lv_at hl 0 rfl) ?_
  refine lv_iadd hx hb d_Matrix_cofactor_49 ?_
  obtain ⟨v3, hv, hf⟩ := mbind hf
  refine r_lald X G I hv d_Matrix_cofactor_50 ?_
  refine r_aload_n X d_Matrix_cofactor_51 rfl (lv_at hl 4 rfl) ?_
  refine lv_iload hx hb d_Matrix_cofactor_52 (lv_at hl 2 rfl) ?_
  refine lv_iload hx hb d_Matrix_cofactor_54 (lv_at hl 1 rfl) ?_
  refine lv_iadd hx hb d_Matrix_cofactor_56 ?_
  obtain ⟨v4, hv, hf⟩ := mbind hf
  refine r_lald X G I hv d_Matrix_cofactor_57 ?_
  refine lv_lmul hx hb d_Matrix_cofactor_58 ?_
  refine lv_lsub hx hb d_Matrix_cofactor_59 ?_
  obtain rfl := Option.some.inj hf
  exact r_lretR X d_Matrix_cofactor_60

set_option maxHeartbeats 4000000 in
set_option maxRecDepth 100000 in
theorem c_Matrix_cofactor {l : Launch} {D : va_G} {cA : Nat → ClassId} {dA z0 : Nat} {μ : mM} {x0 : Option Nat} {x1 : Int32} {x2 : Int32} {r : Int64} (hf : f_Matrix_cofactor μ x0 x1 x2 = some r) : Met l y_Matrix_cofactor (mW y_Matrix_cofactor b_Matrix_cofactor 7 (some .long)) rm_Matrix_cofactor (va_Pc [va_rf x0, .int x1, .int x2] (mPr D cA dA z0 μ)) (mQR (some (.long r))) 0 0 (fun _ => False) := by
  refine Met.ofW (cc := b_Matrix_cofactor) (maxL := 7) (ret := (some .long)) (by decide) rfl ?_
  intro p e s m args below meth c s₁ B hml hv
  obtain ⟨rfl, G, hP⟩ := hv
  have X := mX.of B hml
  exact m_entry (lv := [(0, va_rf x0), (1, .int x1), (2, .int x2)]) (by simp [lg_sl, mrf_cat, mc_int, mc_long, mc_ref]) (by simp [lv_args, mrf_cat, mc_int, mc_long, mc_ref, mrf_some]) (fun ls hl => w_Matrix_cofactor X G (mI.start hP) hf hl)

abbrev rm_Matrix_back (k n : Nat) : Room := { frames := 3, cells := k, slots := n, locals := 67 }
theorem h_Matrix_back : mCS y_Matrix_back b_Matrix_back 6 (some (.object "ColourLinker$Matrix")) 2 := ⟨k_392, k_88, ⟨by decide, by decide, by decide +kernel⟩, k_391⟩
set_option maxHeartbeats 4000000 in
set_option maxRecDepth 100000 in
theorem w_Matrix_back_62 {ws : Nat} {r : (Option Nat) × mM × Nat × Nat} (X : mX p m meth c s args b_Matrix_back 6 (some (.object "ColourLinker$Matrix")) "ColourLinker$Matrix") (G : mG D cA dA z0 s) {H : Heap} {locs : List Loc} {μ : mM} {z w : Nat} {ls : Array Slot} {x2 : Option Nat} {x3 : Option Nat} (hq : mq ws w z r.2.2.1 r.2.2.2) (I : mI D cA z0 s μ H locs z) (hf : f_Matrix_back_62 μ z w x2 x3 = some r) (hl : lv_has ls 6 [(2, va_rf x2), (3, va_rf x3)]) : W p l e (rm_Matrix_back (r.2.2.1 - s.heap.size) (r.2.2.2 - ws)) s m args below meth c H locs (z - s.heap.size) (w - ws) (MQ below (mQN D cA z0 (some (va_rf r.1)) r.2.1 r.2.2.1) args s (r.2.2.1 - s.heap.size) (r.2.2.2 - ws) (mA z0)) (F0 m 62 ls []) := by
  have hx := X.ex
  have hb := X.by_
  unfold f_Matrix_back_62 at hf
  refine r_aload_n X d_Matrix_back_62 rfl (lv_at hl 0 rfl) ?_
  refine lv_iconst (v := 0) hx hb d_Matrix_back_63 (by decide) ?_
  obtain ⟨v5, hv, hf⟩ := mbind hf
  refine r_lald X G I hv d_Matrix_back_64 ?_
  refine r_aload_n X d_Matrix_back_65 rfl (lv_at hl 0 rfl) ?_
  refine lv_iconst (v := 0) hx hb d_Matrix_back_66 (by decide) ?_
  refine lv_iconst (v := 0) hx hb d_Matrix_back_67 (by decide) ?_
  obtain ⟨q6, hv, hf⟩ := mbind hf
  refine m_caR (m_runS (As := [va_rf x2, .int (0 : Int32), .int (0 : Int32)]) (rest := [.long v5]) X h_Matrix_cofactor k_393 (c_Matrix_cofactor hv) mPr_blind (m_pre G I) rfl rfl hl.1 (Nat.le_of_ble_eq_true rfl) rfl rfl ⟨Nat.le_of_ble_eq_true rfl, Nat.le_of_ble_eq_true rfl⟩ hq.rm d_Matrix_back_68) ?_
  refine lv_lmul hx hb d_Matrix_back_71 ?_
  refine r_aload_n X d_Matrix_back_72 rfl (lv_at hl 0 rfl) ?_
  refine lv_iconst (v := 1) hx hb d_Matrix_back_73 (by decide) ?_
  obtain ⟨v7, hv, hf⟩ := mbind hf
  refine r_lald X G I hv d_Matrix_back_74 ?_
  refine r_aload_n X d_Matrix_back_75 rfl (lv_at hl 0 rfl) ?_
  refine lv_iconst (v := 0) hx hb d_Matrix_back_76 (by decide) ?_
  refine lv_iconst (v := 1) hx hb d_Matrix_back_77 (by decide) ?_
  obtain ⟨q8, hv, hf⟩ := mbind hf
  refine m_caR (m_runS (As := [va_rf x2, .int (0 : Int32), .int (1 : Int32)]) (rest := [.long v7, .long (v5 * q6)]) X h_Matrix_cofactor k_393 (c_Matrix_cofactor hv) mPr_blind (m_pre G I) rfl rfl hl.1 (Nat.le_of_ble_eq_true rfl) rfl rfl ⟨Nat.le_of_ble_eq_true rfl, Nat.le_of_ble_eq_true rfl⟩ hq.rm d_Matrix_back_78) ?_
  refine lv_lmul hx hb d_Matrix_back_81 ?_
  refine lv_ladd hx hb d_Matrix_back_82 ?_
  refine r_aload_n X d_Matrix_back_83 rfl (lv_at hl 0 rfl) ?_
  refine lv_iconst (v := 2) hx hb d_Matrix_back_84 (by decide) ?_
  obtain ⟨v9, hv, hf⟩ := mbind hf
  refine r_lald X G I hv d_Matrix_back_85 ?_
  refine r_aload_n X d_Matrix_back_86 rfl (lv_at hl 0 rfl) ?_
  refine lv_iconst (v := 0) hx hb d_Matrix_back_87 (by decide) ?_
  refine lv_iconst (v := 2) hx hb d_Matrix_back_88 (by decide) ?_
  obtain ⟨q10, hv, hf⟩ := mbind hf
  refine m_caR (m_runS (As := [va_rf x2, .int (0 : Int32), .int (2 : Int32)]) (rest := [.long v9, .long ((v5 * q6) + (v7 * q8))]) X h_Matrix_cofactor k_393 (c_Matrix_cofactor hv) mPr_blind (m_pre G I) rfl rfl hl.1 (Nat.le_of_ble_eq_true rfl) rfl rfl ⟨Nat.le_of_ble_eq_true rfl, Nat.le_of_ble_eq_true rfl⟩ hq.rm d_Matrix_back_89) ?_
  refine lv_lmul hx hb d_Matrix_back_92 ?_
  refine lv_ladd hx hb d_Matrix_back_93 ?_
  refine lv_lstore (i := 4) (lv' := [(4, .long (((v5 * q6) + (v7 * q8)) + (v9 * q10))), (2, va_rf x2), (3, va_rf x3)]) hx hb d_Matrix_back_94 hl (by decide) (by simp [mrf_cat]) (fun ls hl => ?_)
  obtain ⟨m11, hv, hf⟩ := mbind hf
  obtain ⟨hz1, hw1, hz2, hw2, hf⟩ := mmT_e hf
  refine r_new (N := 4) X G I hq.1 rfl rfl hv hz2 hw2 (C := "ColourLinker$Matrix") (T := T_Matrix) rfl (by decide +kernel) k_370 k_371 k_88 d_Matrix_back_96 (fun H I => ?_)
  have hq := hq.up hw1 hz2 hw2
  refine lv_dup hx hb d_Matrix_back_99 (mrf_cat _) ?_
  refine lv_bipush (v := 10) hx hb d_Matrix_back_100 (by decide) ?_
  refine r_aload_n X d_Matrix_back_102 rfl (lv_at hl 1 rfl) ?_
  obtain ⟨q12, hv, hf⟩ := mbind hf
  refine m_caR (m_runS (As := [va_rf x2]) (rest := [.int (10 : Int32), va_rf (some z), va_rf (some z)]) X h_Matrix_isUnit k_372 (c_Matrix_isUnit hv) mPr_blind (m_pre G I) rfl rfl hl.1 (Nat.le_of_ble_eq_true rfl) rfl rfl ⟨Nat.le_of_ble_eq_true rfl, Nat.le_of_ble_eq_true rfl⟩ hq.rm d_Matrix_back_103) ?_
  refine r_aload_n X d_Matrix_back_106 rfl (lv_at hl 2 rfl) ?_
  refine lv_lload hx hb d_Matrix_back_107 (lv_at hl 0 rfl) ?_
  obtain ⟨q13, hv, hf⟩ := mbind hf
  obtain ⟨a, ha, hv⟩ := mbind hv
  refine m_caWv (m_runI (As := [.int (10 : Int32), .int q12, va_rf x3, .long (((v5 * q6) + (v7 * q8)) + (v9 * q10))]) (r := some z) (rest := [va_rf (some z)]) X h_Matrix_init k_376 (c_Matrix_init hv) mPr_blind (m_pre G I) ha rfl rfl hl.1 (Nat.le_of_ble_eq_true rfl) rfl rfl ⟨Nat.le_of_ble_eq_true rfl, Nat.le_of_ble_eq_true rfl⟩ hq.rm d_Matrix_back_109) I (fun H locs I => ?_)
  obtain rfl := Option.some.inj hf
  exact r_aretN X I (Or.inl ⟨_, rfl⟩) d_Matrix_back_112

set_option maxHeartbeats 4000000 in
set_option maxRecDepth 100000 in
theorem w_Matrix_back_56 {ws : Nat} {r : (Option Nat) × mM × Nat × Nat} (X : mX p m meth c s args b_Matrix_back 6 (some (.object "ColourLinker$Matrix")) "ColourLinker$Matrix") (G : mG D cA dA z0 s) {k : mM → Nat → Nat → (Option Nat) → (Option Nat) → Int32 → Option ((Option Nat) × mM × Nat × Nat)} {kx62 : mM → Nat → Nat → (Option Nat) → (Option Nat) → Option ((Option Nat) × mM × Nat × Nat)} (hk : ∀ (H : Heap) (locs : List Loc) (μ : mM) (z w : Nat) (ls : Array Slot) (x2 : Option Nat) (x3 : Option Nat) (x4 : Int32), mq ws w z r.2.2.1 r.2.2.2 → mI D cA z0 s μ H locs z → k μ z w x2 x3 x4 = some r → lv_has ls 6 [(2, va_rf x2), (3, va_rf x3), (4, .int x4)] → W p l e (rm_Matrix_back (r.2.2.1 - s.heap.size) (r.2.2.2 - ws)) s m args below meth c H locs (z - s.heap.size) (w - ws) (MQ below (mQN D cA z0 (some (va_rf r.1)) r.2.1 r.2.2.1) args s (r.2.2.1 - s.heap.size) (r.2.2.2 - ws) (mA z0)) (F0 m 14 ls [])) (hkx62 : ∀ (H : Heap) (locs : List Loc) (μ : mM) (z w : Nat) (ls : Array Slot) (x2 : Option Nat) (x3 : Option Nat), mq ws w z r.2.2.1 r.2.2.2 → mI D cA z0 s μ H locs z → kx62 μ z w x2 x3 = some r → lv_has ls 6 [(2, va_rf x2), (3, va_rf x3)] → W p l e (rm_Matrix_back (r.2.2.1 - s.heap.size) (r.2.2.2 - ws)) s m args below meth c H locs (z - s.heap.size) (w - ws) (MQ below (mQN D cA z0 (some (va_rf r.1)) r.2.1 r.2.2.1) args s (r.2.2.1 - s.heap.size) (r.2.2.2 - ws) (mA z0)) (F0 m 62 ls [])) {H : Heap} {locs : List Loc} {μ : mM} {z w : Nat} {ls : Array Slot} {x2 : Option Nat} {x3 : Option Nat} {x4 : Int32} (hq : mq ws w z r.2.2.1 r.2.2.2) (I : mI D cA z0 s μ H locs z) (hf : f_Matrix_back_56 k kx62 μ z w x2 x3 x4 = some r) (hl : lv_has ls 6 [(2, va_rf x2), (3, va_rf x3), (4, .int x4)]) : W p l e (rm_Matrix_back (r.2.2.1 - s.heap.size) (r.2.2.2 - ws)) s m args below meth c H locs (z - s.heap.size) (w - ws) (MQ below (mQN D cA z0 (some (va_rf r.1)) r.2.1 r.2.2.1) args s (r.2.2.1 - s.heap.size) (r.2.2.2 - ws) (mA z0)) (F0 m 56 ls []) := by
  have hx := X.ex
  have hb := X.by_
  unfold f_Matrix_back_56 at hf
  refine lv_iinc (i := 4) (k := 2) (v := (x4 + (1 : Int32))) (lv' := [(4, .int (x4 + (1 : Int32))), (2, va_rf x2), (3, va_rf x3)]) hx hb d_Matrix_back_56 hl rfl (congrArg (fun t => x4 + t) (by decide : Int32.ofInt (1) = (1 : Int32))) (by decide) (by simp [mrf_cat]) (fun ls hl => ?_)
  refine lv_goto (tgt := 14) hx hb d_Matrix_back_59 (by decide) ?_
  exact hk _ _ _ _ _ _ _ _ _ hq I hf (lv_sub hl [1, 2, 0] rfl)

set_option maxHeartbeats 4000000 in
set_option maxRecDepth 100000 in
theorem w_Matrix_back_23 {ws : Nat} {r : (Option Nat) × mM × Nat × Nat} (X : mX p m meth c s args b_Matrix_back 6 (some (.object "ColourLinker$Matrix")) "ColourLinker$Matrix") (G : mG D cA dA z0 s) {kx56 : mM → Nat → Nat → (Option Nat) → (Option Nat) → Int32 → Option ((Option Nat) × mM × Nat × Nat)} (hkx56 : ∀ (H : Heap) (locs : List Loc) (μ : mM) (z w : Nat) (ls : Array Slot) (x2 : Option Nat) (x3 : Option Nat) (x4 : Int32), mq ws w z r.2.2.1 r.2.2.2 → mI D cA z0 s μ H locs z → kx56 μ z w x2 x3 x4 = some r → lv_has ls 6 [(2, va_rf x2), (3, va_rf x3), (4, .int x4)] → W p l e (rm_Matrix_back (r.2.2.1 - s.heap.size) (r.2.2.2 - ws)) s m args below meth c H locs (z - s.heap.size) (w - ws) (MQ below (mQN D cA z0 (some (va_rf r.1)) r.2.1 r.2.2.1) args s (r.2.2.1 - s.heap.size) (r.2.2.2 - ws) (mA z0)) (F0 m 56 ls [])) : ∀ (n : Nat) (H : Heap) (locs : List Loc) (μ : mM) (z w : Nat) (ls : Array Slot) (x2 : Option Nat) (x3 : Option Nat) (x4 : Int32) (x5 : Int32), mq ws w z r.2.2.1 r.2.2.2 → mI D cA z0 s μ H locs z → f_Matrix_back_23 kx56 n μ z w x2 x3 x4 x5 = some r → lv_has ls 6 [(2, va_rf x2), (3, va_rf x3), (4, .int x4), (5, .int x5)] → W p l e (rm_Matrix_back (r.2.2.1 - s.heap.size) (r.2.2.2 - ws)) s m args below meth c H locs (z - s.heap.size) (w - ws) (MQ below (mQN D cA z0 (some (va_rf r.1)) r.2.1 r.2.2.1) args s (r.2.2.1 - s.heap.size) (r.2.2.2 - ws) (mA z0)) (F0 m 23 ls []) := by
  have hx := X.ex
  have hb := X.by_
  intro n
  induction n with
  | zero => intro H locs μ z w ls x2 x3 x4 x5 hq I hf hl; rw [f_Matrix_back_23] at hf; cases hf
  | succ n ih =>
    intro H locs μ z w ls x2 x3 x4 x5 hq I hf hl
    rw [f_Matrix_back_23] at hf
    refine lv_iload hx hb d_Matrix_back_23 (lv_at hl 3 rfl) ?_
    refine lv_iconst (v := 3) hx hb d_Matrix_back_25 (by decide) ?_
    refine lv_icmp_ge (tgt := 56) hx hb d_Matrix_back_26 (by decide) (fun hc => ?_) (fun hc => ?_)
    · have hf := mift hf hc
      exact hkx56 _ _ _ _ _ _ _ _ _ hq I hf (lv_sub hl [0, 1, 2] rfl)
    · have hf := miff hf hc
      refine r_aload_n X d_Matrix_back_29 rfl (lv_at hl 1 rfl) ?_
      refine lv_iconst (v := 3) hx hb d_Matrix_back_30 (by decide) ?_
      refine lv_iload hx hb d_Matrix_back_31 (lv_at hl 3 rfl) ?_
      refine lv_imul hx hb d_Matrix_back_33 ?_
      refine lv_iload hx hb d_Matrix_back_34 (lv_at hl 2 rfl) ?_
      refine lv_iadd hx hb d_Matrix_back_36 ?_
      refine lv_ldc2 (v := 4096) hx hb X.ow (X.w k_375) d_Matrix_back_37 ?_
      refine r_aload_n X d_Matrix_back_40 rfl (lv_at hl 0 rfl) ?_
      refine lv_iload hx hb d_Matrix_back_41 (lv_at hl 2 rfl) ?_
      refine lv_iload hx hb d_Matrix_back_43 (lv_at hl 3 rfl) ?_
      obtain ⟨q3, hv, hf⟩ := mbind hf
      refine m_caR (m_runS (As := [va_rf x2, .int x4, .int x5]) (rest := [.long (4096 : Int64), .int (((3 : Int32) * x5) + x4), va_rf x3]) X h_Matrix_cofactor k_393 (c_Matrix_cofactor hv) mPr_blind (m_pre G I) rfl rfl hl.1 (Nat.le_of_ble_eq_true rfl) rfl rfl ⟨Nat.le_of_ble_eq_true rfl, Nat.le_of_ble_eq_true rfl⟩ hq.rm d_Matrix_back_45) ?_
      refine lv_lmul hx hb d_Matrix_back_48 ?_
      obtain ⟨m4, hv, hf⟩ := mbind hf
      refine r_last X G I hv d_Matrix_back_49 (fun H locs I => ?_)
      refine lv_iinc (i := 5) (k := 3) (v := (x5 + (1 : Int32))) (lv' := [(5, .int (x5 + (1 : Int32))), (2, va_rf x2), (3, va_rf x3), (4, .int x4)]) hx hb d_Matrix_back_50 hl rfl (congrArg (fun t => x5 + t) (by decide : Int32.ofInt (1) = (1 : Int32))) (by decide) rfl (fun ls hl => ?_)
      refine lv_goto (tgt := 23) hx hb d_Matrix_back_53 (by decide) ?_
      exact ih _ _ _ _ _ _ _ _ _ _ hq I hf (lv_sub hl [1, 2, 3, 0] rfl)

set_option maxHeartbeats 4000000 in
set_option maxRecDepth 100000 in
theorem w_Matrix_back_14 {ws : Nat} {r : (Option Nat) × mM × Nat × Nat} (X : mX p m meth c s args b_Matrix_back 6 (some (.object "ColourLinker$Matrix")) "ColourLinker$Matrix") (G : mG D cA dA z0 s) {kx62 : mM → Nat → Nat → (Option Nat) → (Option Nat) → Option ((Option Nat) × mM × Nat × Nat)} (hkx62 : ∀ (H : Heap) (locs : List Loc) (μ : mM) (z w : Nat) (ls : Array Slot) (x2 : Option Nat) (x3 : Option Nat), mq ws w z r.2.2.1 r.2.2.2 → mI D cA z0 s μ H locs z → kx62 μ z w x2 x3 = some r → lv_has ls 6 [(2, va_rf x2), (3, va_rf x3)] → W p l e (rm_Matrix_back (r.2.2.1 - s.heap.size) (r.2.2.2 - ws)) s m args below meth c H locs (z - s.heap.size) (w - ws) (MQ below (mQN D cA z0 (some (va_rf r.1)) r.2.1 r.2.2.1) args s (r.2.2.1 - s.heap.size) (r.2.2.2 - ws) (mA z0)) (F0 m 62 ls [])) : ∀ (n : Nat) (H : Heap) (locs : List Loc) (μ : mM) (z w : Nat) (ls : Array Slot) (x2 : Option Nat) (x3 : Option Nat) (x4 : Int32), mq ws w z r.2.2.1 r.2.2.2 → mI D cA z0 s μ H locs z → f_Matrix_back_14 kx62 n μ z w x2 x3 x4 = some r → lv_has ls 6 [(2, va_rf x2), (3, va_rf x3), (4, .int x4)] → W p l e (rm_Matrix_back (r.2.2.1 - s.heap.size) (r.2.2.2 - ws)) s m args below meth c H locs (z - s.heap.size) (w - ws) (MQ below (mQN D cA z0 (some (va_rf r.1)) r.2.1 r.2.2.1) args s (r.2.2.1 - s.heap.size) (r.2.2.2 - ws) (mA z0)) (F0 m 14 ls []) := by
  have hx := X.ex
  have hb := X.by_
  intro n
  induction n with
  | zero => intro H locs μ z w ls x2 x3 x4 hq I hf hl; rw [f_Matrix_back_14] at hf; cases hf
  | succ n ih =>
    intro H locs μ z w ls x2 x3 x4 hq I hf hl
    rw [f_Matrix_back_14] at hf
    refine lv_iload hx hb d_Matrix_back_14 (lv_at hl 2 rfl) ?_
    refine lv_iconst (v := 3) hx hb d_Matrix_back_16 (by decide) ?_
    refine lv_icmp_ge (tgt := 62) hx hb d_Matrix_back_17 (by decide) (fun hc => ?_) (fun hc => ?_)
    · have hf := mift hf hc
      exact hkx62 _ _ _ _ _ _ _ _ hq I hf (lv_sub hl [0, 1] rfl)
    · have hf := miff hf hc
      refine lv_iconst (v := 0) hx hb d_Matrix_back_20 (by decide) ?_
      refine lv_istore (i := 5) (lv' := [(5, .int (0 : Int32)), (2, va_rf x2), (3, va_rf x3), (4, .int x4)]) hx hb d_Matrix_back_21 hl (by decide) rfl (fun ls hl => ?_)
      exact w_Matrix_back_23 X G (fun H locs μ z w ls x2 x3 x4 hq I hf hl => w_Matrix_back_56 X G ih hkx62 hq I hf hl) 4096 _ _ _ _ _ _ _ _ _ _ hq I hf (lv_sub hl [1, 2, 3, 0] rfl)

set_option maxHeartbeats 4000000 in
set_option maxRecDepth 100000 in
theorem w_Matrix_back {ws : Nat} {r : (Option Nat) × mM × Nat × Nat} (X : mX p m meth c s args b_Matrix_back 6 (some (.object "ColourLinker$Matrix")) "ColourLinker$Matrix") (G : mG D cA dA z0 s) {H : Heap} {locs : List Loc} {μ : mM} {z w : Nat} {ls : Array Slot} {x0 : Option Nat} {x1 : Int32} (hw : ws ≤ w) (I : mI D cA z0 s μ H locs z) (hf : f_Matrix_back μ z w x0 x1 = some r) (hl : lv_has ls 6 [(0, va_rf x0), (1, .int x1)]) : W p l e (rm_Matrix_back (r.2.2.1 - s.heap.size) (r.2.2.2 - ws)) s m args below meth c H locs (z - s.heap.size) (w - ws) (MQ below (mQN D cA z0 (some (va_rf r.1)) r.2.1 r.2.2.1) args s (r.2.2.1 - s.heap.size) (r.2.2.2 - ws) (mA z0)) (F0 m 0 ls []) := by
  have hx := X.ex
  have hb := X.by_
  unfold f_Matrix_back at hf
  obtain ⟨-, -, hz2, hw2, hf⟩ := mmT_e hf
  have hq : mq ws w z r.2.2.1 r.2.2.2 := ⟨hw, hz2, hw2⟩
  refine r_aload_n X d_Matrix_back_0 rfl (lv_at hl 0 rfl) ?_
  refine lv_iload_n hx hb d_Matrix_back_1 rfl (lv_at hl 1 rfl) ?_
  obtain ⟨q1, hv, hf⟩ := mbind hf
  obtain ⟨hz1, hw1, hz2, hw2, hf⟩ := mmT_e hf
  have hrn := hq.rmN I hz1 hw1 hz2 hw2
  refine m_caN (m_runS (As := [va_rf x0, .int x1]) (rest := []) X h_Matrix_readFactors k_364 (c_Matrix_readFactors hv) mPn_blind (m_preN G I) rfl rfl hl.1 (Nat.le_of_ble_eq_true rfl) rfl rfl ⟨Nat.le_of_ble_eq_true rfl, Nat.le_of_ble_eq_true rfl⟩ hrn d_Matrix_back_2) I hq.1 hz1 hw1 (fun H locs I => ?_)
  have hq := hq.up hw1 hz2 hw2
  refine r_astore_n (i := 2) (lv' := [(2, va_rf q1.1), (0, va_rf x0), (1, .int x1)]) X d_Matrix_back_5 rfl hl (by decide) rfl (fun ls hl => ?_)
  refine lv_bipush (v := 9) hx hb d_Matrix_back_6 (by decide) ?_
  obtain ⟨m2, hv, hf⟩ := mbind hf
  obtain ⟨hz1, hw1, hz2, hw2, hf⟩ := mmT_e hf
  refine r_newa (atype := .long) X G I hq.1 rfl rfl hv hz2 hw2 (Or.inr (Or.inl ⟨rfl, rfl⟩)) k_389 d_Matrix_back_8 (fun H I => ?_)
  have hq := hq.up hw1 hz2 hw2
  refine r_astore_n (i := 3) (lv' := [(3, va_rf (some q1.2.2.1)), (2, va_rf q1.1), (0, va_rf x0), (1, .int x1)]) X d_Matrix_back_10 rfl hl (by decide) (by simp [mrf_cat]) (fun ls hl => ?_)
  refine lv_iconst (v := 0) hx hb d_Matrix_back_11 (by decide) ?_
  refine lv_istore (i := 4) (lv' := [(4, .int (0 : Int32)), (3, va_rf (some q1.2.2.1)), (2, va_rf q1.1), (0, va_rf x0), (1, .int x1)]) hx hb d_Matrix_back_12 hl (by decide) (by simp [mrf_cat]) (fun ls hl => ?_)
  exact w_Matrix_back_14 X G (fun H locs μ z w ls x2 x3 hq I hf hl => w_Matrix_back_62 X G hq I hf hl) 4096 _ _ _ _ _ _ _ _ _ hq I hf (lv_sub hl [2, 1, 0] rfl)

set_option maxHeartbeats 4000000 in
set_option maxRecDepth 100000 in
theorem c_Matrix_back {l : Launch} {D : va_G} {cA : Nat → ClassId} {dA z0 : Nat} {μ : mM} {z w : Nat} {x0 : Option Nat} {x1 : Int32} {r : (Option Nat) × mM × Nat × Nat} (hf : f_Matrix_back μ z w x0 x1 = some r) : Met l y_Matrix_back (mW y_Matrix_back b_Matrix_back 6 (some (.object "ColourLinker$Matrix"))) (rm_Matrix_back (r.2.2.1 - z) (r.2.2.2 - w)) (va_Pc [va_rf x0, .int x1] (mPn D cA dA z0 μ z)) (mQN D cA z0 (some (va_rf r.1)) r.2.1 r.2.2.1) (r.2.2.1 - z) (r.2.2.2 - w) (mA z0) := by
  refine Met.ofW (cc := b_Matrix_back) (maxL := 6) (ret := (some (.object "ColourLinker$Matrix"))) (by decide) rfl ?_
  intro p e s m args below meth c s₁ B hml hv
  obtain ⟨rfl, G, hP, rfl⟩ := hv
  have X := mX.of B hml
  refine m_entry (lv := [(0, va_rf x0), (1, .int x1)]) (by simp [lg_sl, mrf_cat, mc_int, mc_long, mc_ref]) (by simp [lv_args, mrf_cat, mc_int, mc_long, mc_ref, mrf_some]) (fun ls hl => ?_)
  have h := w_Matrix_back (p := p) (l := l) (e := e) (below := below) X G (Nat.le_refl w) (mI.start hP) hf hl
  rw [Nat.sub_self s.heap.size, Nat.sub_self w] at h
  exact h

end WK
