section WK
variable {p : Program} {l : Launch} {e : Env} {s : State} {m : MethodId} {args : Array Value} {below : List Frame} {meth : Method} {c : Code} {D : va_G} {cA : Nat → ClassId} {dA z0 : Nat}
set_option maxHeartbeats 4000000 in
set_option maxRecDepth 100000 in
theorem w_Law_law_755 {L : Nat} {xs : Nat → Int32} {bS : Nat} {ws : Nat} {r : Int32 × mM × Nat × Nat} (hX : va_X bS L xs s s.heap) (hbl : bS < s.heap.size) (hbA : ¬ mA z0 bS) (hZ : s.heap.size ≤ z0) (hr1 : r.1 = 1) (hrz : r.2.2.1 - s.heap.size ≤ 600000) (hrw : r.2.2.2 - ws ≤ 7302250) (X : mX p m meth c s #[Value.ref bS] code 4 (some .boolean) R_law) (G : mG D cA dA z0 s) {H : Heap} {locs : List Loc} {μ : mM} {z w : Nat} {ls : Array Slot}  (hq : mq ws w z r.2.2.1 r.2.2.2) (I : mI D cA z0 s μ H locs z) (hf : f_Law_law_755 L xs μ z w = some r) (hl : lv_has ls 4 [(0, .ref bS)]) : W p l e room_1 s m #[Value.ref bS] below meth c H locs (z - s.heap.size) (w - ws) (lw_Z below #[Value.ref bS] s) (F0 m 755 ls []) := by
  have hx := X.ex
  have hb := X.by_
  unfold f_Law_law_755 at hf
  refine lv_iconst (v := 1) hx hb d_Law_law_755 (by decide) ?_
  obtain rfl := Option.some.inj hf
  refine va_forget (fun q hq => Nat.le_trans hZ (I.2.1.2.2 q hq)) ?_
  refine W.widen (k := 600000) (n := 7302250) hrz hrw ?_
  exact lw_ret hx hb X.rt X.lk d_Law_law_756

set_option maxHeartbeats 4000000 in
set_option maxRecDepth 100000 in
theorem w_Law_law_749 {L : Nat} {xs : Nat → Int32} {bS : Nat} {ws : Nat} {r : Int32 × mM × Nat × Nat} (hX : va_X bS L xs s s.heap) (hbl : bS < s.heap.size) (hbA : ¬ mA z0 bS) (hZ : s.heap.size ≤ z0) (hr1 : r.1 = 1) (hrz : r.2.2.1 - s.heap.size ≤ 600000) (hrw : r.2.2.2 - ws ≤ 7302250) (X : mX p m meth c s #[Value.ref bS] code 4 (some .boolean) R_law) (G : mG D cA dA z0 s) {k : mM → Nat → Nat → (Option Nat) → (Option Nat) → Int32 → Option (Int32 × mM × Nat × Nat)} {kx755 : mM → Nat → Nat → Option (Int32 × mM × Nat × Nat)} (hk : ∀ (H : Heap) (locs : List Loc) (μ : mM) (z w : Nat) (ls : Array Slot) (x1 : Option Nat) (x2 : Option Nat) (x3 : Int32), mq ws w z r.2.2.1 r.2.2.2 → mI D cA z0 s μ H locs z → k μ z w x1 x2 x3 = some r → lv_has ls 4 [(0, .ref bS), (1, va_rf x1), (2, va_rf x2), (3, .int x3)] → W p l e room_1 s m #[Value.ref bS] below meth c H locs (z - s.heap.size) (w - ws) (lw_Z below #[Value.ref bS] s) (F0 m 18 ls [])) (hkx755 : ∀ (H : Heap) (locs : List Loc) (μ : mM) (z w : Nat) (ls : Array Slot), mq ws w z r.2.2.1 r.2.2.2 → mI D cA z0 s μ H locs z → kx755 μ z w = some r → lv_has ls 4 [(0, .ref bS)] → W p l e room_1 s m #[Value.ref bS] below meth c H locs (z - s.heap.size) (w - ws) (lw_Z below #[Value.ref bS] s) (F0 m 755 ls [])) {H : Heap} {locs : List Loc} {μ : mM} {z w : Nat} {ls : Array Slot} {x1 : Option Nat} {x2 : Option Nat} {x3 : Int32} (hq : mq ws w z r.2.2.1 r.2.2.2) (I : mI D cA z0 s μ H locs z) (hf : f_Law_law_749 L xs k kx755 μ z w x1 x2 x3 = some r) (hl : lv_has ls 4 [(0, .ref bS), (1, va_rf x1), (2, va_rf x2), (3, .int x3)]) : W p l e room_1 s m #[Value.ref bS] below meth c H locs (z - s.heap.size) (w - ws) (lw_Z below #[Value.ref bS] s) (F0 m 749 ls []) := by
  have hx := X.ex
  have hb := X.by_
  unfold f_Law_law_749 at hf
  refine lv_iinc (i := 3) (k := 3) (v := (x3 + (6 : Int32))) (lv' := [(3, .int (x3 + (6 : Int32))), (0, .ref bS), (1, va_rf x1), (2, va_rf x2)]) hx hb d_Law_law_749 hl rfl (congrArg (fun t => x3 + t) (by decide : Int32.ofInt (6) = (6 : Int32))) (by decide) (by simp [mrf_cat]) (fun ls hl => ?_)
  refine lv_goto (tgt := 18) hx hb d_Law_law_752 (by decide) ?_
  exact hk _ _ _ _ _ _ _ _ _ hq I hf (lv_sub hl [1, 2, 3, 0] rfl)

set_option maxHeartbeats 4000000 in
set_option maxRecDepth 100000 in
theorem w_Law_law_541 {L : Nat} {xs : Nat → Int32} {bS : Nat} {ws : Nat} {r : Int32 × mM × Nat × Nat} (hX : va_X bS L xs s s.heap) (hbl : bS < s.heap.size) (hbA : ¬ mA z0 bS) (hZ : s.heap.size ≤ z0) (hr1 : r.1 = 1) (hrz : r.2.2.1 - s.heap.size ≤ 600000) (hrw : r.2.2.2 - ws ≤ 7302250) (X : mX p m meth c s #[Value.ref bS] code 4 (some .boolean) R_law) (G : mG D cA dA z0 s) {k : mM → Nat → Nat → (Option Nat) → (Option Nat) → Int32 → Option (Int32 × mM × Nat × Nat)} {kx755 : mM → Nat → Nat → Option (Int32 × mM × Nat × Nat)} (hk : ∀ (H : Heap) (locs : List Loc) (μ : mM) (z w : Nat) (ls : Array Slot) (x1 : Option Nat) (x2 : Option Nat) (x3 : Int32), mq ws w z r.2.2.1 r.2.2.2 → mI D cA z0 s μ H locs z → k μ z w x1 x2 x3 = some r → lv_has ls 4 [(0, .ref bS), (1, va_rf x1), (2, va_rf x2), (3, .int x3)] → W p l e room_1 s m #[Value.ref bS] below meth c H locs (z - s.heap.size) (w - ws) (lw_Z below #[Value.ref bS] s) (F0 m 18 ls [])) (hkx755 : ∀ (H : Heap) (locs : List Loc) (μ : mM) (z w : Nat) (ls : Array Slot), mq ws w z r.2.2.1 r.2.2.2 → mI D cA z0 s μ H locs z → kx755 μ z w = some r → lv_has ls 4 [(0, .ref bS)] → W p l e room_1 s m #[Value.ref bS] below meth c H locs (z - s.heap.size) (w - ws) (lw_Z below #[Value.ref bS] s) (F0 m 755 ls [])) {H : Heap} {locs : List Loc} {μ : mM} {z w : Nat} {ls : Array Slot} {x1 : Option Nat} {x2 : Option Nat} {x3 : Int32} {s0 : Int32} {s1 : Option Nat} {s2 : Int32} {s3 : Int32} {s4 : Int32} {s5 : Int32} (hq : mq ws w z r.2.2.1 r.2.2.2) (I : mI D cA z0 s μ H locs z) (hf : f_Law_law_541 L xs k kx755 μ z w x1 x2 x3 s0 s1 s2 s3 s4 s5 = some r) (hl : lv_has ls 4 [(0, .ref bS), (1, va_rf x1), (2, va_rf x2), (3, .int x3)]) : W p l e room_1 s m #[Value.ref bS] below meth c H locs (z - s.heap.size) (w - ws) (lw_Z below #[Value.ref bS] s) (F0 m 541 ls [.int s5, .int s4, .int s3, .int s2, va_rf s1, .int s0]) := by
  have hx := X.ex
  have hb := X.by_
  unfold f_Law_law_541 at hf
  obtain ⟨q109, hv, hf⟩ := mbind hf
  obtain ⟨a, ha, hv⟩ := mbind hv
  obtain ⟨ha, fs, hm⟩ := mrc_e ha
  refine m_caW (m_runV (As := [.int s2, .int s3, .int s4, .int s5]) (r := s1) (rest := [.int s0]) X G I h_Mo_extend k_1163 (c_Mo_extend hv) mPr_blind (m_pre G I) hm rfl ha rfl rfl hl.1 (Nat.le_of_ble_eq_true rfl) rfl rfl ⟨Nat.le_of_ble_eq_true rfl, Nat.le_of_ble_eq_true rfl⟩ ⟨Nat.le_trans (hq.rm (a := s.heap.size)).1 hrz, Nat.le_trans (hq.rm (a := s.heap.size)).2 hrw⟩ d_Law_law_541) I (fun H locs I => ?_)
  refine lv_icmp_eq (tgt := 749) hx hb d_Law_law_544 (by decide) (fun hc => ?_) (fun hc => ?_)
  · have hf := mift hf hc
    exact w_Law_law_749 hX hbl hbA hZ hr1 hrz hrw X G hk hkx755 hq I hf hl
  · have hf := miff hf hc
    refine lv_iconst (v := 0) hx hb d_Law_law_547 (by decide) ?_
    obtain rfl := Option.some.inj hf
    exact absurd (show (0 : Int32) = 1 from hr1) (by decide)

set_option maxHeartbeats 4000000 in
set_option maxRecDepth 100000 in
theorem w_Law_law_509 {L : Nat} {xs : Nat → Int32} {bS : Nat} {ws : Nat} {r : Int32 × mM × Nat × Nat} (hX : va_X bS L xs s s.heap) (hbl : bS < s.heap.size) (hbA : ¬ mA z0 bS) (hZ : s.heap.size ≤ z0) (hr1 : r.1 = 1) (hrz : r.2.2.1 - s.heap.size ≤ 600000) (hrw : r.2.2.2 - ws ≤ 7302250) (X : mX p m meth c s #[Value.ref bS] code 4 (some .boolean) R_law) (G : mG D cA dA z0 s) {k : mM → Nat → Nat → (Option Nat) → (Option Nat) → Int32 → Option (Int32 × mM × Nat × Nat)} {kx755 : mM → Nat → Nat → Option (Int32 × mM × Nat × Nat)} (hk : ∀ (H : Heap) (locs : List Loc) (μ : mM) (z w : Nat) (ls : Array Slot) (x1 : Option Nat) (x2 : Option Nat) (x3 : Int32), mq ws w z r.2.2.1 r.2.2.2 → mI D cA z0 s μ H locs z → k μ z w x1 x2 x3 = some r → lv_has ls 4 [(0, .ref bS), (1, va_rf x1), (2, va_rf x2), (3, .int x3)] → W p l e room_1 s m #[Value.ref bS] below meth c H locs (z - s.heap.size) (w - ws) (lw_Z below #[Value.ref bS] s) (F0 m 18 ls [])) (hkx755 : ∀ (H : Heap) (locs : List Loc) (μ : mM) (z w : Nat) (ls : Array Slot), mq ws w z r.2.2.1 r.2.2.2 → mI D cA z0 s μ H locs z → kx755 μ z w = some r → lv_has ls 4 [(0, .ref bS)] → W p l e room_1 s m #[Value.ref bS] below meth c H locs (z - s.heap.size) (w - ws) (lw_Z below #[Value.ref bS] s) (F0 m 755 ls [])) {H : Heap} {locs : List Loc} {μ : mM} {z w : Nat} {ls : Array Slot} {x1 : Option Nat} {x2 : Option Nat} {x3 : Int32} {s0 : Option Nat} {s1 : Int32} {s2 : Int32} {s3 : Int32} {s4 : Int32} (hq : mq ws w z r.2.2.1 r.2.2.2) (I : mI D cA z0 s μ H locs z) (hf : f_Law_law_509 L xs k kx755 μ z w x1 x2 x3 s0 s1 s2 s3 s4 = some r) (hl : lv_has ls 4 [(0, .ref bS), (1, va_rf x1), (2, va_rf x2), (3, .int x3)]) : W p l e room_1 s m #[Value.ref bS] below meth c H locs (z - s.heap.size) (w - ws) (lw_Z below #[Value.ref bS] s) (F0 m 509 ls [.int s4, .int s3, .int s2, .int s1, va_rf s0]) := by
  have hx := X.ex
  have hb := X.by_
  unfold f_Law_law_509 at hf
  obtain ⟨q104, hv, hf⟩ := mbind hf
  obtain ⟨hz1, hw1, hz2, hw2, hf⟩ := mmT_e hf
  have hrn := hq.rmN I hz1 hw1 hz2 hw2
  obtain ⟨a, ha, hv⟩ := mbind hv
  obtain ⟨ha, fs, hm⟩ := mrc_e ha
  refine m_caN (m_runV (As := [.int s1, .int s2, .int s3, .int s4]) (r := s0) (rest := []) X G I h_CL_extend k_779 (c_CL_extend hv) mPn_blind (m_preN G I) hm rfl ha rfl rfl hl.1 (Nat.le_of_ble_eq_true rfl) rfl rfl ⟨Nat.le_of_ble_eq_true rfl, Nat.le_of_ble_eq_true rfl⟩ ⟨Nat.le_trans hrn.1 hrz, Nat.le_trans hrn.2 hrw⟩ d_Law_law_509) I hq.1 hz1 hw1 (fun H locs I => ?_)
  have hq := hq.up hw1 hz2 hw2
  refine r_aload_n X d_Law_law_512 rfl (lv_at hl 2 rfl) ?_
  refine lv_aload_n hx hb d_Law_law_513 rfl (lv_at hl 0 rfl) ?_
  refine lv_iload_n hx hb d_Law_law_514 rfl (lv_at hl 3 rfl) ?_
  refine lv_iconst (v := 1) hx hb d_Law_law_515 (by decide) ?_
  refine lv_iadd hx hb d_Law_law_516 ?_
  obtain ⟨v105, hv, hf⟩ := mbind hf
  refine r_sld hx hb hX hbl hbA I.2.1 hv d_Law_law_517 ?_
  refine lv_aload_n hx hb d_Law_law_518 rfl (lv_at hl 0 rfl) ?_
  refine lv_iload_n hx hb d_Law_law_519 rfl (lv_at hl 3 rfl) ?_
  refine lv_iconst (v := 2) hx hb d_Law_law_520 (by decide) ?_
  refine lv_iadd hx hb d_Law_law_521 ?_
  obtain ⟨v106, hv, hf⟩ := mbind hf
  refine r_sld hx hb hX hbl hbA I.2.1 hv d_Law_law_522 ?_
  refine lv_aload_n hx hb d_Law_law_523 rfl (lv_at hl 0 rfl) ?_
  refine lv_iload_n hx hb d_Law_law_524 rfl (lv_at hl 3 rfl) ?_
  refine lv_iconst (v := 3) hx hb d_Law_law_525 (by decide) ?_
  refine lv_iadd hx hb d_Law_law_526 ?_
  obtain ⟨v107, hv, hf⟩ := mbind hf
  refine r_sld hx hb hX hbl hbA I.2.1 hv d_Law_law_527 ?_
  refine lv_aload_n hx hb d_Law_law_528 rfl (lv_at hl 0 rfl) ?_
  refine lv_iload_n hx hb d_Law_law_529 rfl (lv_at hl 3 rfl) ?_
  refine lv_iconst (v := 4) hx hb d_Law_law_530 (by decide) ?_
  refine lv_iadd hx hb d_Law_law_531 ?_
  obtain ⟨v108, hv, hf⟩ := mbind hf
  refine r_sld hx hb hX hbl hbA I.2.1 hv d_Law_law_532 ?_
  refine lv_if_eq (tgt := 540) hx hb d_Law_law_533 (by decide) (fun hc => ?_) (fun hc => ?_)
  · have hf := mift hf hc
    refine lv_iconst (v := 0) hx hb d_Law_law_540 (by decide) ?_
    exact w_Law_law_541 hX hbl hbA hZ hr1 hrz hrw X G hk hkx755 hq I hf hl
  · have hf := miff hf hc
    refine lv_iconst (v := 1) hx hb d_Law_law_536 (by decide) ?_
    refine lv_goto (tgt := 541) hx hb d_Law_law_537 (by decide) ?_
    exact w_Law_law_541 hX hbl hbA hZ hr1 hrz hrw X G hk hkx755 hq I hf hl

set_option maxHeartbeats 4000000 in
set_option maxRecDepth 100000 in
theorem w_Law_law_472 {L : Nat} {xs : Nat → Int32} {bS : Nat} {ws : Nat} {r : Int32 × mM × Nat × Nat} (hX : va_X bS L xs s s.heap) (hbl : bS < s.heap.size) (hbA : ¬ mA z0 bS) (hZ : s.heap.size ≤ z0) (hr1 : r.1 = 1) (hrz : r.2.2.1 - s.heap.size ≤ 600000) (hrw : r.2.2.2 - ws ≤ 7302250) (X : mX p m meth c s #[Value.ref bS] code 4 (some .boolean) R_law) (G : mG D cA dA z0 s) {k : mM → Nat → Nat → (Option Nat) → (Option Nat) → Int32 → Option (Int32 × mM × Nat × Nat)} {kx755 : mM → Nat → Nat → Option (Int32 × mM × Nat × Nat)} (hk : ∀ (H : Heap) (locs : List Loc) (μ : mM) (z w : Nat) (ls : Array Slot) (x1 : Option Nat) (x2 : Option Nat) (x3 : Int32), mq ws w z r.2.2.1 r.2.2.2 → mI D cA z0 s μ H locs z → k μ z w x1 x2 x3 = some r → lv_has ls 4 [(0, .ref bS), (1, va_rf x1), (2, va_rf x2), (3, .int x3)] → W p l e room_1 s m #[Value.ref bS] below meth c H locs (z - s.heap.size) (w - ws) (lw_Z below #[Value.ref bS] s) (F0 m 18 ls [])) (hkx755 : ∀ (H : Heap) (locs : List Loc) (μ : mM) (z w : Nat) (ls : Array Slot), mq ws w z r.2.2.1 r.2.2.2 → mI D cA z0 s μ H locs z → kx755 μ z w = some r → lv_has ls 4 [(0, .ref bS)] → W p l e room_1 s m #[Value.ref bS] below meth c H locs (z - s.heap.size) (w - ws) (lw_Z below #[Value.ref bS] s) (F0 m 755 ls [])) {H : Heap} {locs : List Loc} {μ : mM} {z w : Nat} {ls : Array Slot} {x1 : Option Nat} {x2 : Option Nat} {x3 : Int32} {s0 : Int32} {s1 : Option Nat} {s2 : Int32} {s3 : Int32} {s4 : Int32} {s5 : Int32} (hq : mq ws w z r.2.2.1 r.2.2.2) (I : mI D cA z0 s μ H locs z) (hf : f_Law_law_472 L xs k kx755 μ z w x1 x2 x3 s0 s1 s2 s3 s4 s5 = some r) (hl : lv_has ls 4 [(0, .ref bS), (1, va_rf x1), (2, va_rf x2), (3, .int x3)]) : W p l e room_1 s m #[Value.ref bS] below meth c H locs (z - s.heap.size) (w - ws) (lw_Z below #[Value.ref bS] s) (F0 m 472 ls [.int s5, .int s4, .int s3, .int s2, va_rf s1, .int s0]) := by
  have hx := X.ex
  have hb := X.by_
  unfold f_Law_law_472 at hf
  obtain ⟨q103, hv, hf⟩ := mbind hf
  obtain ⟨a, ha, hv⟩ := mbind hv
  obtain ⟨ha, fs, hm⟩ := mrc_e ha
  refine m_caW (m_runV (As := [.int s2, .int s3, .int s4, .int s5]) (r := s1) (rest := [.int s0]) X G I h_Mo_link k_1009 (c_Mo_link hv) mPr_blind (m_pre G I) hm rfl ha rfl rfl hl.1 (Nat.le_of_ble_eq_true rfl) rfl rfl ⟨Nat.le_of_ble_eq_true rfl, Nat.le_of_ble_eq_true rfl⟩ ⟨Nat.le_trans (hq.rm (a := s.heap.size)).1 hrz, Nat.le_trans (hq.rm (a := s.heap.size)).2 hrw⟩ d_Law_law_472) I (fun H locs I => ?_)
  refine lv_icmp_eq (tgt := 749) hx hb d_Law_law_475 (by decide) (fun hc => ?_) (fun hc => ?_)
  · have hf := mift hf hc
    exact w_Law_law_749 hX hbl hbA hZ hr1 hrz hrw X G hk hkx755 hq I hf hl
  · have hf := miff hf hc
    refine lv_iconst (v := 0) hx hb d_Law_law_478 (by decide) ?_
    obtain rfl := Option.some.inj hf
    exact absurd (show (0 : Int32) = 1 from hr1) (by decide)

set_option maxHeartbeats 4000000 in
set_option maxRecDepth 100000 in
theorem w_Law_law_440 {L : Nat} {xs : Nat → Int32} {bS : Nat} {ws : Nat} {r : Int32 × mM × Nat × Nat} (hX : va_X bS L xs s s.heap) (hbl : bS < s.heap.size) (hbA : ¬ mA z0 bS) (hZ : s.heap.size ≤ z0) (hr1 : r.1 = 1) (hrz : r.2.2.1 - s.heap.size ≤ 600000) (hrw : r.2.2.2 - ws ≤ 7302250) (X : mX p m meth c s #[Value.ref bS] code 4 (some .boolean) R_law) (G : mG D cA dA z0 s) {k : mM → Nat → Nat → (Option Nat) → (Option Nat) → Int32 → Option (Int32 × mM × Nat × Nat)} {kx755 : mM → Nat → Nat → Option (Int32 × mM × Nat × Nat)} (hk : ∀ (H : Heap) (locs : List Loc) (μ : mM) (z w : Nat) (ls : Array Slot) (x1 : Option Nat) (x2 : Option Nat) (x3 : Int32), mq ws w z r.2.2.1 r.2.2.2 → mI D cA z0 s μ H locs z → k μ z w x1 x2 x3 = some r → lv_has ls 4 [(0, .ref bS), (1, va_rf x1), (2, va_rf x2), (3, .int x3)] → W p l e room_1 s m #[Value.ref bS] below meth c H locs (z - s.heap.size) (w - ws) (lw_Z below #[Value.ref bS] s) (F0 m 18 ls [])) (hkx755 : ∀ (H : Heap) (locs : List Loc) (μ : mM) (z w : Nat) (ls : Array Slot), mq ws w z r.2.2.1 r.2.2.2 → mI D cA z0 s μ H locs z → kx755 μ z w = some r → lv_has ls 4 [(0, .ref bS)] → W p l e room_1 s m #[Value.ref bS] below meth c H locs (z - s.heap.size) (w - ws) (lw_Z below #[Value.ref bS] s) (F0 m 755 ls [])) {H : Heap} {locs : List Loc} {μ : mM} {z w : Nat} {ls : Array Slot} {x1 : Option Nat} {x2 : Option Nat} {x3 : Int32} {s0 : Option Nat} {s1 : Int32} {s2 : Int32} {s3 : Int32} {s4 : Int32} (hq : mq ws w z r.2.2.1 r.2.2.2) (I : mI D cA z0 s μ H locs z) (hf : f_Law_law_440 L xs k kx755 μ z w x1 x2 x3 s0 s1 s2 s3 s4 = some r) (hl : lv_has ls 4 [(0, .ref bS), (1, va_rf x1), (2, va_rf x2), (3, .int x3)]) : W p l e room_1 s m #[Value.ref bS] below meth c H locs (z - s.heap.size) (w - ws) (lw_Z below #[Value.ref bS] s) (F0 m 440 ls [.int s4, .int s3, .int s2, .int s1, va_rf s0]) := by
  have hx := X.ex
  have hb := X.by_
  unfold f_Law_law_440 at hf
  obtain ⟨q98, hv, hf⟩ := mbind hf
  obtain ⟨hz1, hw1, hz2, hw2, hf⟩ := mmT_e hf
  have hrn := hq.rmN I hz1 hw1 hz2 hw2
  obtain ⟨a, ha, hv⟩ := mbind hv
  obtain ⟨ha, fs, hm⟩ := mrc_e ha
  refine m_caN (m_runV (As := [.int s1, .int s2, .int s3, .int s4]) (r := s0) (rest := []) X G I h_CL_link k_652 (c_CL_link hv) mPn_blind (m_preN G I) hm rfl ha rfl rfl hl.1 (Nat.le_of_ble_eq_true rfl) rfl rfl ⟨Nat.le_of_ble_eq_true rfl, Nat.le_of_ble_eq_true rfl⟩ ⟨Nat.le_trans hrn.1 hrz, Nat.le_trans hrn.2 hrw⟩ d_Law_law_440) I hq.1 hz1 hw1 (fun H locs I => ?_)
  have hq := hq.up hw1 hz2 hw2
  refine r_aload_n X d_Law_law_443 rfl (lv_at hl 2 rfl) ?_
  refine lv_aload_n hx hb d_Law_law_444 rfl (lv_at hl 0 rfl) ?_
  refine lv_iload_n hx hb d_Law_law_445 rfl (lv_at hl 3 rfl) ?_
  refine lv_iconst (v := 1) hx hb d_Law_law_446 (by decide) ?_
  refine lv_iadd hx hb d_Law_law_447 ?_
  obtain ⟨v99, hv, hf⟩ := mbind hf
  refine r_sld hx hb hX hbl hbA I.2.1 hv d_Law_law_448 ?_
  refine lv_aload_n hx hb d_Law_law_449 rfl (lv_at hl 0 rfl) ?_
  refine lv_iload_n hx hb d_Law_law_450 rfl (lv_at hl 3 rfl) ?_
  refine lv_iconst (v := 2) hx hb d_Law_law_451 (by decide) ?_
  refine lv_iadd hx hb d_Law_law_452 ?_
  obtain ⟨v100, hv, hf⟩ := mbind hf
  refine r_sld hx hb hX hbl hbA I.2.1 hv d_Law_law_453 ?_
  refine lv_aload_n hx hb d_Law_law_454 rfl (lv_at hl 0 rfl) ?_
  refine lv_iload_n hx hb d_Law_law_455 rfl (lv_at hl 3 rfl) ?_
  refine lv_iconst (v := 3) hx hb d_Law_law_456 (by decide) ?_
  refine lv_iadd hx hb d_Law_law_457 ?_
  obtain ⟨v101, hv, hf⟩ := mbind hf
  refine r_sld hx hb hX hbl hbA I.2.1 hv d_Law_law_458 ?_
  refine lv_aload_n hx hb d_Law_law_459 rfl (lv_at hl 0 rfl) ?_
  refine lv_iload_n hx hb d_Law_law_460 rfl (lv_at hl 3 rfl) ?_
  refine lv_iconst (v := 4) hx hb d_Law_law_461 (by decide) ?_
  refine lv_iadd hx hb d_Law_law_462 ?_
  obtain ⟨v102, hv, hf⟩ := mbind hf
  refine r_sld hx hb hX hbl hbA I.2.1 hv d_Law_law_463 ?_
  refine lv_if_eq (tgt := 471) hx hb d_Law_law_464 (by decide) (fun hc => ?_) (fun hc => ?_)
  · have hf := mift hf hc
    refine lv_iconst (v := 0) hx hb d_Law_law_471 (by decide) ?_
    exact w_Law_law_472 hX hbl hbA hZ hr1 hrz hrw X G hk hkx755 hq I hf hl
  · have hf := miff hf hc
    refine lv_iconst (v := 1) hx hb d_Law_law_467 (by decide) ?_
    refine lv_goto (tgt := 472) hx hb d_Law_law_468 (by decide) ?_
    exact w_Law_law_472 hX hbl hbA hZ hr1 hrz hrw X G hk hkx755 hq I hf hl

set_option maxHeartbeats 4000000 in
set_option maxRecDepth 100000 in
theorem w_Law_law_403 {L : Nat} {xs : Nat → Int32} {bS : Nat} {ws : Nat} {r : Int32 × mM × Nat × Nat} (hX : va_X bS L xs s s.heap) (hbl : bS < s.heap.size) (hbA : ¬ mA z0 bS) (hZ : s.heap.size ≤ z0) (hr1 : r.1 = 1) (hrz : r.2.2.1 - s.heap.size ≤ 600000) (hrw : r.2.2.2 - ws ≤ 7302250) (X : mX p m meth c s #[Value.ref bS] code 4 (some .boolean) R_law) (G : mG D cA dA z0 s) {k : mM → Nat → Nat → (Option Nat) → (Option Nat) → Int32 → Option (Int32 × mM × Nat × Nat)} {kx755 : mM → Nat → Nat → Option (Int32 × mM × Nat × Nat)} (hk : ∀ (H : Heap) (locs : List Loc) (μ : mM) (z w : Nat) (ls : Array Slot) (x1 : Option Nat) (x2 : Option Nat) (x3 : Int32), mq ws w z r.2.2.1 r.2.2.2 → mI D cA z0 s μ H locs z → k μ z w x1 x2 x3 = some r → lv_has ls 4 [(0, .ref bS), (1, va_rf x1), (2, va_rf x2), (3, .int x3)] → W p l e room_1 s m #[Value.ref bS] below meth c H locs (z - s.heap.size) (w - ws) (lw_Z below #[Value.ref bS] s) (F0 m 18 ls [])) (hkx755 : ∀ (H : Heap) (locs : List Loc) (μ : mM) (z w : Nat) (ls : Array Slot), mq ws w z r.2.2.1 r.2.2.2 → mI D cA z0 s μ H locs z → kx755 μ z w = some r → lv_has ls 4 [(0, .ref bS)] → W p l e room_1 s m #[Value.ref bS] below meth c H locs (z - s.heap.size) (w - ws) (lw_Z below #[Value.ref bS] s) (F0 m 755 ls [])) {H : Heap} {locs : List Loc} {μ : mM} {z w : Nat} {ls : Array Slot} {x1 : Option Nat} {x2 : Option Nat} {x3 : Int32} {s0 : Int32} {s1 : Option Nat} {s2 : Int32} {s3 : Int32} {s4 : Int32} {s5 : Int32} (hq : mq ws w z r.2.2.1 r.2.2.2) (I : mI D cA z0 s μ H locs z) (hf : f_Law_law_403 L xs k kx755 μ z w x1 x2 x3 s0 s1 s2 s3 s4 s5 = some r) (hl : lv_has ls 4 [(0, .ref bS), (1, va_rf x1), (2, va_rf x2), (3, .int x3)]) : W p l e room_1 s m #[Value.ref bS] below meth c H locs (z - s.heap.size) (w - ws) (lw_Z below #[Value.ref bS] s) (F0 m 403 ls [.int s5, .int s4, .int s3, .int s2, va_rf s1, .int s0]) := by
  have hx := X.ex
  have hb := X.by_
  unfold f_Law_law_403 at hf
  obtain ⟨q97, hv, hf⟩ := mbind hf
  obtain ⟨a, ha, hv⟩ := mbind hv
  obtain ⟨ha, fs, hm⟩ := mrc_e ha
  refine m_caR (m_runV (As := [.int s2, .int s3, .int s4, .int s5]) (r := s1) (rest := [.int s0]) X G I h_Mo_curve k_975 (c_Mo_curve hv) mPr_blind (m_pre G I) hm rfl ha rfl rfl hl.1 (Nat.le_of_ble_eq_true rfl) rfl rfl ⟨Nat.le_of_ble_eq_true rfl, Nat.le_of_ble_eq_true rfl⟩ ⟨Nat.le_trans (hq.rm (a := s.heap.size)).1 hrz, Nat.le_trans (hq.rm (a := s.heap.size)).2 hrw⟩ d_Law_law_403) ?_
  refine lv_icmp_eq (tgt := 749) hx hb d_Law_law_406 (by decide) (fun hc => ?_) (fun hc => ?_)
  · have hf := mift hf hc
    exact w_Law_law_749 hX hbl hbA hZ hr1 hrz hrw X G hk hkx755 hq I hf hl
  · have hf := miff hf hc
    refine lv_iconst (v := 0) hx hb d_Law_law_409 (by decide) ?_
    obtain rfl := Option.some.inj hf
    exact absurd (show (0 : Int32) = 1 from hr1) (by decide)

set_option maxHeartbeats 4000000 in
set_option maxRecDepth 100000 in
theorem w_Law_law_371 {L : Nat} {xs : Nat → Int32} {bS : Nat} {ws : Nat} {r : Int32 × mM × Nat × Nat} (hX : va_X bS L xs s s.heap) (hbl : bS < s.heap.size) (hbA : ¬ mA z0 bS) (hZ : s.heap.size ≤ z0) (hr1 : r.1 = 1) (hrz : r.2.2.1 - s.heap.size ≤ 600000) (hrw : r.2.2.2 - ws ≤ 7302250) (X : mX p m meth c s #[Value.ref bS] code 4 (some .boolean) R_law) (G : mG D cA dA z0 s) {k : mM → Nat → Nat → (Option Nat) → (Option Nat) → Int32 → Option (Int32 × mM × Nat × Nat)} {kx755 : mM → Nat → Nat → Option (Int32 × mM × Nat × Nat)} (hk : ∀ (H : Heap) (locs : List Loc) (μ : mM) (z w : Nat) (ls : Array Slot) (x1 : Option Nat) (x2 : Option Nat) (x3 : Int32), mq ws w z r.2.2.1 r.2.2.2 → mI D cA z0 s μ H locs z → k μ z w x1 x2 x3 = some r → lv_has ls 4 [(0, .ref bS), (1, va_rf x1), (2, va_rf x2), (3, .int x3)] → W p l e room_1 s m #[Value.ref bS] below meth c H locs (z - s.heap.size) (w - ws) (lw_Z below #[Value.ref bS] s) (F0 m 18 ls [])) (hkx755 : ∀ (H : Heap) (locs : List Loc) (μ : mM) (z w : Nat) (ls : Array Slot), mq ws w z r.2.2.1 r.2.2.2 → mI D cA z0 s μ H locs z → kx755 μ z w = some r → lv_has ls 4 [(0, .ref bS)] → W p l e room_1 s m #[Value.ref bS] below meth c H locs (z - s.heap.size) (w - ws) (lw_Z below #[Value.ref bS] s) (F0 m 755 ls [])) {H : Heap} {locs : List Loc} {μ : mM} {z w : Nat} {ls : Array Slot} {x1 : Option Nat} {x2 : Option Nat} {x3 : Int32} {s0 : Option Nat} {s1 : Int32} {s2 : Int32} {s3 : Int32} {s4 : Int32} (hq : mq ws w z r.2.2.1 r.2.2.2) (I : mI D cA z0 s μ H locs z) (hf : f_Law_law_371 L xs k kx755 μ z w x1 x2 x3 s0 s1 s2 s3 s4 = some r) (hl : lv_has ls 4 [(0, .ref bS), (1, va_rf x1), (2, va_rf x2), (3, .int x3)]) : W p l e room_1 s m #[Value.ref bS] below meth c H locs (z - s.heap.size) (w - ws) (lw_Z below #[Value.ref bS] s) (F0 m 371 ls [.int s4, .int s3, .int s2, .int s1, va_rf s0]) := by
  have hx := X.ex
  have hb := X.by_
  unfold f_Law_law_371 at hf
  obtain ⟨q92, hv, hf⟩ := mbind hf
  obtain ⟨a, ha, hv⟩ := mbind hv
  obtain ⟨ha, fs, hm⟩ := mrc_e ha
  refine m_caR (m_runV (As := [.int s1, .int s2, .int s3, .int s4]) (r := s0) (rest := []) X G I h_CL_curve k_638 (c_CL_curve hv) mPr_blind (m_pre G I) hm rfl ha rfl rfl hl.1 (Nat.le_of_ble_eq_true rfl) rfl rfl ⟨Nat.le_of_ble_eq_true rfl, Nat.le_of_ble_eq_true rfl⟩ ⟨Nat.le_trans (hq.rm (a := s.heap.size)).1 hrz, Nat.le_trans (hq.rm (a := s.heap.size)).2 hrw⟩ d_Law_law_371) ?_
  refine r_aload_n X d_Law_law_374 rfl (lv_at hl 2 rfl) ?_
  refine lv_aload_n hx hb d_Law_law_375 rfl (lv_at hl 0 rfl) ?_
  refine lv_iload_n hx hb d_Law_law_376 rfl (lv_at hl 3 rfl) ?_
  refine lv_iconst (v := 1) hx hb d_Law_law_377 (by decide) ?_
  refine lv_iadd hx hb d_Law_law_378 ?_
  obtain ⟨v93, hv, hf⟩ := mbind hf
  refine r_sld hx hb hX hbl hbA I.2.1 hv d_Law_law_379 ?_
  refine lv_aload_n hx hb d_Law_law_380 rfl (lv_at hl 0 rfl) ?_
  refine lv_iload_n hx hb d_Law_law_381 rfl (lv_at hl 3 rfl) ?_
  refine lv_iconst (v := 2) hx hb d_Law_law_382 (by decide) ?_
  refine lv_iadd hx hb d_Law_law_383 ?_
  obtain ⟨v94, hv, hf⟩ := mbind hf
  refine r_sld hx hb hX hbl hbA I.2.1 hv d_Law_law_384 ?_
  refine lv_aload_n hx hb d_Law_law_385 rfl (lv_at hl 0 rfl) ?_
  refine lv_iload_n hx hb d_Law_law_386 rfl (lv_at hl 3 rfl) ?_
  refine lv_iconst (v := 3) hx hb d_Law_law_387 (by decide) ?_
  refine lv_iadd hx hb d_Law_law_388 ?_
  obtain ⟨v95, hv, hf⟩ := mbind hf
  refine r_sld hx hb hX hbl hbA I.2.1 hv d_Law_law_389 ?_
  refine lv_aload_n hx hb d_Law_law_390 rfl (lv_at hl 0 rfl) ?_
  refine lv_iload_n hx hb d_Law_law_391 rfl (lv_at hl 3 rfl) ?_
  refine lv_iconst (v := 4) hx hb d_Law_law_392 (by decide) ?_
  refine lv_iadd hx hb d_Law_law_393 ?_
  obtain ⟨v96, hv, hf⟩ := mbind hf
  refine r_sld hx hb hX hbl hbA I.2.1 hv d_Law_law_394 ?_
  refine lv_if_eq (tgt := 402) hx hb d_Law_law_395 (by decide) (fun hc => ?_) (fun hc => ?_)
  · have hf := mift hf hc
    refine lv_iconst (v := 0) hx hb d_Law_law_402 (by decide) ?_
    exact w_Law_law_403 hX hbl hbA hZ hr1 hrz hrw X G hk hkx755 hq I hf hl
  · have hf := miff hf hc
    refine lv_iconst (v := 1) hx hb d_Law_law_398 (by decide) ?_
    refine lv_goto (tgt := 403) hx hb d_Law_law_399 (by decide) ?_
    exact w_Law_law_403 hX hbl hbA hZ hr1 hrz hrw X G hk hkx755 hq I hf hl

set_option maxHeartbeats 4000000 in
set_option maxRecDepth 100000 in
theorem w_Law_law_18 {L : Nat} {xs : Nat → Int32} {bS : Nat} {ws : Nat} {r : Int32 × mM × Nat × Nat} (hX : va_X bS L xs s s.heap) (hbl : bS < s.heap.size) (hbA : ¬ mA z0 bS) (hZ : s.heap.size ≤ z0) (hr1 : r.1 = 1) (hrz : r.2.2.1 - s.heap.size ≤ 600000) (hrw : r.2.2.2 - ws ≤ 7302250) (X : mX p m meth c s #[Value.ref bS] code 4 (some .boolean) R_law) (G : mG D cA dA z0 s) {kx755 : mM → Nat → Nat → Option (Int32 × mM × Nat × Nat)} (hkx755 : ∀ (H : Heap) (locs : List Loc) (μ : mM) (z w : Nat) (ls : Array Slot), mq ws w z r.2.2.1 r.2.2.2 → mI D cA z0 s μ H locs z → kx755 μ z w = some r → lv_has ls 4 [(0, .ref bS)] → W p l e room_1 s m #[Value.ref bS] below meth c H locs (z - s.heap.size) (w - ws) (lw_Z below #[Value.ref bS] s) (F0 m 755 ls [])) : ∀ (n : Nat) (H : Heap) (locs : List Loc) (μ : mM) (z w : Nat) (ls : Array Slot) (x1 : Option Nat) (x2 : Option Nat) (x3 : Int32), mq ws w z r.2.2.1 r.2.2.2 → mI D cA z0 s μ H locs z → f_Law_law_18 L xs kx755 n μ z w x1 x2 x3 = some r → lv_has ls 4 [(0, .ref bS), (1, va_rf x1), (2, va_rf x2), (3, .int x3)] → W p l e room_1 s m #[Value.ref bS] below meth c H locs (z - s.heap.size) (w - ws) (lw_Z below #[Value.ref bS] s) (F0 m 18 ls []) := by
  have hx := X.ex
  have hb := X.by_
  intro n
  induction n with
  | zero => intro H locs μ z w ls x1 x2 x3 hq I hf hl; rw [f_Law_law_18] at hf; cases hf
  | succ n ih =>
    intro H locs μ z w ls x1 x2 x3 hq I hf hl
    rw [f_Law_law_18] at hf
    refine lv_iload_n hx hb d_Law_law_18 rfl (lv_at hl 3 rfl) ?_
    refine lv_aload_n hx hb d_Law_law_19 rfl (lv_at hl 0 rfl) ?_
    refine va_slen hx hb hX hbl hbA I.2.1 d_Law_law_20 ?_
    refine lv_bipush (v := 6) hx hb d_Law_law_21 (by decide) ?_
    refine lv_isub hx hb d_Law_law_23 ?_
    refine lv_icmp_gt (tgt := 755) hx hb d_Law_law_24 (by decide) (fun hc => ?_) (fun hc => ?_)
    · have hf := mift hf hc
      exact hkx755 _ _ _ _ _ _ hq I hf (lv_sub hl [0] rfl)
    · have hf := miff hf hc
      refine lv_aload_n hx hb d_Law_law_27 rfl (lv_at hl 0 rfl) ?_
      refine lv_iload_n hx hb d_Law_law_28 rfl (lv_at hl 3 rfl) ?_
      obtain ⟨v5, hv, hf⟩ := mbind hf
      refine r_sld hx hb hX hbl hbA I.2.1 hv d_Law_law_29 ?_
      refine lv_bipush (v := 31) hx hb d_Law_law_30 (by decide) ?_
      refine lv_iand hx hb d_Law_law_32 ?_
      by_cases hc0 : (v5 &&& (31 : Int32)) = 0
      · have hf := mift hf hc0
        refine lv_tableIn (tgt := 124) (x := (v5 &&& (31 : Int32))) hx hb d_Law_law_33 (by rw [hc0]; decide) (by rw [hc0]; decide) (by rw [hc0]; rfl) (by decide) ?_
        refine r_aload_n X d_Law_law_124 rfl (lv_at hl 1 rfl) ?_
        refine lv_aload_n hx hb d_Law_law_125 rfl (lv_at hl 0 rfl) ?_
        refine lv_iload_n hx hb d_Law_law_126 rfl (lv_at hl 3 rfl) ?_
        refine lv_iconst (v := 1) hx hb d_Law_law_127 (by decide) ?_
        refine lv_iadd hx hb d_Law_law_128 ?_
        obtain ⟨v6, hv, hf⟩ := mbind hf
        refine r_sld hx hb hX hbl hbA I.2.1 hv d_Law_law_129 ?_
        refine lv_aload_n hx hb d_Law_law_130 rfl (lv_at hl 0 rfl) ?_
        refine lv_iload_n hx hb d_Law_law_131 rfl (lv_at hl 3 rfl) ?_
        refine lv_iconst (v := 2) hx hb d_Law_law_132 (by decide) ?_
        refine lv_iadd hx hb d_Law_law_133 ?_
        obtain ⟨v7, hv, hf⟩ := mbind hf
        refine r_sld hx hb hX hbl hbA I.2.1 hv d_Law_law_134 ?_
        obtain ⟨q8, hv, hf⟩ := mbind hf
        obtain ⟨a, ha, hv⟩ := mbind hv
        obtain ⟨ha, fs, hm⟩ := mrc_e ha
        refine m_caW (m_runV (As := [.int v6, .int v7]) (r := x1) (rest := []) X G I h_CL_add k_180 (c_CL_add hv) mPr_blind (m_pre G I) hm rfl ha rfl rfl hl.1 (Nat.le_of_ble_eq_true rfl) rfl rfl ⟨Nat.le_of_ble_eq_true rfl, Nat.le_of_ble_eq_true rfl⟩ ⟨Nat.le_trans (hq.rm (a := s.heap.size)).1 hrz, Nat.le_trans (hq.rm (a := s.heap.size)).2 hrw⟩ d_Law_law_135) I (fun H locs I => ?_)
        refine r_aload_n X d_Law_law_138 rfl (lv_at hl 2 rfl) ?_
        refine lv_aload_n hx hb d_Law_law_139 rfl (lv_at hl 0 rfl) ?_
        refine lv_iload_n hx hb d_Law_law_140 rfl (lv_at hl 3 rfl) ?_
        refine lv_iconst (v := 1) hx hb d_Law_law_141 (by decide) ?_
        refine lv_iadd hx hb d_Law_law_142 ?_
        obtain ⟨v9, hv, hf⟩ := mbind hf
        refine r_sld hx hb hX hbl hbA I.2.1 hv d_Law_law_143 ?_
        refine lv_aload_n hx hb d_Law_law_144 rfl (lv_at hl 0 rfl) ?_
        refine lv_iload_n hx hb d_Law_law_145 rfl (lv_at hl 3 rfl) ?_
        refine lv_iconst (v := 2) hx hb d_Law_law_146 (by decide) ?_
        refine lv_iadd hx hb d_Law_law_147 ?_
        obtain ⟨v10, hv, hf⟩ := mbind hf
        refine r_sld hx hb hX hbl hbA I.2.1 hv d_Law_law_148 ?_
        obtain ⟨q11, hv, hf⟩ := mbind hf
        obtain ⟨a, ha, hv⟩ := mbind hv
        obtain ⟨ha, fs, hm⟩ := mrc_e ha
        refine m_caW (m_runV (As := [.int v9, .int v10]) (r := x2) (rest := [.int q8.1]) X G I h_Mo_add k_899 (c_Mo_add hv) mPr_blind (m_pre G I) hm rfl ha rfl rfl hl.1 (Nat.le_of_ble_eq_true rfl) rfl rfl ⟨Nat.le_of_ble_eq_true rfl, Nat.le_of_ble_eq_true rfl⟩ ⟨Nat.le_trans (hq.rm (a := s.heap.size)).1 hrz, Nat.le_trans (hq.rm (a := s.heap.size)).2 hrw⟩ d_Law_law_149) I (fun H locs I => ?_)
        refine lv_icmp_eq (tgt := 749) hx hb d_Law_law_152 (by decide) (fun hc => ?_) (fun hc => ?_)
        · have hf := mift hf hc
          exact w_Law_law_749 hX hbl hbA hZ hr1 hrz hrw X G ih hkx755 hq I hf hl
        · have hf := miff hf hc
          refine lv_iconst (v := 0) hx hb d_Law_law_155 (by decide) ?_
          obtain rfl := Option.some.inj hf
          exact absurd (show (0 : Int32) = 1 from hr1) (by decide)
      have hf := miff hf hc0
      by_cases hc1 : (v5 &&& (31 : Int32)) = 1
      · have hf := mift hf hc1
        refine lv_tableIn (tgt := 157) (x := (v5 &&& (31 : Int32))) hx hb d_Law_law_33 (by rw [hc1]; decide) (by rw [hc1]; decide) (by rw [hc1]; rfl) (by decide) ?_
        refine r_aload_n X d_Law_law_157 rfl (lv_at hl 1 rfl) ?_
        refine lv_aload_n hx hb d_Law_law_158 rfl (lv_at hl 0 rfl) ?_
        refine lv_iload_n hx hb d_Law_law_159 rfl (lv_at hl 3 rfl) ?_
        refine lv_iconst (v := 1) hx hb d_Law_law_160 (by decide) ?_
        refine lv_iadd hx hb d_Law_law_161 ?_
        obtain ⟨v12, hv, hf⟩ := mbind hf
        refine r_sld hx hb hX hbl hbA I.2.1 hv d_Law_law_162 ?_
        refine lv_aload_n hx hb d_Law_law_163 rfl (lv_at hl 0 rfl) ?_
        refine lv_iload_n hx hb d_Law_law_164 rfl (lv_at hl 3 rfl) ?_
        refine lv_iconst (v := 2) hx hb d_Law_law_165 (by decide) ?_
        refine lv_iadd hx hb d_Law_law_166 ?_
        obtain ⟨v13, hv, hf⟩ := mbind hf
        refine r_sld hx hb hX hbl hbA I.2.1 hv d_Law_law_167 ?_
        obtain ⟨q14, hv, hf⟩ := mbind hf
        obtain ⟨a, ha, hv⟩ := mbind hv
        obtain ⟨ha, fs, hm⟩ := mrc_e ha
        refine m_caW (m_runV (As := [.int v12, .int v13]) (r := x1) (rest := []) X G I h_CL_set k_188 (c_CL_set hv) mPr_blind (m_pre G I) hm rfl ha rfl rfl hl.1 (Nat.le_of_ble_eq_true rfl) rfl rfl ⟨Nat.le_of_ble_eq_true rfl, Nat.le_of_ble_eq_true rfl⟩ ⟨Nat.le_trans (hq.rm (a := s.heap.size)).1 hrz, Nat.le_trans (hq.rm (a := s.heap.size)).2 hrw⟩ d_Law_law_168) I (fun H locs I => ?_)
        refine r_aload_n X d_Law_law_171 rfl (lv_at hl 2 rfl) ?_
        refine lv_aload_n hx hb d_Law_law_172 rfl (lv_at hl 0 rfl) ?_
        refine lv_iload_n hx hb d_Law_law_173 rfl (lv_at hl 3 rfl) ?_
        refine lv_iconst (v := 1) hx hb d_Law_law_174 (by decide) ?_
        refine lv_iadd hx hb d_Law_law_175 ?_
        obtain ⟨v15, hv, hf⟩ := mbind hf
        refine r_sld hx hb hX hbl hbA I.2.1 hv d_Law_law_176 ?_
        refine lv_aload_n hx hb d_Law_law_177 rfl (lv_at hl 0 rfl) ?_
        refine lv_iload_n hx hb d_Law_law_178 rfl (lv_at hl 3 rfl) ?_
        refine lv_iconst (v := 2) hx hb d_Law_law_179 (by decide) ?_
        refine lv_iadd hx hb d_Law_law_180 ?_
        obtain ⟨v16, hv, hf⟩ := mbind hf
        refine r_sld hx hb hX hbl hbA I.2.1 hv d_Law_law_181 ?_
        obtain ⟨q17, hv, hf⟩ := mbind hf
        obtain ⟨a, ha, hv⟩ := mbind hv
        obtain ⟨ha, fs, hm⟩ := mrc_e ha
        refine m_caW (m_runV (As := [.int v15, .int v16]) (r := x2) (rest := [.int q14.1]) X G I h_Mo_set k_903 (c_Mo_set hv) mPr_blind (m_pre G I) hm rfl ha rfl rfl hl.1 (Nat.le_of_ble_eq_true rfl) rfl rfl ⟨Nat.le_of_ble_eq_true rfl, Nat.le_of_ble_eq_true rfl⟩ ⟨Nat.le_trans (hq.rm (a := s.heap.size)).1 hrz, Nat.le_trans (hq.rm (a := s.heap.size)).2 hrw⟩ d_Law_law_182) I (fun H locs I => ?_)
        refine lv_icmp_eq (tgt := 749) hx hb d_Law_law_185 (by decide) (fun hc => ?_) (fun hc => ?_)
        · have hf := mift hf hc
          exact w_Law_law_749 hX hbl hbA hZ hr1 hrz hrw X G ih hkx755 hq I hf hl
        · have hf := miff hf hc
          refine lv_iconst (v := 0) hx hb d_Law_law_188 (by decide) ?_
          obtain rfl := Option.some.inj hf
          exact absurd (show (0 : Int32) = 1 from hr1) (by decide)
      have hf := miff hf hc1
      by_cases hc2 : (v5 &&& (31 : Int32)) = 2
      · have hf := mift hf hc2
        refine lv_tableIn (tgt := 190) (x := (v5 &&& (31 : Int32))) hx hb d_Law_law_33 (by rw [hc2]; decide) (by rw [hc2]; decide) (by rw [hc2]; rfl) (by decide) ?_
        refine r_aload_n X d_Law_law_190 rfl (lv_at hl 1 rfl) ?_
        obtain ⟨q18, hv, hf⟩ := mbind hf
        obtain ⟨a, ha, hv⟩ := mbind hv
        obtain ⟨ha, fs, hm⟩ := mrc_e ha
        refine m_caWv (m_runV (As := []) (r := x1) (rest := []) X G I h_CL_clear k_196 (c_CL_clear hv) mPr_blind (m_pre G I) hm rfl ha rfl rfl hl.1 (Nat.le_of_ble_eq_true rfl) rfl rfl ⟨Nat.le_of_ble_eq_true rfl, Nat.le_of_ble_eq_true rfl⟩ ⟨Nat.le_trans (hq.rm (a := s.heap.size)).1 hrz, Nat.le_trans (hq.rm (a := s.heap.size)).2 hrw⟩ d_Law_law_191) I (fun H locs I => ?_)
        refine r_aload_n X d_Law_law_194 rfl (lv_at hl 2 rfl) ?_
        obtain ⟨q19, hv, hf⟩ := mbind hf
        obtain ⟨a, ha, hv⟩ := mbind hv
        obtain ⟨ha, fs, hm⟩ := mrc_e ha
        refine m_caWv (m_runV (As := []) (r := x2) (rest := []) X G I h_Mo_clear k_907 (c_Mo_clear hv) mPr_blind (m_pre G I) hm rfl ha rfl rfl hl.1 (Nat.le_of_ble_eq_true rfl) rfl rfl ⟨Nat.le_of_ble_eq_true rfl, Nat.le_of_ble_eq_true rfl⟩ ⟨Nat.le_trans (hq.rm (a := s.heap.size)).1 hrz, Nat.le_trans (hq.rm (a := s.heap.size)).2 hrw⟩ d_Law_law_195) I (fun H locs I => ?_)
        refine lv_goto (tgt := 749) hx hb d_Law_law_198 (by decide) ?_
        exact w_Law_law_749 hX hbl hbA hZ hr1 hrz hrw X G ih hkx755 hq I hf hl
      have hf := miff hf hc2
      by_cases hc3 : (v5 &&& (31 : Int32)) = 3
      · have hf := mift hf hc3
        refine lv_tableIn (tgt := 201) (x := (v5 &&& (31 : Int32))) hx hb d_Law_law_33 (by rw [hc3]; decide) (by rw [hc3]; decide) (by rw [hc3]; rfl) (by decide) ?_
        refine r_aload_n X d_Law_law_201 rfl (lv_at hl 1 rfl) ?_
        obtain ⟨q20, hv, hf⟩ := mbind hf
        obtain ⟨a, ha, hv⟩ := mbind hv
        obtain ⟨ha, fs, hm⟩ := mrc_e ha
        refine m_caR (m_runV (As := []) (r := x1) (rest := []) X G I h_CL_size k_200 (c_CL_size hv) mPr_blind (m_pre G I) hm rfl ha rfl rfl hl.1 (Nat.le_of_ble_eq_true rfl) rfl rfl ⟨Nat.le_of_ble_eq_true rfl, Nat.le_of_ble_eq_true rfl⟩ ⟨Nat.le_trans (hq.rm (a := s.heap.size)).1 hrz, Nat.le_trans (hq.rm (a := s.heap.size)).2 hrw⟩ d_Law_law_202) ?_
        refine r_aload_n X d_Law_law_205 rfl (lv_at hl 2 rfl) ?_
        obtain ⟨q21, hv, hf⟩ := mbind hf
        obtain ⟨a, ha, hv⟩ := mbind hv
        obtain ⟨ha, fs, hm⟩ := mrc_e ha
        refine m_caR (m_runV (As := []) (r := x2) (rest := [.int q20]) X G I h_Mo_size k_911 (c_Mo_size hv) mPr_blind (m_pre G I) hm rfl ha rfl rfl hl.1 (Nat.le_of_ble_eq_true rfl) rfl rfl ⟨Nat.le_of_ble_eq_true rfl, Nat.le_of_ble_eq_true rfl⟩ ⟨Nat.le_trans (hq.rm (a := s.heap.size)).1 hrz, Nat.le_trans (hq.rm (a := s.heap.size)).2 hrw⟩ d_Law_law_206) ?_
        refine lv_icmp_eq (tgt := 749) hx hb d_Law_law_209 (by decide) (fun hc => ?_) (fun hc => ?_)
        · have hf := mift hf hc
          exact w_Law_law_749 hX hbl hbA hZ hr1 hrz hrw X G ih hkx755 hq I hf hl
        · have hf := miff hf hc
          refine lv_iconst (v := 0) hx hb d_Law_law_212 (by decide) ?_
          obtain rfl := Option.some.inj hf
          exact absurd (show (0 : Int32) = 1 from hr1) (by decide)
      have hf := miff hf hc3
      by_cases hc4 : (v5 &&& (31 : Int32)) = 4
      · have hf := mift hf hc4
        refine lv_tableIn (tgt := 214) (x := (v5 &&& (31 : Int32))) hx hb d_Law_law_33 (by rw [hc4]; decide) (by rw [hc4]; decide) (by rw [hc4]; rfl) (by decide) ?_
        refine r_aload_n X d_Law_law_214 rfl (lv_at hl 1 rfl) ?_
        refine lv_aload_n hx hb d_Law_law_215 rfl (lv_at hl 0 rfl) ?_
        refine lv_iload_n hx hb d_Law_law_216 rfl (lv_at hl 3 rfl) ?_
        refine lv_iconst (v := 1) hx hb d_Law_law_217 (by decide) ?_
        refine lv_iadd hx hb d_Law_law_218 ?_
        obtain ⟨v22, hv, hf⟩ := mbind hf
        refine r_sld hx hb hX hbl hbA I.2.1 hv d_Law_law_219 ?_
        obtain ⟨q23, hv, hf⟩ := mbind hf
        obtain ⟨a, ha, hv⟩ := mbind hv
        obtain ⟨ha, fs, hm⟩ := mrc_e ha
        refine m_caR (m_runV (As := [.int v22]) (r := x1) (rest := []) X G I h_CL_at k_204 (c_CL_at hv) mPr_blind (m_pre G I) hm rfl ha rfl rfl hl.1 (Nat.le_of_ble_eq_true rfl) rfl rfl ⟨Nat.le_of_ble_eq_true rfl, Nat.le_of_ble_eq_true rfl⟩ ⟨Nat.le_trans (hq.rm (a := s.heap.size)).1 hrz, Nat.le_trans (hq.rm (a := s.heap.size)).2 hrw⟩ d_Law_law_220) ?_
        refine r_aload_n X d_Law_law_223 rfl (lv_at hl 2 rfl) ?_
        refine lv_aload_n hx hb d_Law_law_224 rfl (lv_at hl 0 rfl) ?_
        refine lv_iload_n hx hb d_Law_law_225 rfl (lv_at hl 3 rfl) ?_
        refine lv_iconst (v := 1) hx hb d_Law_law_226 (by decide) ?_
        refine lv_iadd hx hb d_Law_law_227 ?_
        obtain ⟨v24, hv, hf⟩ := mbind hf
        refine r_sld hx hb hX hbl hbA I.2.1 hv d_Law_law_228 ?_
        obtain ⟨q25, hv, hf⟩ := mbind hf
        obtain ⟨a, ha, hv⟩ := mbind hv
        obtain ⟨ha, fs, hm⟩ := mrc_e ha
        refine m_caR (m_runV (As := [.int v24]) (r := x2) (rest := [.int q23]) X G I h_Mo_at k_915 (c_Mo_at hv) mPr_blind (m_pre G I) hm rfl ha rfl rfl hl.1 (Nat.le_of_ble_eq_true rfl) rfl rfl ⟨Nat.le_of_ble_eq_true rfl, Nat.le_of_ble_eq_true rfl⟩ ⟨Nat.le_trans (hq.rm (a := s.heap.size)).1 hrz, Nat.le_trans (hq.rm (a := s.heap.size)).2 hrw⟩ d_Law_law_229) ?_
        refine lv_icmp_eq (tgt := 749) hx hb d_Law_law_232 (by decide) (fun hc => ?_) (fun hc => ?_)
        · have hf := mift hf hc
          exact w_Law_law_749 hX hbl hbA hZ hr1 hrz hrw X G ih hkx755 hq I hf hl
        · have hf := miff hf hc
          refine lv_iconst (v := 0) hx hb d_Law_law_235 (by decide) ?_
          obtain rfl := Option.some.inj hf
          exact absurd (show (0 : Int32) = 1 from hr1) (by decide)
      have hf := miff hf hc4
      by_cases hc5 : (v5 &&& (31 : Int32)) = 5
      · have hf := mift hf hc5
        refine lv_tableIn (tgt := 237) (x := (v5 &&& (31 : Int32))) hx hb d_Law_law_33 (by rw [hc5]; decide) (by rw [hc5]; decide) (by rw [hc5]; rfl) (by decide) ?_
        refine r_aload_n X d_Law_law_237 rfl (lv_at hl 1 rfl) ?_
        obtain ⟨q26, hv, hf⟩ := mbind hf
        obtain ⟨hz1, hw1, hz2, hw2, hf⟩ := mmT_e hf
        have hrn := hq.rmN I hz1 hw1 hz2 hw2
        obtain ⟨a, ha, hv⟩ := mbind hv
        obtain ⟨ha, fs, hm⟩ := mrc_e ha
        refine m_caN (m_runV (As := []) (r := x1) (rest := []) X G I h_CL_parse k_212 (c_CL_parse hv) mPn_blind (m_preN G I) hm rfl ha rfl rfl hl.1 (Nat.le_of_ble_eq_true rfl) rfl rfl ⟨Nat.le_of_ble_eq_true rfl, Nat.le_of_ble_eq_true rfl⟩ ⟨Nat.le_trans hrn.1 hrz, Nat.le_trans hrn.2 hrw⟩ d_Law_law_238) I hq.1 hz1 hw1 (fun H locs I => ?_)
        have hq := hq.up hw1 hz2 hw2
        refine r_aload_n X d_Law_law_241 rfl (lv_at hl 2 rfl) ?_
        obtain ⟨q27, hv, hf⟩ := mbind hf
        obtain ⟨a, ha, hv⟩ := mbind hv
        obtain ⟨ha, fs, hm⟩ := mrc_e ha
        refine m_caW (m_runV (As := []) (r := x2) (rest := [.int q26.1]) X G I h_Mo_parse k_919 (c_Mo_parse hv) mPr_blind (m_pre G I) hm rfl ha rfl rfl hl.1 (Nat.le_of_ble_eq_true rfl) rfl rfl ⟨Nat.le_of_ble_eq_true rfl, Nat.le_of_ble_eq_true rfl⟩ ⟨Nat.le_trans (hq.rm (a := s.heap.size)).1 hrz, Nat.le_trans (hq.rm (a := s.heap.size)).2 hrw⟩ d_Law_law_242) I (fun H locs I => ?_)
        refine lv_icmp_eq (tgt := 749) hx hb d_Law_law_245 (by decide) (fun hc => ?_) (fun hc => ?_)
        · have hf := mift hf hc
          exact w_Law_law_749 hX hbl hbA hZ hr1 hrz hrw X G ih hkx755 hq I hf hl
        · have hf := miff hf hc
          refine lv_iconst (v := 0) hx hb d_Law_law_248 (by decide) ?_
          obtain rfl := Option.some.inj hf
          exact absurd (show (0 : Int32) = 1 from hr1) (by decide)
      have hf := miff hf hc5
      by_cases hc6 : (v5 &&& (31 : Int32)) = 6
      · have hf := mift hf hc6
        refine lv_tableIn (tgt := 250) (x := (v5 &&& (31 : Int32))) hx hb d_Law_law_33 (by rw [hc6]; decide) (by rw [hc6]; decide) (by rw [hc6]; rfl) (by decide) ?_
        refine r_aload_n X d_Law_law_250 rfl (lv_at hl 1 rfl) ?_
        obtain ⟨q28, hv, hf⟩ := mbind hf
        obtain ⟨a, ha, hv⟩ := mbind hv
        obtain ⟨ha, fs, hm⟩ := mrc_e ha
        refine m_caR (m_runV (As := []) (r := x1) (rest := []) X G I h_CL_profiles k_609 (c_CL_profiles hv) mPr_blind (m_pre G I) hm rfl ha rfl rfl hl.1 (Nat.le_of_ble_eq_true rfl) rfl rfl ⟨Nat.le_of_ble_eq_true rfl, Nat.le_of_ble_eq_true rfl⟩ ⟨Nat.le_trans (hq.rm (a := s.heap.size)).1 hrz, Nat.le_trans (hq.rm (a := s.heap.size)).2 hrw⟩ d_Law_law_251) ?_
        refine r_aload_n X d_Law_law_254 rfl (lv_at hl 2 rfl) ?_
        obtain ⟨q29, hv, hf⟩ := mbind hf
        obtain ⟨a, ha, hv⟩ := mbind hv
        obtain ⟨ha, fs, hm⟩ := mrc_e ha
        refine m_caR (m_runV (As := []) (r := x2) (rest := [.int q28]) X G I h_Mo_profiles k_935 (c_Mo_profiles hv) mPr_blind (m_pre G I) hm rfl ha rfl rfl hl.1 (Nat.le_of_ble_eq_true rfl) rfl rfl ⟨Nat.le_of_ble_eq_true rfl, Nat.le_of_ble_eq_true rfl⟩ ⟨Nat.le_trans (hq.rm (a := s.heap.size)).1 hrz, Nat.le_trans (hq.rm (a := s.heap.size)).2 hrw⟩ d_Law_law_255) ?_
        refine lv_icmp_eq (tgt := 749) hx hb d_Law_law_258 (by decide) (fun hc => ?_) (fun hc => ?_)
        · have hf := mift hf hc
          exact w_Law_law_749 hX hbl hbA hZ hr1 hrz hrw X G ih hkx755 hq I hf hl
        · have hf := miff hf hc
          refine lv_iconst (v := 0) hx hb d_Law_law_261 (by decide) ?_
          obtain rfl := Option.some.inj hf
          exact absurd (show (0 : Int32) = 1 from hr1) (by decide)
      have hf := miff hf hc6
      by_cases hc7 : (v5 &&& (31 : Int32)) = 7
      · have hf := mift hf hc7
        refine lv_tableIn (tgt := 263) (x := (v5 &&& (31 : Int32))) hx hb d_Law_law_33 (by rw [hc7]; decide) (by rw [hc7]; decide) (by rw [hc7]; rfl) (by decide) ?_
        refine r_aload_n X d_Law_law_263 rfl (lv_at hl 1 rfl) ?_
        refine lv_aload_n hx hb d_Law_law_264 rfl (lv_at hl 0 rfl) ?_
        refine lv_iload_n hx hb d_Law_law_265 rfl (lv_at hl 3 rfl) ?_
        refine lv_iconst (v := 1) hx hb d_Law_law_266 (by decide) ?_
        refine lv_iadd hx hb d_Law_law_267 ?_
        obtain ⟨v30, hv, hf⟩ := mbind hf
        refine r_sld hx hb hX hbl hbA I.2.1 hv d_Law_law_268 ?_
        obtain ⟨q31, hv, hf⟩ := mbind hf
        obtain ⟨a, ha, hv⟩ := mbind hv
        obtain ⟨ha, fs, hm⟩ := mrc_e ha
        refine m_caR (m_runV (As := [.int v30]) (r := x1) (rest := []) X G I h_CL_elements k_613 (c_CL_elements hv) mPr_blind (m_pre G I) hm rfl ha rfl rfl hl.1 (Nat.le_of_ble_eq_true rfl) rfl rfl ⟨Nat.le_of_ble_eq_true rfl, Nat.le_of_ble_eq_true rfl⟩ ⟨Nat.le_trans (hq.rm (a := s.heap.size)).1 hrz, Nat.le_trans (hq.rm (a := s.heap.size)).2 hrw⟩ d_Law_law_269) ?_
        refine r_aload_n X d_Law_law_272 rfl (lv_at hl 2 rfl) ?_
        refine lv_aload_n hx hb d_Law_law_273 rfl (lv_at hl 0 rfl) ?_
        refine lv_iload_n hx hb d_Law_law_274 rfl (lv_at hl 3 rfl) ?_
        refine lv_iconst (v := 1) hx hb d_Law_law_275 (by decide) ?_
        refine lv_iadd hx hb d_Law_law_276 ?_
        obtain ⟨v32, hv, hf⟩ := mbind hf
        refine r_sld hx hb hX hbl hbA I.2.1 hv d_Law_law_277 ?_
        obtain ⟨q33, hv, hf⟩ := mbind hf
        obtain ⟨a, ha, hv⟩ := mbind hv
        obtain ⟨ha, fs, hm⟩ := mrc_e ha
        refine m_caR (m_runV (As := [.int v32]) (r := x2) (rest := [.int q31]) X G I h_Mo_elements k_939 (c_Mo_elements hv) mPr_blind (m_pre G I) hm rfl ha rfl rfl hl.1 (Nat.le_of_ble_eq_true rfl) rfl rfl ⟨Nat.le_of_ble_eq_true rfl, Nat.le_of_ble_eq_true rfl⟩ ⟨Nat.le_trans (hq.rm (a := s.heap.size)).1 hrz, Nat.le_trans (hq.rm (a := s.heap.size)).2 hrw⟩ d_Law_law_278) ?_
        refine lv_icmp_eq (tgt := 749) hx hb d_Law_law_281 (by decide) (fun hc => ?_) (fun hc => ?_)
        · have hf := mift hf hc
          exact w_Law_law_749 hX hbl hbA hZ hr1 hrz hrw X G ih hkx755 hq I hf hl
        · have hf := miff hf hc
          refine lv_iconst (v := 0) hx hb d_Law_law_284 (by decide) ?_
          obtain rfl := Option.some.inj hf
          exact absurd (show (0 : Int32) = 1 from hr1) (by decide)
      have hf := miff hf hc7
      by_cases hc8 : (v5 &&& (31 : Int32)) = 8
      · have hf := mift hf hc8
        refine lv_tableIn (tgt := 286) (x := (v5 &&& (31 : Int32))) hx hb d_Law_law_33 (by rw [hc8]; decide) (by rw [hc8]; decide) (by rw [hc8]; rfl) (by decide) ?_
        refine r_aload_n X d_Law_law_286 rfl (lv_at hl 1 rfl) ?_
        refine lv_aload_n hx hb d_Law_law_287 rfl (lv_at hl 0 rfl) ?_
        refine lv_iload_n hx hb d_Law_law_288 rfl (lv_at hl 3 rfl) ?_
        refine lv_iconst (v := 1) hx hb d_Law_law_289 (by decide) ?_
        refine lv_iadd hx hb d_Law_law_290 ?_
        obtain ⟨v34, hv, hf⟩ := mbind hf
        refine r_sld hx hb hX hbl hbA I.2.1 hv d_Law_law_291 ?_
        refine lv_aload_n hx hb d_Law_law_292 rfl (lv_at hl 0 rfl) ?_
        refine lv_iload_n hx hb d_Law_law_293 rfl (lv_at hl 3 rfl) ?_
        refine lv_iconst (v := 2) hx hb d_Law_law_294 (by decide) ?_
        refine lv_iadd hx hb d_Law_law_295 ?_
        obtain ⟨v35, hv, hf⟩ := mbind hf
        refine r_sld hx hb hX hbl hbA I.2.1 hv d_Law_law_296 ?_
        obtain ⟨q36, hv, hf⟩ := mbind hf
        obtain ⟨a, ha, hv⟩ := mbind hv
        obtain ⟨ha, fs, hm⟩ := mrc_e ha
        refine m_caR (m_runV (As := [.int v34, .int v35]) (r := x1) (rest := []) X G I h_CL_same k_621 (c_CL_same hv) mPr_blind (m_pre G I) hm rfl ha rfl rfl hl.1 (Nat.le_of_ble_eq_true rfl) rfl rfl ⟨Nat.le_of_ble_eq_true rfl, Nat.le_of_ble_eq_true rfl⟩ ⟨Nat.le_trans (hq.rm (a := s.heap.size)).1 hrz, Nat.le_trans (hq.rm (a := s.heap.size)).2 hrw⟩ d_Law_law_297) ?_
        refine r_aload_n X d_Law_law_300 rfl (lv_at hl 2 rfl) ?_
        refine lv_aload_n hx hb d_Law_law_301 rfl (lv_at hl 0 rfl) ?_
        refine lv_iload_n hx hb d_Law_law_302 rfl (lv_at hl 3 rfl) ?_
        refine lv_iconst (v := 1) hx hb d_Law_law_303 (by decide) ?_
        refine lv_iadd hx hb d_Law_law_304 ?_
        obtain ⟨v37, hv, hf⟩ := mbind hf
        refine r_sld hx hb hX hbl hbA I.2.1 hv d_Law_law_305 ?_
        refine lv_aload_n hx hb d_Law_law_306 rfl (lv_at hl 0 rfl) ?_
        refine lv_iload_n hx hb d_Law_law_307 rfl (lv_at hl 3 rfl) ?_
        refine lv_iconst (v := 2) hx hb d_Law_law_308 (by decide) ?_
        refine lv_iadd hx hb d_Law_law_309 ?_
        obtain ⟨v38, hv, hf⟩ := mbind hf
        refine r_sld hx hb hX hbl hbA I.2.1 hv d_Law_law_310 ?_
        obtain ⟨q39, hv, hf⟩ := mbind hf
        obtain ⟨a, ha, hv⟩ := mbind hv
        obtain ⟨ha, fs, hm⟩ := mrc_e ha
        refine m_caR (m_runV (As := [.int v37, .int v38]) (r := x2) (rest := [.int q36]) X G I h_Mo_same k_959 (c_Mo_same hv) mPr_blind (m_pre G I) hm rfl ha rfl rfl hl.1 (Nat.le_of_ble_eq_true rfl) rfl rfl ⟨Nat.le_of_ble_eq_true rfl, Nat.le_of_ble_eq_true rfl⟩ ⟨Nat.le_trans (hq.rm (a := s.heap.size)).1 hrz, Nat.le_trans (hq.rm (a := s.heap.size)).2 hrw⟩ d_Law_law_311) ?_
        refine lv_icmp_eq (tgt := 749) hx hb d_Law_law_314 (by decide) (fun hc => ?_) (fun hc => ?_)
        · have hf := mift hf hc
          exact w_Law_law_749 hX hbl hbA hZ hr1 hrz hrw X G ih hkx755 hq I hf hl
        · have hf := miff hf hc
          refine lv_iconst (v := 0) hx hb d_Law_law_317 (by decide) ?_
          obtain rfl := Option.some.inj hf
          exact absurd (show (0 : Int32) = 1 from hr1) (by decide)
      have hf := miff hf hc8
      by_cases hc9 : (v5 &&& (31 : Int32)) = 9
      · have hf := mift hf hc9
        refine lv_tableIn (tgt := 319) (x := (v5 &&& (31 : Int32))) hx hb d_Law_law_33 (by rw [hc9]; decide) (by rw [hc9]; decide) (by rw [hc9]; rfl) (by decide) ?_
        refine r_aload_n X d_Law_law_319 rfl (lv_at hl 1 rfl) ?_
        refine lv_aload_n hx hb d_Law_law_320 rfl (lv_at hl 0 rfl) ?_
        refine lv_iload_n hx hb d_Law_law_321 rfl (lv_at hl 3 rfl) ?_
        refine lv_iconst (v := 1) hx hb d_Law_law_322 (by decide) ?_
        refine lv_iadd hx hb d_Law_law_323 ?_
        obtain ⟨v40, hv, hf⟩ := mbind hf
        refine r_sld hx hb hX hbl hbA I.2.1 hv d_Law_law_324 ?_
        obtain ⟨q41, hv, hf⟩ := mbind hf
        obtain ⟨a, ha, hv⟩ := mbind hv
        obtain ⟨ha, fs, hm⟩ := mrc_e ha
        refine m_caW (m_runV (As := [.int v40]) (r := x1) (rest := []) X G I h_CL_write k_629 (c_CL_write hv) mPr_blind (m_pre G I) hm rfl ha rfl rfl hl.1 (Nat.le_of_ble_eq_true rfl) rfl rfl ⟨Nat.le_of_ble_eq_true rfl, Nat.le_of_ble_eq_true rfl⟩ ⟨Nat.le_trans (hq.rm (a := s.heap.size)).1 hrz, Nat.le_trans (hq.rm (a := s.heap.size)).2 hrw⟩ d_Law_law_325) I (fun H locs I => ?_)
        refine r_aload_n X d_Law_law_328 rfl (lv_at hl 2 rfl) ?_
        refine lv_aload_n hx hb d_Law_law_329 rfl (lv_at hl 0 rfl) ?_
        refine lv_iload_n hx hb d_Law_law_330 rfl (lv_at hl 3 rfl) ?_
        refine lv_iconst (v := 1) hx hb d_Law_law_331 (by decide) ?_
        refine lv_iadd hx hb d_Law_law_332 ?_
        obtain ⟨v42, hv, hf⟩ := mbind hf
        refine r_sld hx hb hX hbl hbA I.2.1 hv d_Law_law_333 ?_
        obtain ⟨q43, hv, hf⟩ := mbind hf
        obtain ⟨a, ha, hv⟩ := mbind hv
        obtain ⟨ha, fs, hm⟩ := mrc_e ha
        refine m_caW (m_runV (As := [.int v42]) (r := x2) (rest := [.int q41.1]) X G I h_Mo_write k_967 (c_Mo_write hv) mPr_blind (m_pre G I) hm rfl ha rfl rfl hl.1 (Nat.le_of_ble_eq_true rfl) rfl rfl ⟨Nat.le_of_ble_eq_true rfl, Nat.le_of_ble_eq_true rfl⟩ ⟨Nat.le_trans (hq.rm (a := s.heap.size)).1 hrz, Nat.le_trans (hq.rm (a := s.heap.size)).2 hrw⟩ d_Law_law_334) I (fun H locs I => ?_)
        refine lv_icmp_eq (tgt := 749) hx hb d_Law_law_337 (by decide) (fun hc => ?_) (fun hc => ?_)
        · have hf := mift hf hc
          exact w_Law_law_749 hX hbl hbA hZ hr1 hrz hrw X G ih hkx755 hq I hf hl
        · have hf := miff hf hc
          refine lv_iconst (v := 0) hx hb d_Law_law_340 (by decide) ?_
          obtain rfl := Option.some.inj hf
          exact absurd (show (0 : Int32) = 1 from hr1) (by decide)
      have hf := miff hf hc9
      by_cases hc10 : (v5 &&& (31 : Int32)) = 10
      · have hf := mift hf hc10
        refine lv_tableIn (tgt := 342) (x := (v5 &&& (31 : Int32))) hx hb d_Law_law_33 (by rw [hc10]; decide) (by rw [hc10]; decide) (by rw [hc10]; rfl) (by decide) ?_
        refine r_aload_n X d_Law_law_342 rfl (lv_at hl 1 rfl) ?_
        refine lv_aload_n hx hb d_Law_law_343 rfl (lv_at hl 0 rfl) ?_
        refine lv_iload_n hx hb d_Law_law_344 rfl (lv_at hl 3 rfl) ?_
        refine lv_iconst (v := 1) hx hb d_Law_law_345 (by decide) ?_
        refine lv_iadd hx hb d_Law_law_346 ?_
        obtain ⟨v44, hv, hf⟩ := mbind hf
        refine r_sld hx hb hX hbl hbA I.2.1 hv d_Law_law_347 ?_
        refine lv_aload_n hx hb d_Law_law_348 rfl (lv_at hl 0 rfl) ?_
        refine lv_iload_n hx hb d_Law_law_349 rfl (lv_at hl 3 rfl) ?_
        refine lv_iconst (v := 2) hx hb d_Law_law_350 (by decide) ?_
        refine lv_iadd hx hb d_Law_law_351 ?_
        obtain ⟨v45, hv, hf⟩ := mbind hf
        refine r_sld hx hb hX hbl hbA I.2.1 hv d_Law_law_352 ?_
        refine lv_aload_n hx hb d_Law_law_353 rfl (lv_at hl 0 rfl) ?_
        refine lv_iload_n hx hb d_Law_law_354 rfl (lv_at hl 3 rfl) ?_
        refine lv_iconst (v := 3) hx hb d_Law_law_355 (by decide) ?_
        refine lv_iadd hx hb d_Law_law_356 ?_
        obtain ⟨v46, hv, hf⟩ := mbind hf
        refine r_sld hx hb hX hbl hbA I.2.1 hv d_Law_law_357 ?_
        refine lv_aload_n hx hb d_Law_law_358 rfl (lv_at hl 0 rfl) ?_
        refine lv_iload_n hx hb d_Law_law_359 rfl (lv_at hl 3 rfl) ?_
        refine lv_iconst (v := 4) hx hb d_Law_law_360 (by decide) ?_
        refine lv_iadd hx hb d_Law_law_361 ?_
        obtain ⟨v47, hv, hf⟩ := mbind hf
        refine r_sld hx hb hX hbl hbA I.2.1 hv d_Law_law_362 ?_
        refine lv_if_eq (tgt := 370) hx hb d_Law_law_363 (by decide) (fun hc => ?_) (fun hc => ?_)
        · have hf := mift hf hc
          refine lv_iconst (v := 0) hx hb d_Law_law_370 (by decide) ?_
          exact w_Law_law_371 hX hbl hbA hZ hr1 hrz hrw X G ih hkx755 hq I hf hl
        · have hf := miff hf hc
          refine lv_iconst (v := 1) hx hb d_Law_law_366 (by decide) ?_
          refine lv_goto (tgt := 371) hx hb d_Law_law_367 (by decide) ?_
          exact w_Law_law_371 hX hbl hbA hZ hr1 hrz hrw X G ih hkx755 hq I hf hl
      have hf := miff hf hc10
      by_cases hc11 : (v5 &&& (31 : Int32)) = 11
      · have hf := mift hf hc11
        refine lv_tableIn (tgt := 411) (x := (v5 &&& (31 : Int32))) hx hb d_Law_law_33 (by rw [hc11]; decide) (by rw [hc11]; decide) (by rw [hc11]; rfl) (by decide) ?_
        refine r_aload_n X d_Law_law_411 rfl (lv_at hl 1 rfl) ?_
        refine lv_aload_n hx hb d_Law_law_412 rfl (lv_at hl 0 rfl) ?_
        refine lv_iload_n hx hb d_Law_law_413 rfl (lv_at hl 3 rfl) ?_
        refine lv_iconst (v := 1) hx hb d_Law_law_414 (by decide) ?_
        refine lv_iadd hx hb d_Law_law_415 ?_
        obtain ⟨v48, hv, hf⟩ := mbind hf
        refine r_sld hx hb hX hbl hbA I.2.1 hv d_Law_law_416 ?_
        refine lv_aload_n hx hb d_Law_law_417 rfl (lv_at hl 0 rfl) ?_
        refine lv_iload_n hx hb d_Law_law_418 rfl (lv_at hl 3 rfl) ?_
        refine lv_iconst (v := 2) hx hb d_Law_law_419 (by decide) ?_
        refine lv_iadd hx hb d_Law_law_420 ?_
        obtain ⟨v49, hv, hf⟩ := mbind hf
        refine r_sld hx hb hX hbl hbA I.2.1 hv d_Law_law_421 ?_
        refine lv_aload_n hx hb d_Law_law_422 rfl (lv_at hl 0 rfl) ?_
        refine lv_iload_n hx hb d_Law_law_423 rfl (lv_at hl 3 rfl) ?_
        refine lv_iconst (v := 3) hx hb d_Law_law_424 (by decide) ?_
        refine lv_iadd hx hb d_Law_law_425 ?_
        obtain ⟨v50, hv, hf⟩ := mbind hf
        refine r_sld hx hb hX hbl hbA I.2.1 hv d_Law_law_426 ?_
        refine lv_aload_n hx hb d_Law_law_427 rfl (lv_at hl 0 rfl) ?_
        refine lv_iload_n hx hb d_Law_law_428 rfl (lv_at hl 3 rfl) ?_
        refine lv_iconst (v := 4) hx hb d_Law_law_429 (by decide) ?_
        refine lv_iadd hx hb d_Law_law_430 ?_
        obtain ⟨v51, hv, hf⟩ := mbind hf
        refine r_sld hx hb hX hbl hbA I.2.1 hv d_Law_law_431 ?_
        refine lv_if_eq (tgt := 439) hx hb d_Law_law_432 (by decide) (fun hc => ?_) (fun hc => ?_)
        · have hf := mift hf hc
          refine lv_iconst (v := 0) hx hb d_Law_law_439 (by decide) ?_
          exact w_Law_law_440 hX hbl hbA hZ hr1 hrz hrw X G ih hkx755 hq I hf hl
        · have hf := miff hf hc
          refine lv_iconst (v := 1) hx hb d_Law_law_435 (by decide) ?_
          refine lv_goto (tgt := 440) hx hb d_Law_law_436 (by decide) ?_
          exact w_Law_law_440 hX hbl hbA hZ hr1 hrz hrw X G ih hkx755 hq I hf hl
      have hf := miff hf hc11
      by_cases hc12 : (v5 &&& (31 : Int32)) = 12
      · have hf := mift hf hc12
        refine lv_tableIn (tgt := 480) (x := (v5 &&& (31 : Int32))) hx hb d_Law_law_33 (by rw [hc12]; decide) (by rw [hc12]; decide) (by rw [hc12]; rfl) (by decide) ?_
        refine r_aload_n X d_Law_law_480 rfl (lv_at hl 1 rfl) ?_
        refine lv_aload_n hx hb d_Law_law_481 rfl (lv_at hl 0 rfl) ?_
        refine lv_iload_n hx hb d_Law_law_482 rfl (lv_at hl 3 rfl) ?_
        refine lv_iconst (v := 1) hx hb d_Law_law_483 (by decide) ?_
        refine lv_iadd hx hb d_Law_law_484 ?_
        obtain ⟨v52, hv, hf⟩ := mbind hf
        refine r_sld hx hb hX hbl hbA I.2.1 hv d_Law_law_485 ?_
        refine lv_aload_n hx hb d_Law_law_486 rfl (lv_at hl 0 rfl) ?_
        refine lv_iload_n hx hb d_Law_law_487 rfl (lv_at hl 3 rfl) ?_
        refine lv_iconst (v := 2) hx hb d_Law_law_488 (by decide) ?_
        refine lv_iadd hx hb d_Law_law_489 ?_
        obtain ⟨v53, hv, hf⟩ := mbind hf
        refine r_sld hx hb hX hbl hbA I.2.1 hv d_Law_law_490 ?_
        refine lv_aload_n hx hb d_Law_law_491 rfl (lv_at hl 0 rfl) ?_
        refine lv_iload_n hx hb d_Law_law_492 rfl (lv_at hl 3 rfl) ?_
        refine lv_iconst (v := 3) hx hb d_Law_law_493 (by decide) ?_
        refine lv_iadd hx hb d_Law_law_494 ?_
        obtain ⟨v54, hv, hf⟩ := mbind hf
        refine r_sld hx hb hX hbl hbA I.2.1 hv d_Law_law_495 ?_
        refine lv_aload_n hx hb d_Law_law_496 rfl (lv_at hl 0 rfl) ?_
        refine lv_iload_n hx hb d_Law_law_497 rfl (lv_at hl 3 rfl) ?_
        refine lv_iconst (v := 4) hx hb d_Law_law_498 (by decide) ?_
        refine lv_iadd hx hb d_Law_law_499 ?_
        obtain ⟨v55, hv, hf⟩ := mbind hf
        refine r_sld hx hb hX hbl hbA I.2.1 hv d_Law_law_500 ?_
        refine lv_if_eq (tgt := 508) hx hb d_Law_law_501 (by decide) (fun hc => ?_) (fun hc => ?_)
        · have hf := mift hf hc
          refine lv_iconst (v := 0) hx hb d_Law_law_508 (by decide) ?_
          exact w_Law_law_509 hX hbl hbA hZ hr1 hrz hrw X G ih hkx755 hq I hf hl
        · have hf := miff hf hc
          refine lv_iconst (v := 1) hx hb d_Law_law_504 (by decide) ?_
          refine lv_goto (tgt := 509) hx hb d_Law_law_505 (by decide) ?_
          exact w_Law_law_509 hX hbl hbA hZ hr1 hrz hrw X G ih hkx755 hq I hf hl
      have hf := miff hf hc12
      by_cases hc13 : (v5 &&& (31 : Int32)) = 13
      · have hf := mift hf hc13
        refine lv_tableIn (tgt := 549) (x := (v5 &&& (31 : Int32))) hx hb d_Law_law_33 (by rw [hc13]; decide) (by rw [hc13]; decide) (by rw [hc13]; rfl) (by decide) ?_
        refine r_aload_n X d_Law_law_549 rfl (lv_at hl 1 rfl) ?_
        obtain ⟨q56, hv, hf⟩ := mbind hf
        obtain ⟨a, ha, hv⟩ := mbind hv
        obtain ⟨ha, fs, hm⟩ := mrc_e ha
        refine m_caR (m_runV (As := []) (r := x1) (rest := []) X G I h_CL_links k_787 (c_CL_links hv) mPr_blind (m_pre G I) hm rfl ha rfl rfl hl.1 (Nat.le_of_ble_eq_true rfl) rfl rfl ⟨Nat.le_of_ble_eq_true rfl, Nat.le_of_ble_eq_true rfl⟩ ⟨Nat.le_trans (hq.rm (a := s.heap.size)).1 hrz, Nat.le_trans (hq.rm (a := s.heap.size)).2 hrw⟩ d_Law_law_550) ?_
        refine r_aload_n X d_Law_law_553 rfl (lv_at hl 2 rfl) ?_
        obtain ⟨q57, hv, hf⟩ := mbind hf
        obtain ⟨a, ha, hv⟩ := mbind hv
        obtain ⟨ha, fs, hm⟩ := mrc_e ha
        refine m_caR (m_runV (As := []) (r := x2) (rest := [.int q56]) X G I h_Mo_links k_1171 (c_Mo_links hv) mPr_blind (m_pre G I) hm rfl ha rfl rfl hl.1 (Nat.le_of_ble_eq_true rfl) rfl rfl ⟨Nat.le_of_ble_eq_true rfl, Nat.le_of_ble_eq_true rfl⟩ ⟨Nat.le_trans (hq.rm (a := s.heap.size)).1 hrz, Nat.le_trans (hq.rm (a := s.heap.size)).2 hrw⟩ d_Law_law_554) ?_
        refine lv_icmp_eq (tgt := 749) hx hb d_Law_law_557 (by decide) (fun hc => ?_) (fun hc => ?_)
        · have hf := mift hf hc
          exact w_Law_law_749 hX hbl hbA hZ hr1 hrz hrw X G ih hkx755 hq I hf hl
        · have hf := miff hf hc
          refine lv_iconst (v := 0) hx hb d_Law_law_560 (by decide) ?_
          obtain rfl := Option.some.inj hf
          exact absurd (show (0 : Int32) = 1 from hr1) (by decide)
      have hf := miff hf hc13
      by_cases hc14 : (v5 &&& (31 : Int32)) = 14
      · have hf := mift hf hc14
        refine lv_tableIn (tgt := 562) (x := (v5 &&& (31 : Int32))) hx hb d_Law_law_33 (by rw [hc14]; decide) (by rw [hc14]; decide) (by rw [hc14]; rfl) (by decide) ?_
        refine r_aload_n X d_Law_law_562 rfl (lv_at hl 1 rfl) ?_
        refine lv_aload_n hx hb d_Law_law_563 rfl (lv_at hl 0 rfl) ?_
        refine lv_iload_n hx hb d_Law_law_564 rfl (lv_at hl 3 rfl) ?_
        refine lv_iconst (v := 1) hx hb d_Law_law_565 (by decide) ?_
        refine lv_iadd hx hb d_Law_law_566 ?_
        obtain ⟨v58, hv, hf⟩ := mbind hf
        refine r_sld hx hb hX hbl hbA I.2.1 hv d_Law_law_567 ?_
        obtain ⟨q59, hv, hf⟩ := mbind hf
        obtain ⟨a, ha, hv⟩ := mbind hv
        obtain ⟨ha, fs, hm⟩ := mrc_e ha
        refine m_caR (m_runV (As := [.int v58]) (r := x1) (rest := []) X G I h_CL_pieces k_791 (c_CL_pieces hv) mPr_blind (m_pre G I) hm rfl ha rfl rfl hl.1 (Nat.le_of_ble_eq_true rfl) rfl rfl ⟨Nat.le_of_ble_eq_true rfl, Nat.le_of_ble_eq_true rfl⟩ ⟨Nat.le_trans (hq.rm (a := s.heap.size)).1 hrz, Nat.le_trans (hq.rm (a := s.heap.size)).2 hrw⟩ d_Law_law_568) ?_
        refine r_aload_n X d_Law_law_571 rfl (lv_at hl 2 rfl) ?_
        refine lv_aload_n hx hb d_Law_law_572 rfl (lv_at hl 0 rfl) ?_
        refine lv_iload_n hx hb d_Law_law_573 rfl (lv_at hl 3 rfl) ?_
        refine lv_iconst (v := 1) hx hb d_Law_law_574 (by decide) ?_
        refine lv_iadd hx hb d_Law_law_575 ?_
        obtain ⟨v60, hv, hf⟩ := mbind hf
        refine r_sld hx hb hX hbl hbA I.2.1 hv d_Law_law_576 ?_
        obtain ⟨q61, hv, hf⟩ := mbind hf
        obtain ⟨a, ha, hv⟩ := mbind hv
        obtain ⟨ha, fs, hm⟩ := mrc_e ha
        refine m_caW (m_runV (As := [.int v60]) (r := x2) (rest := [.int q59]) X G I h_Mo_pieces k_1175 (c_Mo_pieces hv) mPr_blind (m_pre G I) hm rfl ha rfl rfl hl.1 (Nat.le_of_ble_eq_true rfl) rfl rfl ⟨Nat.le_of_ble_eq_true rfl, Nat.le_of_ble_eq_true rfl⟩ ⟨Nat.le_trans (hq.rm (a := s.heap.size)).1 hrz, Nat.le_trans (hq.rm (a := s.heap.size)).2 hrw⟩ d_Law_law_577) I (fun H locs I => ?_)
        refine lv_icmp_eq (tgt := 749) hx hb d_Law_law_580 (by decide) (fun hc => ?_) (fun hc => ?_)
        · have hf := mift hf hc
          exact w_Law_law_749 hX hbl hbA hZ hr1 hrz hrw X G ih hkx755 hq I hf hl
        · have hf := miff hf hc
          refine lv_iconst (v := 0) hx hb d_Law_law_583 (by decide) ?_
          obtain rfl := Option.some.inj hf
          exact absurd (show (0 : Int32) = 1 from hr1) (by decide)
      have hf := miff hf hc14
      by_cases hc15 : (v5 &&& (31 : Int32)) = 15
      · have hf := mift hf hc15
        refine lv_tableIn (tgt := 585) (x := (v5 &&& (31 : Int32))) hx hb d_Law_law_33 (by rw [hc15]; decide) (by rw [hc15]; decide) (by rw [hc15]; rfl) (by decide) ?_
        refine r_aload_n X d_Law_law_585 rfl (lv_at hl 1 rfl) ?_
        refine lv_aload_n hx hb d_Law_law_586 rfl (lv_at hl 0 rfl) ?_
        refine lv_iload_n hx hb d_Law_law_587 rfl (lv_at hl 3 rfl) ?_
        refine lv_iconst (v := 1) hx hb d_Law_law_588 (by decide) ?_
        refine lv_iadd hx hb d_Law_law_589 ?_
        obtain ⟨v62, hv, hf⟩ := mbind hf
        refine r_sld hx hb hX hbl hbA I.2.1 hv d_Law_law_590 ?_
        refine lv_aload_n hx hb d_Law_law_591 rfl (lv_at hl 0 rfl) ?_
        refine lv_iload_n hx hb d_Law_law_592 rfl (lv_at hl 3 rfl) ?_
        refine lv_iconst (v := 2) hx hb d_Law_law_593 (by decide) ?_
        refine lv_iadd hx hb d_Law_law_594 ?_
        obtain ⟨v63, hv, hf⟩ := mbind hf
        refine r_sld hx hb hX hbl hbA I.2.1 hv d_Law_law_595 ?_
        obtain ⟨q64, hv, hf⟩ := mbind hf
        obtain ⟨a, ha, hv⟩ := mbind hv
        obtain ⟨ha, fs, hm⟩ := mrc_e ha
        refine m_caR (m_runV (As := [.int v62, .int v63]) (r := x1) (rest := []) X G I h_CL_piece k_795 (c_CL_piece hv) mPr_blind (m_pre G I) hm rfl ha rfl rfl hl.1 (Nat.le_of_ble_eq_true rfl) rfl rfl ⟨Nat.le_of_ble_eq_true rfl, Nat.le_of_ble_eq_true rfl⟩ ⟨Nat.le_trans (hq.rm (a := s.heap.size)).1 hrz, Nat.le_trans (hq.rm (a := s.heap.size)).2 hrw⟩ d_Law_law_596) ?_
        refine r_aload_n X d_Law_law_599 rfl (lv_at hl 2 rfl) ?_
        refine lv_aload_n hx hb d_Law_law_600 rfl (lv_at hl 0 rfl) ?_
        refine lv_iload_n hx hb d_Law_law_601 rfl (lv_at hl 3 rfl) ?_
        refine lv_iconst (v := 1) hx hb d_Law_law_602 (by decide) ?_
        refine lv_iadd hx hb d_Law_law_603 ?_
        obtain ⟨v65, hv, hf⟩ := mbind hf
        refine r_sld hx hb hX hbl hbA I.2.1 hv d_Law_law_604 ?_
        refine lv_aload_n hx hb d_Law_law_605 rfl (lv_at hl 0 rfl) ?_
        refine lv_iload_n hx hb d_Law_law_606 rfl (lv_at hl 3 rfl) ?_
        refine lv_iconst (v := 2) hx hb d_Law_law_607 (by decide) ?_
        refine lv_iadd hx hb d_Law_law_608 ?_
        obtain ⟨v66, hv, hf⟩ := mbind hf
        refine r_sld hx hb hX hbl hbA I.2.1 hv d_Law_law_609 ?_
        obtain ⟨q67, hv, hf⟩ := mbind hf
        obtain ⟨a, ha, hv⟩ := mbind hv
        obtain ⟨ha, fs, hm⟩ := mrc_e ha
        refine m_caW (m_runV (As := [.int v65, .int v66]) (r := x2) (rest := [.int q64]) X G I h_Mo_piece k_1179 (c_Mo_piece hv) mPr_blind (m_pre G I) hm rfl ha rfl rfl hl.1 (Nat.le_of_ble_eq_true rfl) rfl rfl ⟨Nat.le_of_ble_eq_true rfl, Nat.le_of_ble_eq_true rfl⟩ ⟨Nat.le_trans (hq.rm (a := s.heap.size)).1 hrz, Nat.le_trans (hq.rm (a := s.heap.size)).2 hrw⟩ d_Law_law_610) I (fun H locs I => ?_)
        refine lv_icmp_eq (tgt := 749) hx hb d_Law_law_613 (by decide) (fun hc => ?_) (fun hc => ?_)
        · have hf := mift hf hc
          exact w_Law_law_749 hX hbl hbA hZ hr1 hrz hrw X G ih hkx755 hq I hf hl
        · have hf := miff hf hc
          refine lv_iconst (v := 0) hx hb d_Law_law_616 (by decide) ?_
          obtain rfl := Option.some.inj hf
          exact absurd (show (0 : Int32) = 1 from hr1) (by decide)
      have hf := miff hf hc15
      by_cases hc16 : (v5 &&& (31 : Int32)) = 16
      · have hf := mift hf hc16
        refine lv_tableIn (tgt := 618) (x := (v5 &&& (31 : Int32))) hx hb d_Law_law_33 (by rw [hc16]; decide) (by rw [hc16]; decide) (by rw [hc16]; rfl) (by decide) ?_
        refine r_aload_n X d_Law_law_618 rfl (lv_at hl 1 rfl) ?_
        refine lv_aload_n hx hb d_Law_law_619 rfl (lv_at hl 0 rfl) ?_
        refine lv_iload_n hx hb d_Law_law_620 rfl (lv_at hl 3 rfl) ?_
        refine lv_iconst (v := 1) hx hb d_Law_law_621 (by decide) ?_
        refine lv_iadd hx hb d_Law_law_622 ?_
        obtain ⟨v68, hv, hf⟩ := mbind hf
        refine r_sld hx hb hX hbl hbA I.2.1 hv d_Law_law_623 ?_
        refine lv_aload_n hx hb d_Law_law_624 rfl (lv_at hl 0 rfl) ?_
        refine lv_iload_n hx hb d_Law_law_625 rfl (lv_at hl 3 rfl) ?_
        refine lv_iconst (v := 2) hx hb d_Law_law_626 (by decide) ?_
        refine lv_iadd hx hb d_Law_law_627 ?_
        obtain ⟨v69, hv, hf⟩ := mbind hf
        refine r_sld hx hb hX hbl hbA I.2.1 hv d_Law_law_628 ?_
        refine lv_aload_n hx hb d_Law_law_629 rfl (lv_at hl 0 rfl) ?_
        refine lv_iload_n hx hb d_Law_law_630 rfl (lv_at hl 3 rfl) ?_
        refine lv_iconst (v := 3) hx hb d_Law_law_631 (by decide) ?_
        refine lv_iadd hx hb d_Law_law_632 ?_
        obtain ⟨v70, hv, hf⟩ := mbind hf
        refine r_sld hx hb hX hbl hbA I.2.1 hv d_Law_law_633 ?_
        refine lv_aload_n hx hb d_Law_law_634 rfl (lv_at hl 0 rfl) ?_
        refine lv_iload_n hx hb d_Law_law_635 rfl (lv_at hl 3 rfl) ?_
        refine lv_iconst (v := 4) hx hb d_Law_law_636 (by decide) ?_
        refine lv_iadd hx hb d_Law_law_637 ?_
        obtain ⟨v71, hv, hf⟩ := mbind hf
        refine r_sld hx hb hX hbl hbA I.2.1 hv d_Law_law_638 ?_
        obtain ⟨q72, hv, hf⟩ := mbind hf
        obtain ⟨a, ha, hv⟩ := mbind hv
        obtain ⟨ha, fs, hm⟩ := mrc_e ha
        refine m_caW (m_runV (As := [.int v68, .int v69, .int v70, .int v71]) (r := x1) (rest := []) X G I h_CL_convert k_799 (c_CL_convert hv) mPr_blind (m_pre G I) hm rfl ha rfl rfl hl.1 (Nat.le_of_ble_eq_true rfl) rfl rfl ⟨Nat.le_of_ble_eq_true rfl, Nat.le_of_ble_eq_true rfl⟩ ⟨Nat.le_trans (hq.rm (a := s.heap.size)).1 hrz, Nat.le_trans (hq.rm (a := s.heap.size)).2 hrw⟩ d_Law_law_639) I (fun H locs I => ?_)
        refine r_aload_n X d_Law_law_642 rfl (lv_at hl 2 rfl) ?_
        refine lv_aload_n hx hb d_Law_law_643 rfl (lv_at hl 0 rfl) ?_
        refine lv_iload_n hx hb d_Law_law_644 rfl (lv_at hl 3 rfl) ?_
        refine lv_iconst (v := 1) hx hb d_Law_law_645 (by decide) ?_
        refine lv_iadd hx hb d_Law_law_646 ?_
        obtain ⟨v73, hv, hf⟩ := mbind hf
        refine r_sld hx hb hX hbl hbA I.2.1 hv d_Law_law_647 ?_
        refine lv_aload_n hx hb d_Law_law_648 rfl (lv_at hl 0 rfl) ?_
        refine lv_iload_n hx hb d_Law_law_649 rfl (lv_at hl 3 rfl) ?_
        refine lv_iconst (v := 2) hx hb d_Law_law_650 (by decide) ?_
        refine lv_iadd hx hb d_Law_law_651 ?_
        obtain ⟨v74, hv, hf⟩ := mbind hf
        refine r_sld hx hb hX hbl hbA I.2.1 hv d_Law_law_652 ?_
        refine lv_aload_n hx hb d_Law_law_653 rfl (lv_at hl 0 rfl) ?_
        refine lv_iload_n hx hb d_Law_law_654 rfl (lv_at hl 3 rfl) ?_
        refine lv_iconst (v := 3) hx hb d_Law_law_655 (by decide) ?_
        refine lv_iadd hx hb d_Law_law_656 ?_
        obtain ⟨v75, hv, hf⟩ := mbind hf
        refine r_sld hx hb hX hbl hbA I.2.1 hv d_Law_law_657 ?_
        refine lv_aload_n hx hb d_Law_law_658 rfl (lv_at hl 0 rfl) ?_
        refine lv_iload_n hx hb d_Law_law_659 rfl (lv_at hl 3 rfl) ?_
        refine lv_iconst (v := 4) hx hb d_Law_law_660 (by decide) ?_
        refine lv_iadd hx hb d_Law_law_661 ?_
        obtain ⟨v76, hv, hf⟩ := mbind hf
        refine r_sld hx hb hX hbl hbA I.2.1 hv d_Law_law_662 ?_
        obtain ⟨q77, hv, hf⟩ := mbind hf
        obtain ⟨a, ha, hv⟩ := mbind hv
        obtain ⟨ha, fs, hm⟩ := mrc_e ha
        refine m_caW (m_runV (As := [.int v73, .int v74, .int v75, .int v76]) (r := x2) (rest := [.long q72.1]) X G I h_Mo_convert k_1184 (c_Mo_convert hv) mPr_blind (m_pre G I) hm rfl ha rfl rfl hl.1 (Nat.le_of_ble_eq_true rfl) rfl rfl ⟨Nat.le_of_ble_eq_true rfl, Nat.le_of_ble_eq_true rfl⟩ ⟨Nat.le_trans (hq.rm (a := s.heap.size)).1 hrz, Nat.le_trans (hq.rm (a := s.heap.size)).2 hrw⟩ d_Law_law_663) I (fun H locs I => ?_)
        refine r_lceq (tgt := 749) X d_Law_law_666 d_Law_law_667 (by decide) (fun hc => ?_) (fun hc => ?_)
        · have hf := mift hf hc
          exact w_Law_law_749 hX hbl hbA hZ hr1 hrz hrw X G ih hkx755 hq I hf hl
        · have hf := miff hf hc
          refine lv_iconst (v := 0) hx hb d_Law_law_670 (by decide) ?_
          obtain rfl := Option.some.inj hf
          exact absurd (show (0 : Int32) = 1 from hr1) (by decide)
      have hf := miff hf hc16
      by_cases hc17 : (v5 &&& (31 : Int32)) = 17
      · have hf := mift hf hc17
        refine lv_tableIn (tgt := 672) (x := (v5 &&& (31 : Int32))) hx hb d_Law_law_33 (by rw [hc17]; decide) (by rw [hc17]; decide) (by rw [hc17]; rfl) (by decide) ?_
        refine r_aload_n X d_Law_law_672 rfl (lv_at hl 1 rfl) ?_
        refine lv_aload_n hx hb d_Law_law_673 rfl (lv_at hl 0 rfl) ?_
        refine lv_iload_n hx hb d_Law_law_674 rfl (lv_at hl 3 rfl) ?_
        refine lv_iconst (v := 1) hx hb d_Law_law_675 (by decide) ?_
        refine lv_iadd hx hb d_Law_law_676 ?_
        obtain ⟨v78, hv, hf⟩ := mbind hf
        refine r_sld hx hb hX hbl hbA I.2.1 hv d_Law_law_677 ?_
        refine lv_aload_n hx hb d_Law_law_678 rfl (lv_at hl 0 rfl) ?_
        refine lv_iload_n hx hb d_Law_law_679 rfl (lv_at hl 3 rfl) ?_
        refine lv_iconst (v := 2) hx hb d_Law_law_680 (by decide) ?_
        refine lv_iadd hx hb d_Law_law_681 ?_
        obtain ⟨v79, hv, hf⟩ := mbind hf
        refine r_sld hx hb hX hbl hbA I.2.1 hv d_Law_law_682 ?_
        refine lv_aload_n hx hb d_Law_law_683 rfl (lv_at hl 0 rfl) ?_
        refine lv_iload_n hx hb d_Law_law_684 rfl (lv_at hl 3 rfl) ?_
        refine lv_iconst (v := 3) hx hb d_Law_law_685 (by decide) ?_
        refine lv_iadd hx hb d_Law_law_686 ?_
        obtain ⟨v80, hv, hf⟩ := mbind hf
        refine r_sld hx hb hX hbl hbA I.2.1 hv d_Law_law_687 ?_
        refine lv_aload_n hx hb d_Law_law_688 rfl (lv_at hl 0 rfl) ?_
        refine lv_iload_n hx hb d_Law_law_689 rfl (lv_at hl 3 rfl) ?_
        refine lv_iconst (v := 4) hx hb d_Law_law_690 (by decide) ?_
        refine lv_iadd hx hb d_Law_law_691 ?_
        obtain ⟨v81, hv, hf⟩ := mbind hf
        refine r_sld hx hb hX hbl hbA I.2.1 hv d_Law_law_692 ?_
        refine lv_aload_n hx hb d_Law_law_693 rfl (lv_at hl 0 rfl) ?_
        refine lv_iload_n hx hb d_Law_law_694 rfl (lv_at hl 3 rfl) ?_
        refine lv_iconst (v := 5) hx hb d_Law_law_695 (by decide) ?_
        refine lv_iadd hx hb d_Law_law_696 ?_
        obtain ⟨v82, hv, hf⟩ := mbind hf
        refine r_sld hx hb hX hbl hbA I.2.1 hv d_Law_law_697 ?_
        obtain ⟨q83, hv, hf⟩ := mbind hf
        obtain ⟨a, ha, hv⟩ := mbind hv
        obtain ⟨ha, fs, hm⟩ := mrc_e ha
        refine m_caW (m_runV (As := [.int v78, .int v79, .int v80, .int v81, .int v82]) (r := x1) (rest := []) X G I h_CL_after k_820 (c_CL_after hv) mPr_blind (m_pre G I) hm rfl ha rfl rfl hl.1 (Nat.le_of_ble_eq_true rfl) rfl rfl ⟨Nat.le_of_ble_eq_true rfl, Nat.le_of_ble_eq_true rfl⟩ ⟨Nat.le_trans (hq.rm (a := s.heap.size)).1 hrz, Nat.le_trans (hq.rm (a := s.heap.size)).2 hrw⟩ d_Law_law_698) I (fun H locs I => ?_)
        refine r_aload_n X d_Law_law_701 rfl (lv_at hl 2 rfl) ?_
        refine lv_aload_n hx hb d_Law_law_702 rfl (lv_at hl 0 rfl) ?_
        refine lv_iload_n hx hb d_Law_law_703 rfl (lv_at hl 3 rfl) ?_
        refine lv_iconst (v := 1) hx hb d_Law_law_704 (by decide) ?_
        refine lv_iadd hx hb d_Law_law_705 ?_
        obtain ⟨v84, hv, hf⟩ := mbind hf
        refine r_sld hx hb hX hbl hbA I.2.1 hv d_Law_law_706 ?_
        refine lv_aload_n hx hb d_Law_law_707 rfl (lv_at hl 0 rfl) ?_
        refine lv_iload_n hx hb d_Law_law_708 rfl (lv_at hl 3 rfl) ?_
        refine lv_iconst (v := 2) hx hb d_Law_law_709 (by decide) ?_
        refine lv_iadd hx hb d_Law_law_710 ?_
        obtain ⟨v85, hv, hf⟩ := mbind hf
        refine r_sld hx hb hX hbl hbA I.2.1 hv d_Law_law_711 ?_
        refine lv_aload_n hx hb d_Law_law_712 rfl (lv_at hl 0 rfl) ?_
        refine lv_iload_n hx hb d_Law_law_713 rfl (lv_at hl 3 rfl) ?_
        refine lv_iconst (v := 3) hx hb d_Law_law_714 (by decide) ?_
        refine lv_iadd hx hb d_Law_law_715 ?_
        obtain ⟨v86, hv, hf⟩ := mbind hf
        refine r_sld hx hb hX hbl hbA I.2.1 hv d_Law_law_716 ?_
        refine lv_aload_n hx hb d_Law_law_717 rfl (lv_at hl 0 rfl) ?_
        refine lv_iload_n hx hb d_Law_law_718 rfl (lv_at hl 3 rfl) ?_
        refine lv_iconst (v := 4) hx hb d_Law_law_719 (by decide) ?_
        refine lv_iadd hx hb d_Law_law_720 ?_
        obtain ⟨v87, hv, hf⟩ := mbind hf
        refine r_sld hx hb hX hbl hbA I.2.1 hv d_Law_law_721 ?_
        refine lv_aload_n hx hb d_Law_law_722 rfl (lv_at hl 0 rfl) ?_
        refine lv_iload_n hx hb d_Law_law_723 rfl (lv_at hl 3 rfl) ?_
        refine lv_iconst (v := 5) hx hb d_Law_law_724 (by decide) ?_
        refine lv_iadd hx hb d_Law_law_725 ?_
        obtain ⟨v88, hv, hf⟩ := mbind hf
        refine r_sld hx hb hX hbl hbA I.2.1 hv d_Law_law_726 ?_
        obtain ⟨q89, hv, hf⟩ := mbind hf
        obtain ⟨a, ha, hv⟩ := mbind hv
        obtain ⟨ha, fs, hm⟩ := mrc_e ha
        refine m_caW (m_runV (As := [.int v84, .int v85, .int v86, .int v87, .int v88]) (r := x2) (rest := [.long q83.1]) X G I h_Mo_after k_1206 (c_Mo_after hv) mPr_blind (m_pre G I) hm rfl ha rfl rfl hl.1 (Nat.le_of_ble_eq_true rfl) rfl rfl ⟨Nat.le_of_ble_eq_true rfl, Nat.le_of_ble_eq_true rfl⟩ ⟨Nat.le_trans (hq.rm (a := s.heap.size)).1 hrz, Nat.le_trans (hq.rm (a := s.heap.size)).2 hrw⟩ d_Law_law_727) I (fun H locs I => ?_)
        refine r_lceq (tgt := 749) X d_Law_law_730 d_Law_law_731 (by decide) (fun hc => ?_) (fun hc => ?_)
        · have hf := mift hf hc
          exact w_Law_law_749 hX hbl hbA hZ hr1 hrz hrw X G ih hkx755 hq I hf hl
        · have hf := miff hf hc
          refine lv_iconst (v := 0) hx hb d_Law_law_734 (by decide) ?_
          obtain rfl := Option.some.inj hf
          exact absurd (show (0 : Int32) = 1 from hr1) (by decide)
      have hf := miff hf hc17
      by_cases hc18 : (v5 &&& (31 : Int32)) = 18
      · have hf := mift hf hc18
        refine lv_tableIn (tgt := 736) (x := (v5 &&& (31 : Int32))) hx hb d_Law_law_33 (by rw [hc18]; decide) (by rw [hc18]; decide) (by rw [hc18]; rfl) (by decide) ?_
        refine r_aload_n X d_Law_law_736 rfl (lv_at hl 1 rfl) ?_
        obtain ⟨q90, hv, hf⟩ := mbind hf
        obtain ⟨a, ha, hv⟩ := mbind hv
        obtain ⟨ha, fs, hm⟩ := mrc_e ha
        refine m_caR (m_runV (As := []) (r := x1) (rest := []) X G I h_CL_work k_824 (c_CL_work hv) mPr_blind (m_pre G I) hm rfl ha rfl rfl hl.1 (Nat.le_of_ble_eq_true rfl) rfl rfl ⟨Nat.le_of_ble_eq_true rfl, Nat.le_of_ble_eq_true rfl⟩ ⟨Nat.le_trans (hq.rm (a := s.heap.size)).1 hrz, Nat.le_trans (hq.rm (a := s.heap.size)).2 hrw⟩ d_Law_law_737) ?_
        refine r_aload_n X d_Law_law_740 rfl (lv_at hl 2 rfl) ?_
        obtain ⟨q91, hv, hf⟩ := mbind hf
        obtain ⟨a, ha, hv⟩ := mbind hv
        obtain ⟨ha, fs, hm⟩ := mrc_e ha
        refine m_caR (m_runV (As := []) (r := x2) (rest := [.int q90]) X G I h_Mo_work k_1210 (c_Mo_work hv) mPr_blind (m_pre G I) hm rfl ha rfl rfl hl.1 (Nat.le_of_ble_eq_true rfl) rfl rfl ⟨Nat.le_of_ble_eq_true rfl, Nat.le_of_ble_eq_true rfl⟩ ⟨Nat.le_trans (hq.rm (a := s.heap.size)).1 hrz, Nat.le_trans (hq.rm (a := s.heap.size)).2 hrw⟩ d_Law_law_741) ?_
        refine lv_icmp_eq (tgt := 749) hx hb d_Law_law_744 (by decide) (fun hc => ?_) (fun hc => ?_)
        · have hf := mift hf hc
          exact w_Law_law_749 hX hbl hbA hZ hr1 hrz hrw X G ih hkx755 hq I hf hl
        · have hf := miff hf hc
          refine lv_iconst (v := 0) hx hb d_Law_law_747 (by decide) ?_
          obtain rfl := Option.some.inj hf
          exact absurd (show (0 : Int32) = 1 from hr1) (by decide)
      have hf := miff hf hc18
      have hn0 := lv_neT hc0 (a := 0) (by decide)
      have hn1 := lv_neT hc1 (a := 1) (by decide)
      have hn2 := lv_neT hc2 (a := 2) (by decide)
      have hn3 := lv_neT hc3 (a := 3) (by decide)
      have hn4 := lv_neT hc4 (a := 4) (by decide)
      have hn5 := lv_neT hc5 (a := 5) (by decide)
      have hn6 := lv_neT hc6 (a := 6) (by decide)
      have hn7 := lv_neT hc7 (a := 7) (by decide)
      have hn8 := lv_neT hc8 (a := 8) (by decide)
      have hn9 := lv_neT hc9 (a := 9) (by decide)
      have hn10 := lv_neT hc10 (a := 10) (by decide)
      have hn11 := lv_neT hc11 (a := 11) (by decide)
      have hn12 := lv_neT hc12 (a := 12) (by decide)
      have hn13 := lv_neT hc13 (a := 13) (by decide)
      have hn14 := lv_neT hc14 (a := 14) (by decide)
      have hn15 := lv_neT hc15 (a := 15) (by decide)
      have hn16 := lv_neT hc16 (a := 16) (by decide)
      have hn17 := lv_neT hc17 (a := 17) (by decide)
      have hn18 := lv_neT hc18 (a := 18) (by decide)
      refine lv_tableOut (tgt := 749) (x := (v5 &&& (31 : Int32))) hx hb d_Law_law_33 (by omega) (by decide) ?_
      exact w_Law_law_749 hX hbl hbA hZ hr1 hrz hrw X G ih hkx755 hq I hf hl

set_option maxHeartbeats 4000000 in
set_option maxRecDepth 100000 in
theorem w_Law_law {L : Nat} {xs : Nat → Int32} {bS : Nat} {ws : Nat} {r : Int32 × mM × Nat × Nat} (hX : va_X bS L xs s s.heap) (hbl : bS < s.heap.size) (hbA : ¬ mA z0 bS) (hZ : s.heap.size ≤ z0) (hr1 : r.1 = 1) (hrz : r.2.2.1 - s.heap.size ≤ 600000) (hrw : r.2.2.2 - ws ≤ 7302250) (X : mX p m meth c s #[Value.ref bS] code 4 (some .boolean) R_law) (G : mG D cA dA z0 s) {H : Heap} {locs : List Loc} {μ : mM} {z w : Nat} {ls : Array Slot}  (hw : ws ≤ w) (I : mI D cA z0 s μ H locs z) (hf : f_Law_law L xs μ z w = some r) (hl : lv_has ls 4 [(0, .ref bS)]) : W p l e room_1 s m #[Value.ref bS] below meth c H locs (z - s.heap.size) (w - ws) (lw_Z below #[Value.ref bS] s) (F0 m 0 ls []) := by
  have hx := X.ex
  have hb := X.by_
  unfold f_Law_law at hf
  obtain ⟨-, -, hz2, hw2, hf⟩ := mmT_e hf
  have hq : mq ws w z r.2.2.1 r.2.2.2 := ⟨hw, hz2, hw2⟩
  obtain ⟨m1, hv, hf⟩ := mbind hf
  obtain ⟨hz1, hw1, hz2, hw2, hf⟩ := mmT_e hf
  refine r_new (N := 11) (zr := s.heap.size + 600000) (wr := ws + 7302250) X G I hq.1 (Nat.add_sub_cancel_left _ _).symm (Nat.add_sub_cancel_left _ _).symm hv (by omega) (by omega) (C := "ColourLinker") (T := T_CL) rfl (by decide +kernel) k_91 k_92 k_75 d_Law_law_0 (fun H I => ?_)
  have hq := hq.up hw1 hz2 hw2
  refine lv_dup hx hb d_Law_law_3 (mrf_cat _) ?_
  obtain ⟨q2, hv, hf⟩ := mbind hf
  obtain ⟨hz1, hw1, hz2, hw2, hf⟩ := mmT_e hf
  have hrn := hq.rmN I hz1 hw1 hz2 hw2
  obtain ⟨a, ha, hv⟩ := mbind hv
  refine m_caNv (m_runI (As := []) (r := some z) (rest := [va_rf (some z)]) X h_CL_init k_93 (c_CL_init hv) mPn_blind (m_preN G I) ha rfl rfl hl.1 (Nat.le_of_ble_eq_true rfl) rfl rfl ⟨Nat.le_of_ble_eq_true rfl, Nat.le_of_ble_eq_true rfl⟩ ⟨Nat.le_trans hrn.1 hrz, Nat.le_trans hrn.2 hrw⟩ d_Law_law_4) I hq.1 hz1 hw1 (fun H locs I => ?_)
  have hq := hq.up hw1 hz2 hw2
  refine r_astore_n (i := 1) (lv' := [(1, va_rf (some z)), (0, .ref bS)]) X d_Law_law_7 rfl hl (by decide) rfl (fun ls hl => ?_)
  obtain ⟨m3, hv, hf⟩ := mbind hf
  obtain ⟨hz1, hw1, hz2, hw2, hf⟩ := mmT_e hf
  refine r_new (N := 21) (zr := s.heap.size + 600000) (wr := ws + 7302250) X G I hq.1 (Nat.add_sub_cancel_left _ _).symm (Nat.add_sub_cancel_left _ _).symm hv (by omega) (by omega) (C := "ColourLinkerModel") (T := T_Mo) rfl (by decide +kernel) k_828 k_829 k_79 d_Law_law_8 (fun H I => ?_)
  have hq := hq.up hw1 hz2 hw2
  refine lv_dup hx hb d_Law_law_11 (mrf_cat _) ?_
  obtain ⟨q4, hv, hf⟩ := mbind hf
  obtain ⟨hz1, hw1, hz2, hw2, hf⟩ := mmT_e hf
  have hrn := hq.rmN I hz1 hw1 hz2 hw2
  obtain ⟨a, ha, hv⟩ := mbind hv
  refine m_caNv (m_runI (As := []) (r := some q2.2.1) (rest := [va_rf (some q2.2.1)]) X h_Mo_init k_830 (c_Mo_init hv) mPn_blind (m_preN G I) ha rfl rfl hl.1 (Nat.le_of_ble_eq_true rfl) rfl rfl ⟨Nat.le_of_ble_eq_true rfl, Nat.le_of_ble_eq_true rfl⟩ ⟨Nat.le_trans hrn.1 hrz, Nat.le_trans hrn.2 hrw⟩ d_Law_law_12) I hq.1 hz1 hw1 (fun H locs I => ?_)
  have hq := hq.up hw1 hz2 hw2
  refine r_astore_n (i := 2) (lv' := [(2, va_rf (some q2.2.1)), (1, va_rf (some z)), (0, .ref bS)]) X d_Law_law_15 rfl hl (by decide) (by simp [mrf_cat]) (fun ls hl => ?_)
  refine lv_iconst (v := 0) hx hb d_Law_law_16 (by decide) ?_
  refine lv_istore_n (i := 3) (lv' := [(3, .int (0 : Int32)), (2, va_rf (some q2.2.1)), (1, va_rf (some z)), (0, .ref bS)]) hx hb d_Law_law_17 rfl hl (by decide) (by simp [mrf_cat]) (fun ls hl => ?_)
  exact w_Law_law_18 hX hbl hbA hZ hr1 hrz hrw X G (fun H locs μ z w ls hq I hf hl => w_Law_law_755 hX hbl hbA hZ hr1 hrz hrw X G hq I hf hl) 4096 _ _ _ _ _ _ _ _ _ hq I hf (lv_sub hl [3, 2, 1, 0] rfl)

end WK
