section WK
variable {p : Program} {l : Launch} {e : Env} {s : State} {m : MethodId} {args : Array Value} {below : List Frame} {meth : Method} {c : Code} {D : va_G} {cA : Nat → ClassId} {dA z0 : Nat}
abbrev rm_Buffer_isHeadByte : Room := { frames := 0, cells := 0, slots := 0, locals := 0 }
theorem h_Buffer_isHeadByte : mCV y_Buffer_isHeadByte b_Buffer_isHeadByte 3 (some .boolean) 2 := ⟨k_233, k_76, ⟨by decide, by decide, by decide +kernel⟩, k_232, k_1⟩
set_option maxHeartbeats 4000000 in
set_option maxRecDepth 100000 in
theorem w_Buffer_isHeadByte_122 {μ : mM} {h0 : Nat} {r : Int32} (X : mX p m meth c s args b_Buffer_isHeadByte 3 (some .boolean) "ColourLinker$Buffer") (G : mG D cA dA z0 s) (I : mI D cA z0 s μ s.heap [] s.heap.size) {ls : Array Slot} {s0 : Int32} (hf : f_Buffer_isHeadByte_122 μ h0 s0 = some r) (hl : lv_has ls 3 [(0, va_rf (some h0))]) : W p l e rm_Buffer_isHeadByte s m args below meth c s.heap [] 0 0 (MQ below (mQR (some (.int r))) args s 0 0 (fun _ => False)) (F0 m 122 ls [.int s0]) := by
  have hx := X.ex
  have hb := X.by_
  unfold f_Buffer_isHeadByte_122 at hf
  obtain ⟨v6, hv, hf⟩ := mbind hf
  obtain ⟨hz0, hz⟩ := mz_e hv
  rw [hz0] at hf
  obtain rfl := Option.some.inj hf
  exact r_zretR X hz d_Buffer_isHeadByte_122

set_option maxHeartbeats 4000000 in
set_option maxRecDepth 100000 in
theorem w_Buffer_isHeadByte_112 {μ : mM} {h0 : Nat} {r : Int32} (X : mX p m meth c s args b_Buffer_isHeadByte 3 (some .boolean) "ColourLinker$Buffer") (G : mG D cA dA z0 s) (I : mI D cA z0 s μ s.heap [] s.heap.size) {ls : Array Slot} {s0 : Int32} (hf : f_Buffer_isHeadByte_112 μ h0 s0 = some r) (hl : lv_has ls 3 [(0, va_rf (some h0))]) : W p l e rm_Buffer_isHeadByte s m args below meth c s.heap [] 0 0 (MQ below (mQR (some (.int r))) args s 0 0 (fun _ => False)) (F0 m 112 ls [.int s0]) := by
  have hx := X.ex
  have hb := X.by_
  unfold f_Buffer_isHeadByte_112 at hf
  obtain ⟨v5, hv, hf⟩ := mbind hf
  obtain ⟨hz0, hz⟩ := mz_e hv
  rw [hz0] at hf
  obtain rfl := Option.some.inj hf
  exact r_zretR X hz d_Buffer_isHeadByte_112

set_option maxHeartbeats 4000000 in
set_option maxRecDepth 100000 in
theorem w_Buffer_isHeadByte_111 {μ : mM} {h0 : Nat} {r : Int32} (X : mX p m meth c s args b_Buffer_isHeadByte 3 (some .boolean) "ColourLinker$Buffer") (G : mG D cA dA z0 s) (I : mI D cA z0 s μ s.heap [] s.heap.size) {ls : Array Slot}  (hf : f_Buffer_isHeadByte_111 μ h0 = some r) (hl : lv_has ls 3 [(0, va_rf (some h0))]) : W p l e rm_Buffer_isHeadByte s m args below meth c s.heap [] 0 0 (MQ below (mQR (some (.int r))) args s 0 0 (fun _ => False)) (F0 m 111 ls []) := by
  have hx := X.ex
  have hb := X.by_
  unfold f_Buffer_isHeadByte_111 at hf
  refine lv_iconst (v := 0) hx hb d_Buffer_isHeadByte_111 (by decide) ?_
  exact w_Buffer_isHeadByte_112 X G I hf hl

set_option maxHeartbeats 4000000 in
set_option maxRecDepth 100000 in
theorem w_Buffer_isHeadByte_82 {μ : mM} {h0 : Nat} {r : Int32} (X : mX p m meth c s args b_Buffer_isHeadByte 3 (some .boolean) "ColourLinker$Buffer") (G : mG D cA dA z0 s) (I : mI D cA z0 s μ s.heap [] s.heap.size) {ls : Array Slot} {s0 : Int32} (hf : f_Buffer_isHeadByte_82 μ h0 s0 = some r) (hl : lv_has ls 3 [(0, va_rf (some h0))]) : W p l e rm_Buffer_isHeadByte s m args below meth c s.heap [] 0 0 (MQ below (mQR (some (.int r))) args s 0 0 (fun _ => False)) (F0 m 82 ls [.int s0]) := by
  have hx := X.ex
  have hb := X.by_
  unfold f_Buffer_isHeadByte_82 at hf
  obtain ⟨v4, hv, hf⟩ := mbind hf
  obtain ⟨hz0, hz⟩ := mz_e hv
  rw [hz0] at hf
  obtain rfl := Option.some.inj hf
  exact r_zretR X hz d_Buffer_isHeadByte_82

set_option maxHeartbeats 4000000 in
set_option maxRecDepth 100000 in
theorem w_Buffer_isHeadByte_77 {μ : mM} {h0 : Nat} {r : Int32} (X : mX p m meth c s args b_Buffer_isHeadByte 3 (some .boolean) "ColourLinker$Buffer") (G : mG D cA dA z0 s) (I : mI D cA z0 s μ s.heap [] s.heap.size) {ls : Array Slot}  (hf : f_Buffer_isHeadByte_77 μ h0 = some r) (hl : lv_has ls 3 [(0, va_rf (some h0))]) : W p l e rm_Buffer_isHeadByte s m args below meth c s.heap [] 0 0 (MQ below (mQR (some (.int r))) args s 0 0 (fun _ => False)) (F0 m 77 ls []) := by
  have hx := X.ex
  have hb := X.by_
  unfold f_Buffer_isHeadByte_77 at hf
  refine lv_iconst (v := 1) hx hb d_Buffer_isHeadByte_77 (by decide) ?_
  refine lv_goto (tgt := 82) hx hb d_Buffer_isHeadByte_78 (by decide) ?_
  exact w_Buffer_isHeadByte_82 X G I hf hl

set_option maxHeartbeats 4000000 in
set_option maxRecDepth 100000 in
theorem w_Buffer_isHeadByte_67 {μ : mM} {h0 : Nat} {r : Int32} (X : mX p m meth c s args b_Buffer_isHeadByte 3 (some .boolean) "ColourLinker$Buffer") (G : mG D cA dA z0 s) (I : mI D cA z0 s μ s.heap [] s.heap.size) {ls : Array Slot} {s0 : Int32} (hf : f_Buffer_isHeadByte_67 μ h0 s0 = some r) (hl : lv_has ls 3 [(0, va_rf (some h0))]) : W p l e rm_Buffer_isHeadByte s m args below meth c s.heap [] 0 0 (MQ below (mQR (some (.int r))) args s 0 0 (fun _ => False)) (F0 m 67 ls [.int s0]) := by
  have hx := X.ex
  have hb := X.by_
  unfold f_Buffer_isHeadByte_67 at hf
  obtain ⟨v3, hv, hf⟩ := mbind hf
  obtain ⟨hz0, hz⟩ := mz_e hv
  rw [hz0] at hf
  obtain rfl := Option.some.inj hf
  exact r_zretR X hz d_Buffer_isHeadByte_67

set_option maxHeartbeats 4000000 in
set_option maxRecDepth 100000 in
theorem w_Buffer_isHeadByte_62 {μ : mM} {h0 : Nat} {r : Int32} (X : mX p m meth c s args b_Buffer_isHeadByte 3 (some .boolean) "ColourLinker$Buffer") (G : mG D cA dA z0 s) (I : mI D cA z0 s μ s.heap [] s.heap.size) {ls : Array Slot}  (hf : f_Buffer_isHeadByte_62 μ h0 = some r) (hl : lv_has ls 3 [(0, va_rf (some h0))]) : W p l e rm_Buffer_isHeadByte s m args below meth c s.heap [] 0 0 (MQ below (mQR (some (.int r))) args s 0 0 (fun _ => False)) (F0 m 62 ls []) := by
  have hx := X.ex
  have hb := X.by_
  unfold f_Buffer_isHeadByte_62 at hf
  refine lv_iconst (v := 1) hx hb d_Buffer_isHeadByte_62 (by decide) ?_
  refine lv_goto (tgt := 67) hx hb d_Buffer_isHeadByte_63 (by decide) ?_
  exact w_Buffer_isHeadByte_67 X G I hf hl

set_option maxHeartbeats 4000000 in
set_option maxRecDepth 100000 in
theorem w_Buffer_isHeadByte_51 {μ : mM} {h0 : Nat} {r : Int32} (X : mX p m meth c s args b_Buffer_isHeadByte 3 (some .boolean) "ColourLinker$Buffer") (G : mG D cA dA z0 s) (I : mI D cA z0 s μ s.heap [] s.heap.size) {ls : Array Slot} {s0 : Int32} (hf : f_Buffer_isHeadByte_51 μ h0 s0 = some r) (hl : lv_has ls 3 [(0, va_rf (some h0))]) : W p l e rm_Buffer_isHeadByte s m args below meth c s.heap [] 0 0 (MQ below (mQR (some (.int r))) args s 0 0 (fun _ => False)) (F0 m 51 ls [.int s0]) := by
  have hx := X.ex
  have hb := X.by_
  unfold f_Buffer_isHeadByte_51 at hf
  obtain ⟨v2, hv, hf⟩ := mbind hf
  obtain ⟨hz0, hz⟩ := mz_e hv
  rw [hz0] at hf
  obtain rfl := Option.some.inj hf
  exact r_zretR X hz d_Buffer_isHeadByte_51

set_option maxHeartbeats 4000000 in
set_option maxRecDepth 100000 in
theorem w_Buffer_isHeadByte_46 {μ : mM} {h0 : Nat} {r : Int32} (X : mX p m meth c s args b_Buffer_isHeadByte 3 (some .boolean) "ColourLinker$Buffer") (G : mG D cA dA z0 s) (I : mI D cA z0 s μ s.heap [] s.heap.size) {ls : Array Slot}  (hf : f_Buffer_isHeadByte_46 μ h0 = some r) (hl : lv_has ls 3 [(0, va_rf (some h0))]) : W p l e rm_Buffer_isHeadByte s m args below meth c s.heap [] 0 0 (MQ below (mQR (some (.int r))) args s 0 0 (fun _ => False)) (F0 m 46 ls []) := by
  have hx := X.ex
  have hb := X.by_
  unfold f_Buffer_isHeadByte_46 at hf
  refine lv_iconst (v := 1) hx hb d_Buffer_isHeadByte_46 (by decide) ?_
  refine lv_goto (tgt := 51) hx hb d_Buffer_isHeadByte_47 (by decide) ?_
  exact w_Buffer_isHeadByte_51 X G I hf hl

set_option maxHeartbeats 4000000 in
set_option maxRecDepth 100000 in
theorem w_Buffer_isHeadByte {μ : mM} {h0 : Nat} {r : Int32} (X : mX p m meth c s args b_Buffer_isHeadByte 3 (some .boolean) "ColourLinker$Buffer") (G : mG D cA dA z0 s) (I : mI D cA z0 s μ s.heap [] s.heap.size) {ls : Array Slot} {x1 : Int32} {x2 : Int32} (hf : f_Buffer_isHeadByte μ h0 x1 x2 = some r) (hl : lv_has ls 3 [(0, va_rf (some h0)), (1, .int x1), (2, .int x2)]) : W p l e rm_Buffer_isHeadByte s m args below meth c s.heap [] 0 0 (MQ below (mQR (some (.int r))) args s 0 0 (fun _ => False)) (F0 m 0 ls []) := by
  have hx := X.ex
  have hb := X.by_
  unfold f_Buffer_isHeadByte at hf
  refine lv_iload_n hx hb d_Buffer_isHeadByte_0 rfl (lv_at hl 1 rfl) ?_
  by_cases hc2 : x1 = 2
  · have hf := mift hf hc2
    refine lv_tableIn (tgt := 36) (x := x1) hx hb d_Buffer_isHeadByte_1 (by rw [hc2]; decide) (by rw [hc2]; decide) (by rw [hc2]; rfl) (by decide) ?_
    refine lv_iload_n hx hb d_Buffer_isHeadByte_36 rfl (lv_at hl 2 rfl) ?_
    refine lv_iconst (v := 1) hx hb d_Buffer_isHeadByte_37 (by decide) ?_
    refine lv_icmp_eq (tgt := 46) hx hb d_Buffer_isHeadByte_38 (by decide) (fun hc => ?_) (fun hc => ?_)
    · have hf := mift hf hc
      exact w_Buffer_isHeadByte_46 X G I hf (lv_sub hl [0] rfl)
    · have hf := miff hf hc
      refine lv_iload_n hx hb d_Buffer_isHeadByte_41 rfl (lv_at hl 2 rfl) ?_
      refine lv_iconst (v := 2) hx hb d_Buffer_isHeadByte_42 (by decide) ?_
      refine lv_icmp_ne (tgt := 50) hx hb d_Buffer_isHeadByte_43 (by decide) (fun hc => ?_) (fun hc => ?_)
      · have hf := miff hf hc
        refine lv_iconst (v := 0) hx hb d_Buffer_isHeadByte_50 (by decide) ?_
        exact w_Buffer_isHeadByte_51 X G I hf (lv_sub hl [0] rfl)
      · have hf := mift hf hc
        exact w_Buffer_isHeadByte_46 X G I hf (lv_sub hl [0] rfl)
  have hf := miff hf hc2
  by_cases hc3 : x1 = 3
  · have hf := mift hf hc3
    refine lv_tableIn (tgt := 52) (x := x1) hx hb d_Buffer_isHeadByte_1 (by rw [hc3]; decide) (by rw [hc3]; decide) (by rw [hc3]; rfl) (by decide) ?_
    refine lv_iload_n hx hb d_Buffer_isHeadByte_52 rfl (lv_at hl 2 rfl) ?_
    refine lv_iconst (v := 1) hx hb d_Buffer_isHeadByte_53 (by decide) ?_
    refine lv_icmp_eq (tgt := 62) hx hb d_Buffer_isHeadByte_54 (by decide) (fun hc => ?_) (fun hc => ?_)
    · have hf := mift hf hc
      exact w_Buffer_isHeadByte_62 X G I hf (lv_sub hl [0] rfl)
    · have hf := miff hf hc
      refine lv_iload_n hx hb d_Buffer_isHeadByte_57 rfl (lv_at hl 2 rfl) ?_
      refine lv_iconst (v := 3) hx hb d_Buffer_isHeadByte_58 (by decide) ?_
      refine lv_icmp_ne (tgt := 66) hx hb d_Buffer_isHeadByte_59 (by decide) (fun hc => ?_) (fun hc => ?_)
      · have hf := miff hf hc
        refine lv_iconst (v := 0) hx hb d_Buffer_isHeadByte_66 (by decide) ?_
        exact w_Buffer_isHeadByte_67 X G I hf (lv_sub hl [0] rfl)
      · have hf := mift hf hc
        exact w_Buffer_isHeadByte_62 X G I hf (lv_sub hl [0] rfl)
  have hf := miff hf hc3
  by_cases hc4 : x1 = 4
  · have hf := mift hf hc4
    refine lv_tableIn (tgt := 68) (x := x1) hx hb d_Buffer_isHeadByte_1 (by rw [hc4]; decide) (by rw [hc4]; decide) (by rw [hc4]; rfl) (by decide) ?_
    refine lv_iload_n hx hb d_Buffer_isHeadByte_68 rfl (lv_at hl 2 rfl) ?_
    refine lv_if_eq (tgt := 77) hx hb d_Buffer_isHeadByte_69 (by decide) (fun hc => ?_) (fun hc => ?_)
    · have hf := mift hf hc
      exact w_Buffer_isHeadByte_77 X G I hf (lv_sub hl [0] rfl)
    · have hf := miff hf hc
      refine lv_iload_n hx hb d_Buffer_isHeadByte_72 rfl (lv_at hl 2 rfl) ?_
      refine lv_iconst (v := 1) hx hb d_Buffer_isHeadByte_73 (by decide) ?_
      refine lv_icmp_ne (tgt := 81) hx hb d_Buffer_isHeadByte_74 (by decide) (fun hc => ?_) (fun hc => ?_)
      · have hf := miff hf hc
        refine lv_iconst (v := 0) hx hb d_Buffer_isHeadByte_81 (by decide) ?_
        exact w_Buffer_isHeadByte_82 X G I hf (lv_sub hl [0] rfl)
      · have hf := mift hf hc
        exact w_Buffer_isHeadByte_77 X G I hf (lv_sub hl [0] rfl)
  have hf := miff hf hc4
  by_cases hc5 : x1 = 5
  · have hf := mift hf hc5
    refine lv_tableIn (tgt := 113) (x := x1) hx hb d_Buffer_isHeadByte_1 (by rw [hc5]; decide) (by rw [hc5]; decide) (by rw [hc5]; rfl) (by decide) ?_
    refine lv_iload_n hx hb d_Buffer_isHeadByte_113 rfl (lv_at hl 2 rfl) ?_
    refine lv_if_ne (tgt := 121) hx hb d_Buffer_isHeadByte_114 (by decide) (fun hc => ?_) (fun hc => ?_)
    · have hf := miff hf hc
      refine lv_iconst (v := 0) hx hb d_Buffer_isHeadByte_121 (by decide) ?_
      exact w_Buffer_isHeadByte_122 X G I hf (lv_sub hl [0] rfl)
    · have hf := mift hf hc
      refine lv_iconst (v := 1) hx hb d_Buffer_isHeadByte_117 (by decide) ?_
      refine lv_goto (tgt := 122) hx hb d_Buffer_isHeadByte_118 (by decide) ?_
      exact w_Buffer_isHeadByte_122 X G I hf (lv_sub hl [0] rfl)
  have hf := miff hf hc5
  by_cases hc6 : x1 = 6
  · have hf := mift hf hc6
    refine lv_tableIn (tgt := 83) (x := x1) hx hb d_Buffer_isHeadByte_1 (by rw [hc6]; decide) (by rw [hc6]; decide) (by rw [hc6]; rfl) (by decide) ?_
    refine lv_iload_n hx hb d_Buffer_isHeadByte_83 rfl (lv_at hl 2 rfl) ?_
    refine lv_iconst (v := 1) hx hb d_Buffer_isHeadByte_84 (by decide) ?_
    refine lv_icmp_lt (tgt := 111) hx hb d_Buffer_isHeadByte_85 (by decide) (fun hc => ?_) (fun hc => ?_)
    · have hf := mift hf hc
      exact w_Buffer_isHeadByte_111 X G I hf (lv_sub hl [0] rfl)
    · have hf := miff hf hc
      refine lv_iload_n hx hb d_Buffer_isHeadByte_88 rfl (lv_at hl 2 rfl) ?_
      refine lv_bipush (v := 12) hx hb d_Buffer_isHeadByte_89 (by decide) ?_
      refine lv_icmp_gt (tgt := 111) hx hb d_Buffer_isHeadByte_91 (by decide) (fun hc => ?_) (fun hc => ?_)
      · have hf := mift hf hc
        exact w_Buffer_isHeadByte_111 X G I hf (lv_sub hl [0] rfl)
      · have hf := miff hf hc
        refine lv_bipush (v := 8) hx hb d_Buffer_isHeadByte_94 (by decide) ?_
        refine lv_iconst (v := 4) hx hb d_Buffer_isHeadByte_96 (by decide) ?_
        refine lv_iload_n hx hb d_Buffer_isHeadByte_97 rfl (lv_at hl 2 rfl) ?_
        refine lv_imul hx hb d_Buffer_isHeadByte_98 ?_
        refine lv_iadd hx hb d_Buffer_isHeadByte_99 ?_
        refine r_aload_n X d_Buffer_isHeadByte_100 rfl (lv_at hl 0 rfl) ?_
        obtain ⟨v1, hv, hf⟩ := mbind hf
        refine r_getf X G I (mfI_e hv) o_Buffer_count k_106 (Or.inl rfl) d_Buffer_isHeadByte_101 ?_
        refine lv_icmp_gt (tgt := 111) hx hb d_Buffer_isHeadByte_104 (by decide) (fun hc => ?_) (fun hc => ?_)
        · have hf := mift hf hc
          exact w_Buffer_isHeadByte_111 X G I hf (lv_sub hl [0] rfl)
        · have hf := miff hf hc
          refine lv_iconst (v := 1) hx hb d_Buffer_isHeadByte_107 (by decide) ?_
          refine lv_goto (tgt := 112) hx hb d_Buffer_isHeadByte_108 (by decide) ?_
          exact w_Buffer_isHeadByte_112 X G I hf (lv_sub hl [0] rfl)
  have hf := miff hf hc6
  have hn2 := lv_neT hc2 (a := 2) (by decide)
  have hn3 := lv_neT hc3 (a := 3) (by decide)
  have hn4 := lv_neT hc4 (a := 4) (by decide)
  have hn5 := lv_neT hc5 (a := 5) (by decide)
  have hn6 := lv_neT hc6 (a := 6) (by decide)
  refine lv_tableOut (tgt := 113) (x := x1) hx hb d_Buffer_isHeadByte_1 (by omega) (by decide) ?_
  refine lv_iload_n hx hb d_Buffer_isHeadByte_113 rfl (lv_at hl 2 rfl) ?_
  refine lv_if_ne (tgt := 121) hx hb d_Buffer_isHeadByte_114 (by decide) (fun hc => ?_) (fun hc => ?_)
  · have hf := miff hf hc
    refine lv_iconst (v := 0) hx hb d_Buffer_isHeadByte_121 (by decide) ?_
    exact w_Buffer_isHeadByte_122 X G I hf (lv_sub hl [0] rfl)
  · have hf := mift hf hc
    refine lv_iconst (v := 1) hx hb d_Buffer_isHeadByte_117 (by decide) ?_
    refine lv_goto (tgt := 122) hx hb d_Buffer_isHeadByte_118 (by decide) ?_
    exact w_Buffer_isHeadByte_122 X G I hf (lv_sub hl [0] rfl)

set_option maxHeartbeats 4000000 in
set_option maxRecDepth 100000 in
theorem c_Buffer_isHeadByte {l : Launch} {D : va_G} {cA : Nat → ClassId} {dA z0 : Nat} {μ : mM} {h0 : Nat} {x1 : Int32} {x2 : Int32} {r : Int32} (hf : f_Buffer_isHeadByte μ h0 x1 x2 = some r) : Met l y_Buffer_isHeadByte (mW y_Buffer_isHeadByte b_Buffer_isHeadByte 3 (some .boolean)) rm_Buffer_isHeadByte (va_Pc [.ref h0, .int x1, .int x2] (mPr D cA dA z0 μ)) (mQR (some (.int r))) 0 0 (fun _ => False) := by
  refine Met.ofW (cc := b_Buffer_isHeadByte) (maxL := 3) (ret := (some .boolean)) (by decide) rfl ?_
  intro p e s m args below meth c s₁ B hml hv
  obtain ⟨rfl, G, hP⟩ := hv
  have X := mX.of B hml
  exact m_entry (lv := [(0, va_rf (some h0)), (1, .int x1), (2, .int x2)]) (Nat.le_of_ble_eq_true rfl) rfl (fun ls hl => w_Buffer_isHeadByte X G (mI.start hP) hf hl)

abbrev rm_Buffer_headFault : Room := { frames := 1, cells := 0, slots := 0, locals := 22 }
theorem h_Buffer_headFault : mCV y_Buffer_headFault b_Buffer_headFault 2 (some .int) 0 := ⟨k_229, k_76, ⟨by decide, by decide, by decide +kernel⟩, k_228, k_0⟩
set_option maxHeartbeats 4000000 in
set_option maxRecDepth 100000 in
theorem w_Buffer_headFault_34 {μ : mM} {h0 : Nat} {r : Int32} (X : mX p m meth c s args b_Buffer_headFault 2 (some .int) "ColourLinker$Buffer") (G : mG D cA dA z0 s) (I : mI D cA z0 s μ s.heap [] s.heap.size) {ls : Array Slot}  (hf : f_Buffer_headFault_34 μ h0 = some r) (hl : lv_has ls 2 [(0, va_rf (some h0))]) : W p l e rm_Buffer_headFault s m args below meth c s.heap [] 0 0 (MQ below (mQR (some (.int r))) args s 0 0 (fun _ => False)) (F0 m 34 ls []) := by
  have hx := X.ex
  have hb := X.by_
  unfold f_Buffer_headFault_34 at hf
  refine lv_iconst (v := 0) hx hb d_Buffer_headFault_34 (by decide) ?_
  obtain rfl := Option.some.inj hf
  exact r_iretR X d_Buffer_headFault_35

set_option maxHeartbeats 4000000 in
set_option maxRecDepth 100000 in
theorem w_Buffer_headFault_2 {μ : mM} {h0 : Nat} {r : Int32} (X : mX p m meth c s args b_Buffer_headFault 2 (some .int) "ColourLinker$Buffer") (G : mG D cA dA z0 s) (I : mI D cA z0 s μ s.heap [] s.heap.size) {kx34 : Unit → Option (Int32)} (hkx34 : ∀ (ls : Array Slot), kx34 () = some r → lv_has ls 2 [(0, va_rf (some h0))] → W p l e rm_Buffer_headFault s m args below meth c s.heap [] 0 0 (MQ below (mQR (some (.int r))) args s 0 0 (fun _ => False)) (F0 m 34 ls [])) : ∀ (n : Nat) (ls : Array Slot) (x1 : Int32), f_Buffer_headFault_2 μ h0 kx34 n x1 = some r → lv_has ls 2 [(0, va_rf (some h0)), (1, .int x1)] → W p l e rm_Buffer_headFault s m args below meth c s.heap [] 0 0 (MQ below (mQR (some (.int r))) args s 0 0 (fun _ => False)) (F0 m 2 ls []) := by
  have hx := X.ex
  have hb := X.by_
  intro n
  induction n with
  | zero => intro ls x1 hf hl; rw [f_Buffer_headFault_2] at hf; cases hf
  | succ n ih =>
    intro ls x1 hf hl
    rw [f_Buffer_headFault_2] at hf
    refine lv_iload_n hx hb d_Buffer_headFault_2 rfl (lv_at hl 1 rfl) ?_
    refine lv_bipush (v := 8) hx hb d_Buffer_headFault_3 (by decide) ?_
    refine lv_icmp_ge (tgt := 34) hx hb d_Buffer_headFault_5 (by decide) (fun hc => ?_) (fun hc => ?_)
    · have hf := mift hf hc
      exact hkx34 _ hf (lv_sub hl [0] rfl)
    · have hf := miff hf hc
      refine r_aload_n X d_Buffer_headFault_8 rfl (lv_at hl 0 rfl) ?_
      refine lv_iload_n hx hb d_Buffer_headFault_9 rfl (lv_at hl 1 rfl) ?_
      refine r_aload_n X d_Buffer_headFault_10 rfl (lv_at hl 0 rfl) ?_
      obtain ⟨v1, hv, hf⟩ := mbind hf
      refine r_getf X G I (mfA_e hv) o_Buffer_row k_105 (Or.inl rfl) d_Buffer_headFault_11 ?_
      refine lv_iload_n hx hb d_Buffer_headFault_14 rfl (lv_at hl 1 rfl) ?_
      obtain ⟨v2, hv, hf⟩ := mbind hf
      refine r_iald X G I hv d_Buffer_headFault_15 ?_
      obtain ⟨q3, hv, hf⟩ := mbind hf
      obtain ⟨a, ha, hv⟩ := mbind hv
      obtain ⟨ha, fs, hm⟩ := mrc_e ha
      refine m_caR (m_runV (As := [.int x1, .int v2]) (r := some h0) (rest := []) X G I h_Buffer_isHeadByte k_230 (c_Buffer_isHeadByte hv) mPr_blind (m_pre G I) hm rfl ha rfl rfl hl.1 (Nat.le_of_ble_eq_true rfl) rfl rfl ⟨Nat.le_of_ble_eq_true rfl, Nat.le_of_ble_eq_true rfl⟩ ⟨Nat.le_refl _, Nat.le_refl _⟩ d_Buffer_headFault_16) ?_
      refine lv_if_ne (tgt := 28) hx hb d_Buffer_headFault_19 (by decide) (fun hc => ?_) (fun hc => ?_)
      · have hf := miff hf hc
        refine lv_iinc (i := 1) (k := 1) (v := (x1 + (1 : Int32))) (lv' := [(1, .int (x1 + (1 : Int32))), (0, va_rf (some h0))]) hx hb d_Buffer_headFault_28 hl rfl (congrArg (fun t => x1 + t) (by decide : Int32.ofInt (1) = (1 : Int32))) (by decide) (by simp [mrf_cat]) (fun ls hl => ?_)
        refine lv_goto (tgt := 2) hx hb d_Buffer_headFault_31 (by decide) ?_
        exact ih _ _ hf (lv_sub hl [1, 0] rfl)
      · have hf := mift hf hc
        refine lv_iconst (v := 2) hx hb d_Buffer_headFault_22 (by decide) ?_
        refine lv_iload_n hx hb d_Buffer_headFault_23 rfl (lv_at hl 1 rfl) ?_
        obtain ⟨q4, hv, hf⟩ := mbind hf
        refine m_caR (m_runS (As := [.int (2 : Int32), .int x1]) (rest := []) X h_Buffer_broken k_223 (c_Buffer_broken hv) mPr_blind (m_pre G I) rfl rfl hl.1 (Nat.le_of_ble_eq_true rfl) rfl rfl ⟨Nat.le_of_ble_eq_true rfl, Nat.le_of_ble_eq_true rfl⟩ ⟨Nat.le_refl _, Nat.le_refl _⟩ d_Buffer_headFault_24) ?_
        obtain rfl := Option.some.inj hf
        exact r_iretR X d_Buffer_headFault_27

set_option maxHeartbeats 4000000 in
set_option maxRecDepth 100000 in
theorem w_Buffer_headFault {μ : mM} {h0 : Nat} {r : Int32} (X : mX p m meth c s args b_Buffer_headFault 2 (some .int) "ColourLinker$Buffer") (G : mG D cA dA z0 s) (I : mI D cA z0 s μ s.heap [] s.heap.size) {ls : Array Slot}  (hf : f_Buffer_headFault μ h0 = some r) (hl : lv_has ls 2 [(0, va_rf (some h0))]) : W p l e rm_Buffer_headFault s m args below meth c s.heap [] 0 0 (MQ below (mQR (some (.int r))) args s 0 0 (fun _ => False)) (F0 m 0 ls []) := by
  have hx := X.ex
  have hb := X.by_
  unfold f_Buffer_headFault at hf
  refine lv_iconst (v := 2) hx hb d_Buffer_headFault_0 (by decide) ?_
  refine lv_istore_n (i := 1) (lv' := [(1, .int (2 : Int32)), (0, va_rf (some h0))]) hx hb d_Buffer_headFault_1 rfl hl (by decide) (by simp [mrf_cat]) (fun ls hl => ?_)
  exact w_Buffer_headFault_2 X G I (fun ls hf hl => w_Buffer_headFault_34 X G I hf hl) 4096 _ _ hf (lv_sub hl [1, 0] rfl)

set_option maxHeartbeats 4000000 in
set_option maxRecDepth 100000 in
theorem c_Buffer_headFault {l : Launch} {D : va_G} {cA : Nat → ClassId} {dA z0 : Nat} {μ : mM} {h0 : Nat} {r : Int32} (hf : f_Buffer_headFault μ h0 = some r) : Met l y_Buffer_headFault (mW y_Buffer_headFault b_Buffer_headFault 2 (some .int)) rm_Buffer_headFault (va_Pc [.ref h0] (mPr D cA dA z0 μ)) (mQR (some (.int r))) 0 0 (fun _ => False) := by
  refine Met.ofW (cc := b_Buffer_headFault) (maxL := 2) (ret := (some .int)) (by decide) rfl ?_
  intro p e s m args below meth c s₁ B hml hv
  obtain ⟨rfl, G, hP⟩ := hv
  have X := mX.of B hml
  exact m_entry (lv := [(0, va_rf (some h0))]) (Nat.le_of_ble_eq_true rfl) rfl (fun ls hl => w_Buffer_headFault X G (mI.start hP) hf hl)

abbrev rm_Buffer_hasEntry : Room := { frames := 0, cells := 0, slots := 0, locals := 0 }
theorem h_Buffer_hasEntry : mCV y_Buffer_hasEntry b_Buffer_hasEntry 4 (some .boolean) 2 := ⟨k_241, k_76, ⟨by decide, by decide, by decide +kernel⟩, k_240, k_3⟩
set_option maxHeartbeats 4000000 in
set_option maxRecDepth 100000 in
theorem w_Buffer_hasEntry_30 {μ : mM} {h0 : Nat} {r : Int32} (X : mX p m meth c s args b_Buffer_hasEntry 4 (some .boolean) "ColourLinker$Buffer") (G : mG D cA dA z0 s) (I : mI D cA z0 s μ s.heap [] s.heap.size) {ls : Array Slot}  (hf : f_Buffer_hasEntry_30 μ h0 = some r) (hl : lv_has ls 4 [(0, va_rf (some h0))]) : W p l e rm_Buffer_hasEntry s m args below meth c s.heap [] 0 0 (MQ below (mQR (some (.int r))) args s 0 0 (fun _ => False)) (F0 m 30 ls []) := by
  have hx := X.ex
  have hb := X.by_
  unfold f_Buffer_hasEntry_30 at hf
  refine lv_iconst (v := 0) hx hb d_Buffer_hasEntry_30 (by decide) ?_
  obtain rfl := Option.some.inj hf
  exact r_zretR X (Or.inl rfl) d_Buffer_hasEntry_31

set_option maxHeartbeats 4000000 in
set_option maxRecDepth 100000 in
theorem w_Buffer_hasEntry_2 {μ : mM} {h0 : Nat} {r : Int32} (X : mX p m meth c s args b_Buffer_hasEntry 4 (some .boolean) "ColourLinker$Buffer") (G : mG D cA dA z0 s) (I : mI D cA z0 s μ s.heap [] s.heap.size) {kx30 : Unit → Option (Int32)} (hkx30 : ∀ (ls : Array Slot), kx30 () = some r → lv_has ls 4 [(0, va_rf (some h0))] → W p l e rm_Buffer_hasEntry s m args below meth c s.heap [] 0 0 (MQ below (mQR (some (.int r))) args s 0 0 (fun _ => False)) (F0 m 30 ls [])) : ∀ (n : Nat) (ls : Array Slot) (x1 : Int32) (x2 : Int32) (x3 : Int32), f_Buffer_hasEntry_2 μ h0 kx30 n x1 x2 x3 = some r → lv_has ls 4 [(0, va_rf (some h0)), (1, .int x1), (2, .int x2), (3, .int x3)] → W p l e rm_Buffer_hasEntry s m args below meth c s.heap [] 0 0 (MQ below (mQR (some (.int r))) args s 0 0 (fun _ => False)) (F0 m 2 ls []) := by
  have hx := X.ex
  have hb := X.by_
  intro n
  induction n with
  | zero => intro ls x1 x2 x3 hf hl; rw [f_Buffer_hasEntry_2] at hf; cases hf
  | succ n ih =>
    intro ls x1 x2 x3 hf hl
    rw [f_Buffer_hasEntry_2] at hf
    refine lv_iload_n hx hb d_Buffer_hasEntry_2 rfl (lv_at hl 3 rfl) ?_
    refine lv_iload_n hx hb d_Buffer_hasEntry_3 rfl (lv_at hl 2 rfl) ?_
    refine lv_icmp_ge (tgt := 30) hx hb d_Buffer_hasEntry_4 (by decide) (fun hc => ?_) (fun hc => ?_)
    · have hf := mift hf hc
      exact hkx30 _ hf (lv_sub hl [0] rfl)
    · have hf := miff hf hc
      refine r_aload_n X d_Buffer_hasEntry_7 rfl (lv_at hl 0 rfl) ?_
      obtain ⟨v1, hv, hf⟩ := mbind hf
      refine r_getf X G I (mfA_e hv) o_Buffer_row k_105 (Or.inl rfl) d_Buffer_hasEntry_8 ?_
      refine lv_bipush (v := 8) hx hb d_Buffer_hasEntry_11 (by decide) ?_
      refine lv_iconst (v := 4) hx hb d_Buffer_hasEntry_13 (by decide) ?_
      refine lv_iload_n hx hb d_Buffer_hasEntry_14 rfl (lv_at hl 3 rfl) ?_
      refine lv_imul hx hb d_Buffer_hasEntry_15 ?_
      refine lv_iadd hx hb d_Buffer_hasEntry_16 ?_
      obtain ⟨v2, hv, hf⟩ := mbind hf
      refine r_iald X G I hv d_Buffer_hasEntry_17 ?_
      refine lv_iload_n hx hb d_Buffer_hasEntry_18 rfl (lv_at hl 1 rfl) ?_
      refine lv_icmp_ne (tgt := 24) hx hb d_Buffer_hasEntry_19 (by decide) (fun hc => ?_) (fun hc => ?_)
      · have hf := miff hf hc
        refine lv_iinc (i := 3) (k := 3) (v := (x3 + (1 : Int32))) (lv' := [(3, .int (x3 + (1 : Int32))), (0, va_rf (some h0)), (1, .int x1), (2, .int x2)]) hx hb d_Buffer_hasEntry_24 hl rfl (congrArg (fun t => x3 + t) (by decide : Int32.ofInt (1) = (1 : Int32))) (by decide) rfl (fun ls hl => ?_)
        refine lv_goto (tgt := 2) hx hb d_Buffer_hasEntry_27 (by decide) ?_
        exact ih _ _ _ _ hf (lv_sub hl [1, 2, 3, 0] rfl)
      · have hf := mift hf hc
        refine lv_iconst (v := 1) hx hb d_Buffer_hasEntry_22 (by decide) ?_
        obtain rfl := Option.some.inj hf
        exact r_zretR X (Or.inr rfl) d_Buffer_hasEntry_23

set_option maxHeartbeats 4000000 in
set_option maxRecDepth 100000 in
theorem w_Buffer_hasEntry {μ : mM} {h0 : Nat} {r : Int32} (X : mX p m meth c s args b_Buffer_hasEntry 4 (some .boolean) "ColourLinker$Buffer") (G : mG D cA dA z0 s) (I : mI D cA z0 s μ s.heap [] s.heap.size) {ls : Array Slot} {x1 : Int32} {x2 : Int32} (hf : f_Buffer_hasEntry μ h0 x1 x2 = some r) (hl : lv_has ls 4 [(0, va_rf (some h0)), (1, .int x1), (2, .int x2)]) : W p l e rm_Buffer_hasEntry s m args below meth c s.heap [] 0 0 (MQ below (mQR (some (.int r))) args s 0 0 (fun _ => False)) (F0 m 0 ls []) := by
  have hx := X.ex
  have hb := X.by_
  unfold f_Buffer_hasEntry at hf
  refine lv_iconst (v := 0) hx hb d_Buffer_hasEntry_0 (by decide) ?_
  refine lv_istore_n (i := 3) (lv' := [(3, .int (0 : Int32)), (0, va_rf (some h0)), (1, .int x1), (2, .int x2)]) hx hb d_Buffer_hasEntry_1 rfl hl (by decide) rfl (fun ls hl => ?_)
  exact w_Buffer_hasEntry_2 X G I (fun ls hf hl => w_Buffer_hasEntry_30 X G I hf hl) 4096 _ _ _ _ hf (lv_sub hl [1, 2, 3, 0] rfl)

set_option maxHeartbeats 4000000 in
set_option maxRecDepth 100000 in
theorem c_Buffer_hasEntry {l : Launch} {D : va_G} {cA : Nat → ClassId} {dA z0 : Nat} {μ : mM} {h0 : Nat} {x1 : Int32} {x2 : Int32} {r : Int32} (hf : f_Buffer_hasEntry μ h0 x1 x2 = some r) : Met l y_Buffer_hasEntry (mW y_Buffer_hasEntry b_Buffer_hasEntry 4 (some .boolean)) rm_Buffer_hasEntry (va_Pc [.ref h0, .int x1, .int x2] (mPr D cA dA z0 μ)) (mQR (some (.int r))) 0 0 (fun _ => False) := by
  refine Met.ofW (cc := b_Buffer_hasEntry) (maxL := 4) (ret := (some .boolean)) (by decide) rfl ?_
  intro p e s m args below meth c s₁ B hml hv
  obtain ⟨rfl, G, hP⟩ := hv
  have X := mX.of B hml
  exact m_entry (lv := [(0, va_rf (some h0)), (1, .int x1), (2, .int x2)]) (Nat.le_of_ble_eq_true rfl) rfl (fun ls hl => w_Buffer_hasEntry X G (mI.start hP) hf hl)

abbrev rm_Buffer_overlapsEarlier : Room := { frames := 0, cells := 0, slots := 0, locals := 0 }
theorem h_Buffer_overlapsEarlier : mCV y_Buffer_overlapsEarlier b_Buffer_overlapsEarlier 9 (some .boolean) 3 := ⟨k_245, k_76, ⟨by decide, by decide, by decide +kernel⟩, k_244, k_4⟩
set_option maxHeartbeats 4000000 in
set_option maxRecDepth 100000 in
theorem w_Buffer_overlapsEarlier_98 {μ : mM} {h0 : Nat} {r : Int32} (X : mX p m meth c s args b_Buffer_overlapsEarlier 9 (some .boolean) "ColourLinker$Buffer") (G : mG D cA dA z0 s) (I : mI D cA z0 s μ s.heap [] s.heap.size) {ls : Array Slot}  (hf : f_Buffer_overlapsEarlier_98 μ h0 = some r) (hl : lv_has ls 9 [(0, va_rf (some h0))]) : W p l e rm_Buffer_overlapsEarlier s m args below meth c s.heap [] 0 0 (MQ below (mQR (some (.int r))) args s 0 0 (fun _ => False)) (F0 m 98 ls []) := by
  have hx := X.ex
  have hb := X.by_
  unfold f_Buffer_overlapsEarlier_98 at hf
  refine lv_iconst (v := 0) hx hb d_Buffer_overlapsEarlier_98 (by decide) ?_
  obtain rfl := Option.some.inj hf
  exact r_zretR X (Or.inl rfl) d_Buffer_overlapsEarlier_99

set_option maxHeartbeats 4000000 in
set_option maxRecDepth 100000 in
theorem w_Buffer_overlapsEarlier_92 {μ : mM} {h0 : Nat} {r : Int32} (X : mX p m meth c s args b_Buffer_overlapsEarlier 9 (some .boolean) "ColourLinker$Buffer") (G : mG D cA dA z0 s) (I : mI D cA z0 s μ s.heap [] s.heap.size) {k : Int32 → Int32 → Int32 → Int32 → Option (Int32)} {kx98 : Unit → Option (Int32)} (hk : ∀ (ls : Array Slot) (x1 : Int32) (x2 : Int32) (x3 : Int32) (x4 : Int32), k x1 x2 x3 x4 = some r → lv_has ls 9 [(0, va_rf (some h0)), (1, .int x1), (2, .int x2), (3, .int x3), (4, .int x4)] → W p l e rm_Buffer_overlapsEarlier s m args below meth c s.heap [] 0 0 (MQ below (mQR (some (.int r))) args s 0 0 (fun _ => False)) (F0 m 3 ls [])) (hkx98 : ∀ (ls : Array Slot), kx98 () = some r → lv_has ls 9 [(0, va_rf (some h0))] → W p l e rm_Buffer_overlapsEarlier s m args below meth c s.heap [] 0 0 (MQ below (mQR (some (.int r))) args s 0 0 (fun _ => False)) (F0 m 98 ls [])) {ls : Array Slot} {x1 : Int32} {x2 : Int32} {x3 : Int32} {x4 : Int32} (hf : f_Buffer_overlapsEarlier_92 μ h0 k kx98 x1 x2 x3 x4 = some r) (hl : lv_has ls 9 [(0, va_rf (some h0)), (1, .int x1), (2, .int x2), (3, .int x3), (4, .int x4)]) : W p l e rm_Buffer_overlapsEarlier s m args below meth c s.heap [] 0 0 (MQ below (mQR (some (.int r))) args s 0 0 (fun _ => False)) (F0 m 92 ls []) := by
  have hx := X.ex
  have hb := X.by_
  unfold f_Buffer_overlapsEarlier_92 at hf
  refine lv_iinc (i := 4) (k := 4) (v := (x4 + (1 : Int32))) (lv' := [(4, .int (x4 + (1 : Int32))), (0, va_rf (some h0)), (1, .int x1), (2, .int x2), (3, .int x3)]) hx hb d_Buffer_overlapsEarlier_92 hl rfl (congrArg (fun t => x4 + t) (by decide : Int32.ofInt (1) = (1 : Int32))) (by decide) rfl (fun ls hl => ?_)
  refine lv_goto (tgt := 3) hx hb d_Buffer_overlapsEarlier_95 (by decide) ?_
  exact hk _ _ _ _ _ hf (lv_sub hl [1, 2, 3, 4, 0] rfl)

set_option maxHeartbeats 4000000 in
set_option maxRecDepth 100000 in
theorem w_Buffer_overlapsEarlier_78 {μ : mM} {h0 : Nat} {r : Int32} (X : mX p m meth c s args b_Buffer_overlapsEarlier 9 (some .boolean) "ColourLinker$Buffer") (G : mG D cA dA z0 s) (I : mI D cA z0 s μ s.heap [] s.heap.size) {k : Int32 → Int32 → Int32 → Int32 → Option (Int32)} {kx98 : Unit → Option (Int32)} (hk : ∀ (ls : Array Slot) (x1 : Int32) (x2 : Int32) (x3 : Int32) (x4 : Int32), k x1 x2 x3 x4 = some r → lv_has ls 9 [(0, va_rf (some h0)), (1, .int x1), (2, .int x2), (3, .int x3), (4, .int x4)] → W p l e rm_Buffer_overlapsEarlier s m args below meth c s.heap [] 0 0 (MQ below (mQR (some (.int r))) args s 0 0 (fun _ => False)) (F0 m 3 ls [])) (hkx98 : ∀ (ls : Array Slot), kx98 () = some r → lv_has ls 9 [(0, va_rf (some h0))] → W p l e rm_Buffer_overlapsEarlier s m args below meth c s.heap [] 0 0 (MQ below (mQR (some (.int r))) args s 0 0 (fun _ => False)) (F0 m 98 ls [])) {ls : Array Slot} {x1 : Int32} {x2 : Int32} {x3 : Int32} {x4 : Int32} {x7 : Int32} {s0 : Int32} (hf : f_Buffer_overlapsEarlier_78 μ h0 k kx98 x1 x2 x3 x4 x7 s0 = some r) (hl : lv_has ls 9 [(0, va_rf (some h0)), (1, .int x1), (2, .int x2), (3, .int x3), (4, .int x4), (7, .int x7)]) : W p l e rm_Buffer_overlapsEarlier s m args below meth c s.heap [] 0 0 (MQ below (mQR (some (.int r))) args s 0 0 (fun _ => False)) (F0 m 78 ls [.int s0]) := by
  have hx := X.ex
  have hb := X.by_
  unfold f_Buffer_overlapsEarlier_78 at hf
  refine lv_istore (i := 8) (lv' := [(8, .int s0), (0, va_rf (some h0)), (1, .int x1), (2, .int x2), (3, .int x3), (4, .int x4), (7, .int x7)]) hx hb d_Buffer_overlapsEarlier_78 hl (by decide) rfl (fun ls hl => ?_)
  refine lv_iload hx hb d_Buffer_overlapsEarlier_80 (lv_at hl 6 rfl) ?_
  refine lv_if_ne (tgt := 92) hx hb d_Buffer_overlapsEarlier_82 (by decide) (fun hc => ?_) (fun hc => ?_)
  · have hf := miff hf hc
    exact w_Buffer_overlapsEarlier_92 X G I hk hkx98 hf (lv_sub hl [1, 2, 3, 4, 5] rfl)
  · have hf := mift hf hc
    refine lv_iload hx hb d_Buffer_overlapsEarlier_85 (lv_at hl 0 rfl) ?_
    refine lv_if_ne (tgt := 92) hx hb d_Buffer_overlapsEarlier_87 (by decide) (fun hc => ?_) (fun hc => ?_)
    · have hf := miff hf hc
      exact w_Buffer_overlapsEarlier_92 X G I hk hkx98 hf (lv_sub hl [1, 2, 3, 4, 5] rfl)
    · have hf := mift hf hc
      refine lv_iconst (v := 1) hx hb d_Buffer_overlapsEarlier_90 (by decide) ?_
      obtain rfl := Option.some.inj hf
      exact r_zretR X (Or.inr rfl) d_Buffer_overlapsEarlier_91

set_option maxHeartbeats 4000000 in
set_option maxRecDepth 100000 in
theorem w_Buffer_overlapsEarlier_73 {μ : mM} {h0 : Nat} {r : Int32} (X : mX p m meth c s args b_Buffer_overlapsEarlier 9 (some .boolean) "ColourLinker$Buffer") (G : mG D cA dA z0 s) (I : mI D cA z0 s μ s.heap [] s.heap.size) {k : Int32 → Int32 → Int32 → Int32 → Option (Int32)} {kx98 : Unit → Option (Int32)} (hk : ∀ (ls : Array Slot) (x1 : Int32) (x2 : Int32) (x3 : Int32) (x4 : Int32), k x1 x2 x3 x4 = some r → lv_has ls 9 [(0, va_rf (some h0)), (1, .int x1), (2, .int x2), (3, .int x3), (4, .int x4)] → W p l e rm_Buffer_overlapsEarlier s m args below meth c s.heap [] 0 0 (MQ below (mQR (some (.int r))) args s 0 0 (fun _ => False)) (F0 m 3 ls [])) (hkx98 : ∀ (ls : Array Slot), kx98 () = some r → lv_has ls 9 [(0, va_rf (some h0))] → W p l e rm_Buffer_overlapsEarlier s m args below meth c s.heap [] 0 0 (MQ below (mQR (some (.int r))) args s 0 0 (fun _ => False)) (F0 m 98 ls [])) {ls : Array Slot} {x1 : Int32} {x2 : Int32} {x3 : Int32} {x4 : Int32} {x7 : Int32} (hf : f_Buffer_overlapsEarlier_73 μ h0 k kx98 x1 x2 x3 x4 x7 = some r) (hl : lv_has ls 9 [(0, va_rf (some h0)), (1, .int x1), (2, .int x2), (3, .int x3), (4, .int x4), (7, .int x7)]) : W p l e rm_Buffer_overlapsEarlier s m args below meth c s.heap [] 0 0 (MQ below (mQR (some (.int r))) args s 0 0 (fun _ => False)) (F0 m 73 ls []) := by
  have hx := X.ex
  have hb := X.by_
  unfold f_Buffer_overlapsEarlier_73 at hf
  refine lv_iconst (v := 1) hx hb d_Buffer_overlapsEarlier_73 (by decide) ?_
  refine lv_goto (tgt := 78) hx hb d_Buffer_overlapsEarlier_74 (by decide) ?_
  exact w_Buffer_overlapsEarlier_78 X G I hk hkx98 hf hl

set_option maxHeartbeats 4000000 in
set_option maxRecDepth 100000 in
theorem w_Buffer_overlapsEarlier_54 {μ : mM} {h0 : Nat} {r : Int32} (X : mX p m meth c s args b_Buffer_overlapsEarlier 9 (some .boolean) "ColourLinker$Buffer") (G : mG D cA dA z0 s) (I : mI D cA z0 s μ s.heap [] s.heap.size) {k : Int32 → Int32 → Int32 → Int32 → Option (Int32)} {kx98 : Unit → Option (Int32)} (hk : ∀ (ls : Array Slot) (x1 : Int32) (x2 : Int32) (x3 : Int32) (x4 : Int32), k x1 x2 x3 x4 = some r → lv_has ls 9 [(0, va_rf (some h0)), (1, .int x1), (2, .int x2), (3, .int x3), (4, .int x4)] → W p l e rm_Buffer_overlapsEarlier s m args below meth c s.heap [] 0 0 (MQ below (mQR (some (.int r))) args s 0 0 (fun _ => False)) (F0 m 3 ls [])) (hkx98 : ∀ (ls : Array Slot), kx98 () = some r → lv_has ls 9 [(0, va_rf (some h0))] → W p l e rm_Buffer_overlapsEarlier s m args below meth c s.heap [] 0 0 (MQ below (mQR (some (.int r))) args s 0 0 (fun _ => False)) (F0 m 98 ls [])) {ls : Array Slot} {x1 : Int32} {x2 : Int32} {x3 : Int32} {x4 : Int32} {x5 : Int32} {x6 : Int32} {s0 : Int32} (hf : f_Buffer_overlapsEarlier_54 μ h0 k kx98 x1 x2 x3 x4 x5 x6 s0 = some r) (hl : lv_has ls 9 [(0, va_rf (some h0)), (1, .int x1), (2, .int x2), (3, .int x3), (4, .int x4), (5, .int x5), (6, .int x6)]) : W p l e rm_Buffer_overlapsEarlier s m args below meth c s.heap [] 0 0 (MQ below (mQR (some (.int r))) args s 0 0 (fun _ => False)) (F0 m 54 ls [.int s0]) := by
  have hx := X.ex
  have hb := X.by_
  unfold f_Buffer_overlapsEarlier_54 at hf
  refine lv_istore (i := 7) (lv' := [(7, .int s0), (0, va_rf (some h0)), (1, .int x1), (2, .int x2), (3, .int x3), (4, .int x4), (5, .int x5), (6, .int x6)]) hx hb d_Buffer_overlapsEarlier_54 hl (by decide) rfl (fun ls hl => ?_)
  refine lv_iload hx hb d_Buffer_overlapsEarlier_56 (lv_at hl 6 rfl) ?_
  refine lv_iload hx hb d_Buffer_overlapsEarlier_58 (lv_at hl 7 rfl) ?_
  refine lv_iadd hx hb d_Buffer_overlapsEarlier_60 ?_
  refine lv_iload_n hx hb d_Buffer_overlapsEarlier_61 rfl (lv_at hl 3 rfl) ?_
  refine lv_icmp_le (tgt := 73) hx hb d_Buffer_overlapsEarlier_62 (by decide) (fun hc => ?_) (fun hc => ?_)
  · have hf := mift hf hc
    exact w_Buffer_overlapsEarlier_73 X G I hk hkx98 hf (lv_sub hl [1, 2, 3, 4, 5, 0] rfl)
  · have hf := miff hf hc
    refine lv_iload_n hx hb d_Buffer_overlapsEarlier_65 rfl (lv_at hl 3 rfl) ?_
    refine lv_iload_n hx hb d_Buffer_overlapsEarlier_66 rfl (lv_at hl 4 rfl) ?_
    refine lv_iadd hx hb d_Buffer_overlapsEarlier_67 ?_
    refine lv_iload hx hb d_Buffer_overlapsEarlier_68 (lv_at hl 6 rfl) ?_
    refine lv_icmp_gt (tgt := 77) hx hb d_Buffer_overlapsEarlier_70 (by decide) (fun hc => ?_) (fun hc => ?_)
    · have hf := mift hf hc
      refine lv_iconst (v := 0) hx hb d_Buffer_overlapsEarlier_77 (by decide) ?_
      exact w_Buffer_overlapsEarlier_78 X G I hk hkx98 hf (lv_sub hl [1, 2, 3, 4, 5, 0] rfl)
    · have hf := miff hf hc
      exact w_Buffer_overlapsEarlier_73 X G I hk hkx98 hf (lv_sub hl [1, 2, 3, 4, 5, 0] rfl)

set_option maxHeartbeats 4000000 in
set_option maxRecDepth 100000 in
theorem w_Buffer_overlapsEarlier_53 {μ : mM} {h0 : Nat} {r : Int32} (X : mX p m meth c s args b_Buffer_overlapsEarlier 9 (some .boolean) "ColourLinker$Buffer") (G : mG D cA dA z0 s) (I : mI D cA z0 s μ s.heap [] s.heap.size) {k : Int32 → Int32 → Int32 → Int32 → Option (Int32)} {kx98 : Unit → Option (Int32)} (hk : ∀ (ls : Array Slot) (x1 : Int32) (x2 : Int32) (x3 : Int32) (x4 : Int32), k x1 x2 x3 x4 = some r → lv_has ls 9 [(0, va_rf (some h0)), (1, .int x1), (2, .int x2), (3, .int x3), (4, .int x4)] → W p l e rm_Buffer_overlapsEarlier s m args below meth c s.heap [] 0 0 (MQ below (mQR (some (.int r))) args s 0 0 (fun _ => False)) (F0 m 3 ls [])) (hkx98 : ∀ (ls : Array Slot), kx98 () = some r → lv_has ls 9 [(0, va_rf (some h0))] → W p l e rm_Buffer_overlapsEarlier s m args below meth c s.heap [] 0 0 (MQ below (mQR (some (.int r))) args s 0 0 (fun _ => False)) (F0 m 98 ls [])) {ls : Array Slot} {x1 : Int32} {x2 : Int32} {x3 : Int32} {x4 : Int32} {x5 : Int32} {x6 : Int32} (hf : f_Buffer_overlapsEarlier_53 μ h0 k kx98 x1 x2 x3 x4 x5 x6 = some r) (hl : lv_has ls 9 [(0, va_rf (some h0)), (1, .int x1), (2, .int x2), (3, .int x3), (4, .int x4), (5, .int x5), (6, .int x6)]) : W p l e rm_Buffer_overlapsEarlier s m args below meth c s.heap [] 0 0 (MQ below (mQR (some (.int r))) args s 0 0 (fun _ => False)) (F0 m 53 ls []) := by
  have hx := X.ex
  have hb := X.by_
  unfold f_Buffer_overlapsEarlier_53 at hf
  refine lv_iconst (v := 0) hx hb d_Buffer_overlapsEarlier_53 (by decide) ?_
  exact w_Buffer_overlapsEarlier_54 X G I hk hkx98 hf hl

set_option maxHeartbeats 4000000 in
set_option maxRecDepth 100000 in
theorem w_Buffer_overlapsEarlier_3 {μ : mM} {h0 : Nat} {r : Int32} (X : mX p m meth c s args b_Buffer_overlapsEarlier 9 (some .boolean) "ColourLinker$Buffer") (G : mG D cA dA z0 s) (I : mI D cA z0 s μ s.heap [] s.heap.size) {kx98 : Unit → Option (Int32)} (hkx98 : ∀ (ls : Array Slot), kx98 () = some r → lv_has ls 9 [(0, va_rf (some h0))] → W p l e rm_Buffer_overlapsEarlier s m args below meth c s.heap [] 0 0 (MQ below (mQR (some (.int r))) args s 0 0 (fun _ => False)) (F0 m 98 ls [])) : ∀ (n : Nat) (ls : Array Slot) (x1 : Int32) (x2 : Int32) (x3 : Int32) (x4 : Int32), f_Buffer_overlapsEarlier_3 μ h0 kx98 n x1 x2 x3 x4 = some r → lv_has ls 9 [(0, va_rf (some h0)), (1, .int x1), (2, .int x2), (3, .int x3), (4, .int x4)] → W p l e rm_Buffer_overlapsEarlier s m args below meth c s.heap [] 0 0 (MQ below (mQR (some (.int r))) args s 0 0 (fun _ => False)) (F0 m 3 ls []) := by
  have hx := X.ex
  have hb := X.by_
  intro n
  induction n with
  | zero => intro ls x1 x2 x3 x4 hf hl; rw [f_Buffer_overlapsEarlier_3] at hf; cases hf
  | succ n ih =>
    intro ls x1 x2 x3 x4 hf hl
    rw [f_Buffer_overlapsEarlier_3] at hf
    refine lv_iload hx hb d_Buffer_overlapsEarlier_3 (lv_at hl 4 rfl) ?_
    refine lv_iload_n hx hb d_Buffer_overlapsEarlier_5 rfl (lv_at hl 1 rfl) ?_
    refine lv_icmp_ge (tgt := 98) hx hb d_Buffer_overlapsEarlier_6 (by decide) (fun hc => ?_) (fun hc => ?_)
    · have hf := mift hf hc
      exact hkx98 _ hf (lv_sub hl [0] rfl)
    · have hf := miff hf hc
      refine r_aload_n X d_Buffer_overlapsEarlier_9 rfl (lv_at hl 0 rfl) ?_
      obtain ⟨v1, hv, hf⟩ := mbind hf
      refine r_getf X G I (mfA_e hv) o_Buffer_row k_105 (Or.inl rfl) d_Buffer_overlapsEarlier_10 ?_
      refine lv_bipush (v := 9) hx hb d_Buffer_overlapsEarlier_13 (by decide) ?_
      refine lv_iconst (v := 4) hx hb d_Buffer_overlapsEarlier_15 (by decide) ?_
      refine lv_iload hx hb d_Buffer_overlapsEarlier_16 (lv_at hl 4 rfl) ?_
      refine lv_imul hx hb d_Buffer_overlapsEarlier_18 ?_
      refine lv_iadd hx hb d_Buffer_overlapsEarlier_19 ?_
      obtain ⟨v2, hv, hf⟩ := mbind hf
      refine r_iald X G I hv d_Buffer_overlapsEarlier_20 ?_
      refine lv_istore (i := 5) (lv' := [(5, .int v2), (0, va_rf (some h0)), (1, .int x1), (2, .int x2), (3, .int x3), (4, .int x4)]) hx hb d_Buffer_overlapsEarlier_21 hl (by decide) rfl (fun ls hl => ?_)
      refine r_aload_n X d_Buffer_overlapsEarlier_23 rfl (lv_at hl 1 rfl) ?_
      obtain ⟨v3, hv, hf⟩ := mbind hf
      refine r_getf X G I (mfA_e hv) o_Buffer_row k_105 (Or.inl rfl) d_Buffer_overlapsEarlier_24 ?_
      refine lv_bipush (v := 10) hx hb d_Buffer_overlapsEarlier_27 (by decide) ?_
      refine lv_iconst (v := 4) hx hb d_Buffer_overlapsEarlier_29 (by decide) ?_
      refine lv_iload hx hb d_Buffer_overlapsEarlier_30 (lv_at hl 5 rfl) ?_
      refine lv_imul hx hb d_Buffer_overlapsEarlier_32 ?_
      refine lv_iadd hx hb d_Buffer_overlapsEarlier_33 ?_
      obtain ⟨v4, hv, hf⟩ := mbind hf
      refine r_iald X G I hv d_Buffer_overlapsEarlier_34 ?_
      refine lv_istore (i := 6) (lv' := [(6, .int v4), (5, .int v2), (0, va_rf (some h0)), (1, .int x1), (2, .int x2), (3, .int x3), (4, .int x4)]) hx hb d_Buffer_overlapsEarlier_35 hl (by decide) rfl (fun ls hl => ?_)
      refine lv_iload hx hb d_Buffer_overlapsEarlier_37 (lv_at hl 1 rfl) ?_
      refine lv_iload_n hx hb d_Buffer_overlapsEarlier_39 rfl (lv_at hl 4 rfl) ?_
      refine lv_icmp_ne (tgt := 53) hx hb d_Buffer_overlapsEarlier_40 (by decide) (fun hc => ?_) (fun hc => ?_)
      · have hf := miff hf hc
        exact w_Buffer_overlapsEarlier_53 X G I ih hkx98 hf (lv_sub hl [2, 3, 4, 5, 6, 1, 0] rfl)
      · have hf := mift hf hc
        refine lv_iload hx hb d_Buffer_overlapsEarlier_43 (lv_at hl 0 rfl) ?_
        refine lv_iload_n hx hb d_Buffer_overlapsEarlier_45 rfl (lv_at hl 5 rfl) ?_
        refine lv_icmp_ne (tgt := 53) hx hb d_Buffer_overlapsEarlier_46 (by decide) (fun hc => ?_) (fun hc => ?_)
        · have hf := miff hf hc
          exact w_Buffer_overlapsEarlier_53 X G I ih hkx98 hf (lv_sub hl [2, 3, 4, 5, 6, 1, 0] rfl)
        · have hf := mift hf hc
          refine lv_iconst (v := 1) hx hb d_Buffer_overlapsEarlier_49 (by decide) ?_
          refine lv_goto (tgt := 54) hx hb d_Buffer_overlapsEarlier_50 (by decide) ?_
          exact w_Buffer_overlapsEarlier_54 X G I ih hkx98 hf (lv_sub hl [2, 3, 4, 5, 6, 1, 0] rfl)

set_option maxHeartbeats 4000000 in
set_option maxRecDepth 100000 in
theorem w_Buffer_overlapsEarlier {μ : mM} {h0 : Nat} {r : Int32} (X : mX p m meth c s args b_Buffer_overlapsEarlier 9 (some .boolean) "ColourLinker$Buffer") (G : mG D cA dA z0 s) (I : mI D cA z0 s μ s.heap [] s.heap.size) {ls : Array Slot} {x1 : Int32} {x2 : Int32} {x3 : Int32} (hf : f_Buffer_overlapsEarlier μ h0 x1 x2 x3 = some r) (hl : lv_has ls 9 [(0, va_rf (some h0)), (1, .int x1), (2, .int x2), (3, .int x3)]) : W p l e rm_Buffer_overlapsEarlier s m args below meth c s.heap [] 0 0 (MQ below (mQR (some (.int r))) args s 0 0 (fun _ => False)) (F0 m 0 ls []) := by
  have hx := X.ex
  have hb := X.by_
  unfold f_Buffer_overlapsEarlier at hf
  refine lv_iconst (v := 0) hx hb d_Buffer_overlapsEarlier_0 (by decide) ?_
  refine lv_istore (i := 4) (lv' := [(4, .int (0 : Int32)), (0, va_rf (some h0)), (1, .int x1), (2, .int x2), (3, .int x3)]) hx hb d_Buffer_overlapsEarlier_1 hl (by decide) rfl (fun ls hl => ?_)
  exact w_Buffer_overlapsEarlier_3 X G I (fun ls hf hl => w_Buffer_overlapsEarlier_98 X G I hf hl) 4096 _ _ _ _ _ hf (lv_sub hl [1, 2, 3, 4, 0] rfl)

set_option maxHeartbeats 4000000 in
set_option maxRecDepth 100000 in
theorem c_Buffer_overlapsEarlier {l : Launch} {D : va_G} {cA : Nat → ClassId} {dA z0 : Nat} {μ : mM} {h0 : Nat} {x1 : Int32} {x2 : Int32} {x3 : Int32} {r : Int32} (hf : f_Buffer_overlapsEarlier μ h0 x1 x2 x3 = some r) : Met l y_Buffer_overlapsEarlier (mW y_Buffer_overlapsEarlier b_Buffer_overlapsEarlier 9 (some .boolean)) rm_Buffer_overlapsEarlier (va_Pc [.ref h0, .int x1, .int x2, .int x3] (mPr D cA dA z0 μ)) (mQR (some (.int r))) 0 0 (fun _ => False) := by
  refine Met.ofW (cc := b_Buffer_overlapsEarlier) (maxL := 9) (ret := (some .boolean)) (by decide) rfl ?_
  intro p e s m args below meth c s₁ B hml hv
  obtain ⟨rfl, G, hP⟩ := hv
  have X := mX.of B hml
  exact m_entry (lv := [(0, va_rf (some h0)), (1, .int x1), (2, .int x2), (3, .int x3)]) (Nat.le_of_ble_eq_true rfl) rfl (fun ls hl => w_Buffer_overlapsEarlier X G (mI.start hP) hf hl)

abbrev rm_Buffer_isTypeFor : Room := { frames := 0, cells := 0, slots := 0, locals := 0 }
theorem h_Buffer_isTypeFor : mCS y_Buffer_isTypeFor b_Buffer_isTypeFor 2 (some .boolean) 2 := ⟨k_248, k_76, ⟨by decide, by decide, by decide +kernel⟩, k_247⟩
set_option maxHeartbeats 4000000 in
set_option maxRecDepth 100000 in
theorem w_Buffer_isTypeFor_57 {μ : mM} {r : Int32} (X : mX p m meth c s args b_Buffer_isTypeFor 2 (some .boolean) "ColourLinker$Buffer") (G : mG D cA dA z0 s) (I : mI D cA z0 s μ s.heap [] s.heap.size) {ls : Array Slot} {s0 : Int32} (hf : f_Buffer_isTypeFor_57 μ s0 = some r) (hl : lv_has ls 2 []) : W p l e rm_Buffer_isTypeFor s m args below meth c s.heap [] 0 0 (MQ below (mQR (some (.int r))) args s 0 0 (fun _ => False)) (F0 m 57 ls [.int s0]) := by
  have hx := X.ex
  have hb := X.by_
  unfold f_Buffer_isTypeFor_57 at hf
  obtain ⟨v3, hv, hf⟩ := mbind hf
  obtain ⟨hz0, hz⟩ := mz_e hv
  rw [hz0] at hf
  obtain rfl := Option.some.inj hf
  exact r_zretR X hz d_Buffer_isTypeFor_57

set_option maxHeartbeats 4000000 in
set_option maxRecDepth 100000 in
theorem w_Buffer_isTypeFor_49 {μ : mM} {r : Int32} (X : mX p m meth c s args b_Buffer_isTypeFor 2 (some .boolean) "ColourLinker$Buffer") (G : mG D cA dA z0 s) (I : mI D cA z0 s μ s.heap [] s.heap.size) {ls : Array Slot} {s0 : Int32} {s1 : Int32} (hf : f_Buffer_isTypeFor_49 μ s0 s1 = some r) (hl : lv_has ls 2 []) : W p l e rm_Buffer_isTypeFor s m args below meth c s.heap [] 0 0 (MQ below (mQR (some (.int r))) args s 0 0 (fun _ => False)) (F0 m 49 ls [.int s1, .int s0]) := by
  have hx := X.ex
  have hb := X.by_
  unfold f_Buffer_isTypeFor_49 at hf
  refine lv_icmp_ne (tgt := 56) hx hb d_Buffer_isTypeFor_49 (by decide) (fun hc => ?_) (fun hc => ?_)
  · have hf := miff hf hc
    refine lv_iconst (v := 0) hx hb d_Buffer_isTypeFor_56 (by decide) ?_
    exact w_Buffer_isTypeFor_57 X G I hf hl
  · have hf := mift hf hc
    refine lv_iconst (v := 1) hx hb d_Buffer_isTypeFor_52 (by decide) ?_
    refine lv_goto (tgt := 57) hx hb d_Buffer_isTypeFor_53 (by decide) ?_
    exact w_Buffer_isTypeFor_57 X G I hf hl

set_option maxHeartbeats 4000000 in
set_option maxRecDepth 100000 in
theorem w_Buffer_isTypeFor_36 {μ : mM} {r : Int32} (X : mX p m meth c s args b_Buffer_isTypeFor 2 (some .boolean) "ColourLinker$Buffer") (G : mG D cA dA z0 s) (I : mI D cA z0 s μ s.heap [] s.heap.size) {ls : Array Slot} {s0 : Int32} (hf : f_Buffer_isTypeFor_36 μ s0 = some r) (hl : lv_has ls 2 []) : W p l e rm_Buffer_isTypeFor s m args below meth c s.heap [] 0 0 (MQ below (mQR (some (.int r))) args s 0 0 (fun _ => False)) (F0 m 36 ls [.int s0]) := by
  have hx := X.ex
  have hb := X.by_
  unfold f_Buffer_isTypeFor_36 at hf
  obtain ⟨v2, hv, hf⟩ := mbind hf
  obtain ⟨hz0, hz⟩ := mz_e hv
  rw [hz0] at hf
  obtain rfl := Option.some.inj hf
  exact r_zretR X hz d_Buffer_isTypeFor_36

set_option maxHeartbeats 4000000 in
set_option maxRecDepth 100000 in
theorem w_Buffer_isTypeFor_20 {μ : mM} {r : Int32} (X : mX p m meth c s args b_Buffer_isTypeFor 2 (some .boolean) "ColourLinker$Buffer") (G : mG D cA dA z0 s) (I : mI D cA z0 s μ s.heap [] s.heap.size) {ls : Array Slot} {s0 : Int32} (hf : f_Buffer_isTypeFor_20 μ s0 = some r) (hl : lv_has ls 2 []) : W p l e rm_Buffer_isTypeFor s m args below meth c s.heap [] 0 0 (MQ below (mQR (some (.int r))) args s 0 0 (fun _ => False)) (F0 m 20 ls [.int s0]) := by
  have hx := X.ex
  have hb := X.by_
  unfold f_Buffer_isTypeFor_20 at hf
  obtain ⟨v1, hv, hf⟩ := mbind hf
  obtain ⟨hz0, hz⟩ := mz_e hv
  rw [hz0] at hf
  obtain rfl := Option.some.inj hf
  exact r_zretR X hz d_Buffer_isTypeFor_20

set_option maxHeartbeats 4000000 in
set_option maxRecDepth 100000 in
theorem w_Buffer_isTypeFor_15 {μ : mM} {r : Int32} (X : mX p m meth c s args b_Buffer_isTypeFor 2 (some .boolean) "ColourLinker$Buffer") (G : mG D cA dA z0 s) (I : mI D cA z0 s μ s.heap [] s.heap.size) {ls : Array Slot}  (hf : f_Buffer_isTypeFor_15 μ = some r) (hl : lv_has ls 2 []) : W p l e rm_Buffer_isTypeFor s m args below meth c s.heap [] 0 0 (MQ below (mQR (some (.int r))) args s 0 0 (fun _ => False)) (F0 m 15 ls []) := by
  have hx := X.ex
  have hb := X.by_
  unfold f_Buffer_isTypeFor_15 at hf
  refine lv_iconst (v := 1) hx hb d_Buffer_isTypeFor_15 (by decide) ?_
  refine lv_goto (tgt := 20) hx hb d_Buffer_isTypeFor_16 (by decide) ?_
  exact w_Buffer_isTypeFor_20 X G I hf hl

set_option maxHeartbeats 4000000 in
set_option maxRecDepth 100000 in
theorem w_Buffer_isTypeFor {μ : mM} {r : Int32} (X : mX p m meth c s args b_Buffer_isTypeFor 2 (some .boolean) "ColourLinker$Buffer") (G : mG D cA dA z0 s) (I : mI D cA z0 s μ s.heap [] s.heap.size) {ls : Array Slot} {x0 : Int32} {x1 : Int32} (hf : f_Buffer_isTypeFor μ x0 x1 = some r) (hl : lv_has ls 2 [(0, .int x0), (1, .int x1)]) : W p l e rm_Buffer_isTypeFor s m args below meth c s.heap [] 0 0 (MQ below (mQR (some (.int r))) args s 0 0 (fun _ => False)) (F0 m 0 ls []) := by
  have hx := X.ex
  have hb := X.by_
  unfold f_Buffer_isTypeFor at hf
  refine lv_iload_n hx hb d_Buffer_isTypeFor_0 rfl (lv_at hl 0 rfl) ?_
  refine lv_iconst (v := 4) hx hb d_Buffer_isTypeFor_1 (by decide) ?_
  refine lv_icmp_gt (tgt := 21) hx hb d_Buffer_isTypeFor_2 (by decide) (fun hc => ?_) (fun hc => ?_)
  · have hf := mift hf hc
    refine lv_iload_n hx hb d_Buffer_isTypeFor_21 rfl (lv_at hl 0 rfl) ?_
    refine lv_iconst (v := 5) hx hb d_Buffer_isTypeFor_22 (by decide) ?_
    refine lv_icmp_ne (tgt := 37) hx hb d_Buffer_isTypeFor_23 (by decide) (fun hc => ?_) (fun hc => ?_)
    · have hf := miff hf hc
      refine lv_iload_n hx hb d_Buffer_isTypeFor_37 rfl (lv_at hl 1 rfl) ?_
      refine lv_iload_n hx hb d_Buffer_isTypeFor_38 rfl (lv_at hl 0 rfl) ?_
      refine lv_bipush (v := 11) hx hb d_Buffer_isTypeFor_39 (by decide) ?_
      refine lv_icmp_gt (tgt := 48) hx hb d_Buffer_isTypeFor_41 (by decide) (fun hc => ?_) (fun hc => ?_)
      · have hf := mift hf hc
        refine lv_iconst (v := 5) hx hb d_Buffer_isTypeFor_48 (by decide) ?_
        exact w_Buffer_isTypeFor_49 X G I hf (lv_sub hl [] rfl)
      · have hf := miff hf hc
        refine lv_iconst (v := 4) hx hb d_Buffer_isTypeFor_44 (by decide) ?_
        refine lv_goto (tgt := 49) hx hb d_Buffer_isTypeFor_45 (by decide) ?_
        exact w_Buffer_isTypeFor_49 X G I hf (lv_sub hl [] rfl)
    · have hf := mift hf hc
      refine lv_iload_n hx hb d_Buffer_isTypeFor_26 rfl (lv_at hl 1 rfl) ?_
      refine lv_iconst (v := 3) hx hb d_Buffer_isTypeFor_27 (by decide) ?_
      refine lv_icmp_ne (tgt := 35) hx hb d_Buffer_isTypeFor_28 (by decide) (fun hc => ?_) (fun hc => ?_)
      · have hf := miff hf hc
        refine lv_iconst (v := 0) hx hb d_Buffer_isTypeFor_35 (by decide) ?_
        exact w_Buffer_isTypeFor_36 X G I hf (lv_sub hl [] rfl)
      · have hf := mift hf hc
        refine lv_iconst (v := 1) hx hb d_Buffer_isTypeFor_31 (by decide) ?_
        refine lv_goto (tgt := 36) hx hb d_Buffer_isTypeFor_32 (by decide) ?_
        exact w_Buffer_isTypeFor_36 X G I hf (lv_sub hl [] rfl)
  · have hf := miff hf hc
    refine lv_iload_n hx hb d_Buffer_isTypeFor_5 rfl (lv_at hl 1 rfl) ?_
    refine lv_iconst (v := 1) hx hb d_Buffer_isTypeFor_6 (by decide) ?_
    refine lv_icmp_eq (tgt := 15) hx hb d_Buffer_isTypeFor_7 (by decide) (fun hc => ?_) (fun hc => ?_)
    · have hf := mift hf hc
      exact w_Buffer_isTypeFor_15 X G I hf (lv_sub hl [] rfl)
    · have hf := miff hf hc
      refine lv_iload_n hx hb d_Buffer_isTypeFor_10 rfl (lv_at hl 1 rfl) ?_
      refine lv_iconst (v := 2) hx hb d_Buffer_isTypeFor_11 (by decide) ?_
      refine lv_icmp_ne (tgt := 19) hx hb d_Buffer_isTypeFor_12 (by decide) (fun hc => ?_) (fun hc => ?_)
      · have hf := miff hf hc
        refine lv_iconst (v := 0) hx hb d_Buffer_isTypeFor_19 (by decide) ?_
        exact w_Buffer_isTypeFor_20 X G I hf (lv_sub hl [] rfl)
      · have hf := mift hf hc
        exact w_Buffer_isTypeFor_15 X G I hf (lv_sub hl [] rfl)

set_option maxHeartbeats 4000000 in
set_option maxRecDepth 100000 in
theorem c_Buffer_isTypeFor {l : Launch} {D : va_G} {cA : Nat → ClassId} {dA z0 : Nat} {μ : mM} {x0 : Int32} {x1 : Int32} {r : Int32} (hf : f_Buffer_isTypeFor μ x0 x1 = some r) : Met l y_Buffer_isTypeFor (mW y_Buffer_isTypeFor b_Buffer_isTypeFor 2 (some .boolean)) rm_Buffer_isTypeFor (va_Pc [.int x0, .int x1] (mPr D cA dA z0 μ)) (mQR (some (.int r))) 0 0 (fun _ => False) := by
  refine Met.ofW (cc := b_Buffer_isTypeFor) (maxL := 2) (ret := (some .boolean)) (by decide) rfl ?_
  intro p e s m args below meth c s₁ B hml hv
  obtain ⟨rfl, G, hP⟩ := hv
  have X := mX.of B hml
  exact m_entry (lv := [(0, .int x0), (1, .int x1)]) (Nat.le_of_ble_eq_true rfl) rfl (fun ls hl => w_Buffer_isTypeFor X G (mI.start hP) hf hl)

abbrev rm_Buffer_isLengthFor : Room := { frames := 0, cells := 0, slots := 0, locals := 0 }
theorem h_Buffer_isLengthFor : mCS y_Buffer_isLengthFor b_Buffer_isLengthFor 3 (some .boolean) 3 := ⟨k_251, k_76, ⟨by decide, by decide, by decide +kernel⟩, k_250⟩
set_option maxHeartbeats 4000000 in
set_option maxRecDepth 100000 in
theorem w_Buffer_isLengthFor_140 {μ : mM} {r : Int32} (X : mX p m meth c s args b_Buffer_isLengthFor 3 (some .boolean) "ColourLinker$Buffer") (G : mG D cA dA z0 s) (I : mI D cA z0 s μ s.heap [] s.heap.size) {ls : Array Slot} {s0 : Int32} (hf : f_Buffer_isLengthFor_140 μ s0 = some r) (hl : lv_has ls 3 []) : W p l e rm_Buffer_isLengthFor s m args below meth c s.heap [] 0 0 (MQ below (mQR (some (.int r))) args s 0 0 (fun _ => False)) (F0 m 140 ls [.int s0]) := by
  have hx := X.ex
  have hb := X.by_
  unfold f_Buffer_isLengthFor_140 at hf
  obtain ⟨v5, hv, hf⟩ := mbind hf
  obtain ⟨hz0, hz⟩ := mz_e hv
  rw [hz0] at hf
  obtain rfl := Option.some.inj hf
  exact r_zretR X hz d_Buffer_isLengthFor_140

set_option maxHeartbeats 4000000 in
set_option maxRecDepth 100000 in
theorem w_Buffer_isLengthFor_139 {μ : mM} {r : Int32} (X : mX p m meth c s args b_Buffer_isLengthFor 3 (some .boolean) "ColourLinker$Buffer") (G : mG D cA dA z0 s) (I : mI D cA z0 s μ s.heap [] s.heap.size) {ls : Array Slot}  (hf : f_Buffer_isLengthFor_139 μ = some r) (hl : lv_has ls 3 []) : W p l e rm_Buffer_isLengthFor s m args below meth c s.heap [] 0 0 (MQ below (mQR (some (.int r))) args s 0 0 (fun _ => False)) (F0 m 139 ls []) := by
  have hx := X.ex
  have hb := X.by_
  unfold f_Buffer_isLengthFor_139 at hf
  refine lv_iconst (v := 0) hx hb d_Buffer_isLengthFor_139 (by decide) ?_
  exact w_Buffer_isLengthFor_140 X G I hf hl

set_option maxHeartbeats 4000000 in
set_option maxRecDepth 100000 in
theorem w_Buffer_isLengthFor_124 {μ : mM} {r : Int32} (X : mX p m meth c s args b_Buffer_isLengthFor 3 (some .boolean) "ColourLinker$Buffer") (G : mG D cA dA z0 s) (I : mI D cA z0 s μ s.heap [] s.heap.size) {ls : Array Slot} {s0 : Int32} (hf : f_Buffer_isLengthFor_124 μ s0 = some r) (hl : lv_has ls 3 []) : W p l e rm_Buffer_isLengthFor s m args below meth c s.heap [] 0 0 (MQ below (mQR (some (.int r))) args s 0 0 (fun _ => False)) (F0 m 124 ls [.int s0]) := by
  have hx := X.ex
  have hb := X.by_
  unfold f_Buffer_isLengthFor_124 at hf
  obtain ⟨v4, hv, hf⟩ := mbind hf
  obtain ⟨hz0, hz⟩ := mz_e hv
  rw [hz0] at hf
  obtain rfl := Option.some.inj hf
  exact r_zretR X hz d_Buffer_isLengthFor_124

set_option maxHeartbeats 4000000 in
set_option maxRecDepth 100000 in
theorem w_Buffer_isLengthFor_123 {μ : mM} {r : Int32} (X : mX p m meth c s args b_Buffer_isLengthFor 3 (some .boolean) "ColourLinker$Buffer") (G : mG D cA dA z0 s) (I : mI D cA z0 s μ s.heap [] s.heap.size) {ls : Array Slot}  (hf : f_Buffer_isLengthFor_123 μ = some r) (hl : lv_has ls 3 []) : W p l e rm_Buffer_isLengthFor s m args below meth c s.heap [] 0 0 (MQ below (mQR (some (.int r))) args s 0 0 (fun _ => False)) (F0 m 123 ls []) := by
  have hx := X.ex
  have hb := X.by_
  unfold f_Buffer_isLengthFor_123 at hf
  refine lv_iconst (v := 0) hx hb d_Buffer_isLengthFor_123 (by decide) ?_
  exact w_Buffer_isLengthFor_124 X G I hf hl

set_option maxHeartbeats 4000000 in
set_option maxRecDepth 100000 in
theorem w_Buffer_isLengthFor_106 {μ : mM} {r : Int32} (X : mX p m meth c s args b_Buffer_isLengthFor 3 (some .boolean) "ColourLinker$Buffer") (G : mG D cA dA z0 s) (I : mI D cA z0 s μ s.heap [] s.heap.size) {ls : Array Slot} {x1 : Int32} {x2 : Int32} (hf : f_Buffer_isLengthFor_106 μ x1 x2 = some r) (hl : lv_has ls 3 [(1, .int x1), (2, .int x2)]) : W p l e rm_Buffer_isLengthFor s m args below meth c s.heap [] 0 0 (MQ below (mQR (some (.int r))) args s 0 0 (fun _ => False)) (F0 m 106 ls []) := by
  have hx := X.ex
  have hb := X.by_
  unfold f_Buffer_isLengthFor_106 at hf
  refine lv_iload_n hx hb d_Buffer_isLengthFor_106 rfl (lv_at hl 1 rfl) ?_
  refine lv_iconst (v := 2) hx hb d_Buffer_isLengthFor_107 (by decide) ?_
  refine lv_iconst (v := 3) hx hb d_Buffer_isLengthFor_108 (by decide) ?_
  refine lv_iload_n hx hb d_Buffer_isLengthFor_109 rfl (lv_at hl 0 rfl) ?_
  refine lv_imul hx hb d_Buffer_isLengthFor_110 ?_
  refine lv_iload_n hx hb d_Buffer_isLengthFor_111 rfl (lv_at hl 0 rfl) ?_
  refine lv_imul hx hb d_Buffer_isLengthFor_112 ?_
  refine lv_iload_n hx hb d_Buffer_isLengthFor_113 rfl (lv_at hl 0 rfl) ?_
  refine lv_imul hx hb d_Buffer_isLengthFor_114 ?_
  refine lv_iadd hx hb d_Buffer_isLengthFor_115 ?_
  refine lv_icmp_ne (tgt := 123) hx hb d_Buffer_isLengthFor_116 (by decide) (fun hc => ?_) (fun hc => ?_)
  · have hf := miff hf hc
    exact w_Buffer_isLengthFor_123 X G I hf (lv_sub hl [] rfl)
  · have hf := mift hf hc
    refine lv_iconst (v := 1) hx hb d_Buffer_isLengthFor_119 (by decide) ?_
    refine lv_goto (tgt := 124) hx hb d_Buffer_isLengthFor_120 (by decide) ?_
    exact w_Buffer_isLengthFor_124 X G I hf (lv_sub hl [] rfl)

set_option maxHeartbeats 4000000 in
set_option maxRecDepth 100000 in
theorem w_Buffer_isLengthFor_95 {μ : mM} {r : Int32} (X : mX p m meth c s args b_Buffer_isLengthFor 3 (some .boolean) "ColourLinker$Buffer") (G : mG D cA dA z0 s) (I : mI D cA z0 s μ s.heap [] s.heap.size) {ls : Array Slot} {s0 : Int32} (hf : f_Buffer_isLengthFor_95 μ s0 = some r) (hl : lv_has ls 3 []) : W p l e rm_Buffer_isLengthFor s m args below meth c s.heap [] 0 0 (MQ below (mQR (some (.int r))) args s 0 0 (fun _ => False)) (F0 m 95 ls [.int s0]) := by
  have hx := X.ex
  have hb := X.by_
  unfold f_Buffer_isLengthFor_95 at hf
  obtain ⟨v3, hv, hf⟩ := mbind hf
  obtain ⟨hz0, hz⟩ := mz_e hv
  rw [hz0] at hf
  obtain rfl := Option.some.inj hf
  exact r_zretR X hz d_Buffer_isLengthFor_95

set_option maxHeartbeats 4000000 in
set_option maxRecDepth 100000 in
theorem w_Buffer_isLengthFor_94 {μ : mM} {r : Int32} (X : mX p m meth c s args b_Buffer_isLengthFor 3 (some .boolean) "ColourLinker$Buffer") (G : mG D cA dA z0 s) (I : mI D cA z0 s μ s.heap [] s.heap.size) {ls : Array Slot}  (hf : f_Buffer_isLengthFor_94 μ = some r) (hl : lv_has ls 3 []) : W p l e rm_Buffer_isLengthFor s m args below meth c s.heap [] 0 0 (MQ below (mQR (some (.int r))) args s 0 0 (fun _ => False)) (F0 m 94 ls []) := by
  have hx := X.ex
  have hb := X.by_
  unfold f_Buffer_isLengthFor_94 at hf
  refine lv_iconst (v := 0) hx hb d_Buffer_isLengthFor_94 (by decide) ?_
  exact w_Buffer_isLengthFor_95 X G I hf hl

set_option maxHeartbeats 4000000 in
set_option maxRecDepth 100000 in
theorem w_Buffer_isLengthFor_79 {μ : mM} {r : Int32} (X : mX p m meth c s args b_Buffer_isLengthFor 3 (some .boolean) "ColourLinker$Buffer") (G : mG D cA dA z0 s) (I : mI D cA z0 s μ s.heap [] s.heap.size) {ls : Array Slot} {s0 : Int32} (hf : f_Buffer_isLengthFor_79 μ s0 = some r) (hl : lv_has ls 3 []) : W p l e rm_Buffer_isLengthFor s m args below meth c s.heap [] 0 0 (MQ below (mQR (some (.int r))) args s 0 0 (fun _ => False)) (F0 m 79 ls [.int s0]) := by
  have hx := X.ex
  have hb := X.by_
  unfold f_Buffer_isLengthFor_79 at hf
  obtain ⟨v2, hv, hf⟩ := mbind hf
  obtain ⟨hz0, hz⟩ := mz_e hv
  rw [hz0] at hf
  obtain rfl := Option.some.inj hf
  exact r_zretR X hz d_Buffer_isLengthFor_79

set_option maxHeartbeats 4000000 in
set_option maxRecDepth 100000 in
theorem w_Buffer_isLengthFor_78 {μ : mM} {r : Int32} (X : mX p m meth c s args b_Buffer_isLengthFor 3 (some .boolean) "ColourLinker$Buffer") (G : mG D cA dA z0 s) (I : mI D cA z0 s μ s.heap [] s.heap.size) {ls : Array Slot}  (hf : f_Buffer_isLengthFor_78 μ = some r) (hl : lv_has ls 3 []) : W p l e rm_Buffer_isLengthFor s m args below meth c s.heap [] 0 0 (MQ below (mQR (some (.int r))) args s 0 0 (fun _ => False)) (F0 m 78 ls []) := by
  have hx := X.ex
  have hb := X.by_
  unfold f_Buffer_isLengthFor_78 at hf
  refine lv_iconst (v := 0) hx hb d_Buffer_isLengthFor_78 (by decide) ?_
  exact w_Buffer_isLengthFor_79 X G I hf hl

set_option maxHeartbeats 4000000 in
set_option maxRecDepth 100000 in
theorem w_Buffer_isLengthFor_57 {μ : mM} {r : Int32} (X : mX p m meth c s args b_Buffer_isLengthFor 3 (some .boolean) "ColourLinker$Buffer") (G : mG D cA dA z0 s) (I : mI D cA z0 s μ s.heap [] s.heap.size) {ls : Array Slot} {s0 : Int32} (hf : f_Buffer_isLengthFor_57 μ s0 = some r) (hl : lv_has ls 3 []) : W p l e rm_Buffer_isLengthFor s m args below meth c s.heap [] 0 0 (MQ below (mQR (some (.int r))) args s 0 0 (fun _ => False)) (F0 m 57 ls [.int s0]) := by
  have hx := X.ex
  have hb := X.by_
  unfold f_Buffer_isLengthFor_57 at hf
  obtain ⟨v1, hv, hf⟩ := mbind hf
  obtain ⟨hz0, hz⟩ := mz_e hv
  rw [hz0] at hf
  obtain rfl := Option.some.inj hf
  exact r_zretR X hz d_Buffer_isLengthFor_57

set_option maxHeartbeats 4000000 in
set_option maxRecDepth 100000 in
theorem w_Buffer_isLengthFor_56 {μ : mM} {r : Int32} (X : mX p m meth c s args b_Buffer_isLengthFor 3 (some .boolean) "ColourLinker$Buffer") (G : mG D cA dA z0 s) (I : mI D cA z0 s μ s.heap [] s.heap.size) {ls : Array Slot}  (hf : f_Buffer_isLengthFor_56 μ = some r) (hl : lv_has ls 3 []) : W p l e rm_Buffer_isLengthFor s m args below meth c s.heap [] 0 0 (MQ below (mQR (some (.int r))) args s 0 0 (fun _ => False)) (F0 m 56 ls []) := by
  have hx := X.ex
  have hb := X.by_
  unfold f_Buffer_isLengthFor_56 at hf
  refine lv_iconst (v := 0) hx hb d_Buffer_isLengthFor_56 (by decide) ?_
  exact w_Buffer_isLengthFor_57 X G I hf hl

set_option maxHeartbeats 4000000 in
set_option maxRecDepth 100000 in
theorem w_Buffer_isLengthFor {μ : mM} {r : Int32} (X : mX p m meth c s args b_Buffer_isLengthFor 3 (some .boolean) "ColourLinker$Buffer") (G : mG D cA dA z0 s) (I : mI D cA z0 s μ s.heap [] s.heap.size) {ls : Array Slot} {x0 : Int32} {x1 : Int32} {x2 : Int32} (hf : f_Buffer_isLengthFor μ x0 x1 x2 = some r) (hl : lv_has ls 3 [(0, .int x0), (1, .int x1), (2, .int x2)]) : W p l e rm_Buffer_isLengthFor s m args below meth c s.heap [] 0 0 (MQ below (mQR (some (.int r))) args s 0 0 (fun _ => False)) (F0 m 0 ls []) := by
  have hx := X.ex
  have hb := X.by_
  unfold f_Buffer_isLengthFor at hf
  refine lv_iload_n hx hb d_Buffer_isLengthFor_0 rfl (lv_at hl 0 rfl) ?_
  by_cases hc1 : x0 = 1
  · have hf := mift hf hc1
    refine lv_tableIn (tgt := 32) (x := x0) hx hb d_Buffer_isLengthFor_1 (by rw [hc1]; decide) (by rw [hc1]; decide) (by rw [hc1]; rfl) (by decide) ?_
    refine lv_iload_n hx hb d_Buffer_isLengthFor_32 rfl (lv_at hl 1 rfl) ?_
    refine lv_bipush (v := 24) hx hb d_Buffer_isLengthFor_33 (by decide) ?_
    refine lv_icmp_gt (tgt := 56) hx hb d_Buffer_isLengthFor_35 (by decide) (fun hc => ?_) (fun hc => ?_)
    · have hf := mift hf hc
      exact w_Buffer_isLengthFor_56 X G I hf (lv_sub hl [] rfl)
    · have hf := miff hf hc
      refine lv_iload_n hx hb d_Buffer_isLengthFor_38 rfl (lv_at hl 1 rfl) ?_
      refine lv_iconst (v := 1) hx hb d_Buffer_isLengthFor_39 (by decide) ?_
      refine lv_icmp_eq (tgt := 56) hx hb d_Buffer_isLengthFor_40 (by decide) (fun hc => ?_) (fun hc => ?_)
      · have hf := mift hf hc
        exact w_Buffer_isLengthFor_56 X G I hf (lv_sub hl [] rfl)
      · have hf := miff hf hc
        refine lv_iload_n hx hb d_Buffer_isLengthFor_43 rfl (lv_at hl 2 rfl) ?_
        refine lv_iconst (v := 2) hx hb d_Buffer_isLengthFor_44 (by decide) ?_
        refine lv_iconst (v := 2) hx hb d_Buffer_isLengthFor_45 (by decide) ?_
        refine lv_iload_n hx hb d_Buffer_isLengthFor_46 rfl (lv_at hl 1 rfl) ?_
        refine lv_imul hx hb d_Buffer_isLengthFor_47 ?_
        refine lv_iadd hx hb d_Buffer_isLengthFor_48 ?_
        refine lv_icmp_ne (tgt := 56) hx hb d_Buffer_isLengthFor_49 (by decide) (fun hc => ?_) (fun hc => ?_)
        · have hf := miff hf hc
          exact w_Buffer_isLengthFor_56 X G I hf (lv_sub hl [] rfl)
        · have hf := mift hf hc
          refine lv_iconst (v := 1) hx hb d_Buffer_isLengthFor_52 (by decide) ?_
          refine lv_goto (tgt := 57) hx hb d_Buffer_isLengthFor_53 (by decide) ?_
          exact w_Buffer_isLengthFor_57 X G I hf (lv_sub hl [] rfl)
  have hf := miff hf hc1
  by_cases hc2 : x0 = 2
  · have hf := mift hf hc2
    refine lv_tableIn (tgt := 58) (x := x0) hx hb d_Buffer_isLengthFor_1 (by rw [hc2]; decide) (by rw [hc2]; decide) (by rw [hc2]; rfl) (by decide) ?_
    refine lv_iload_n hx hb d_Buffer_isLengthFor_58 rfl (lv_at hl 1 rfl) ?_
    refine lv_iconst (v := 1) hx hb d_Buffer_isLengthFor_59 (by decide) ?_
    refine lv_icmp_lt (tgt := 78) hx hb d_Buffer_isLengthFor_60 (by decide) (fun hc => ?_) (fun hc => ?_)
    · have hf := mift hf hc
      exact w_Buffer_isLengthFor_78 X G I hf (lv_sub hl [] rfl)
    · have hf := miff hf hc
      refine lv_iload_n hx hb d_Buffer_isLengthFor_63 rfl (lv_at hl 1 rfl) ?_
      refine lv_iconst (v := 4) hx hb d_Buffer_isLengthFor_64 (by decide) ?_
      refine lv_icmp_gt (tgt := 78) hx hb d_Buffer_isLengthFor_65 (by decide) (fun hc => ?_) (fun hc => ?_)
      · have hf := mift hf hc
        exact w_Buffer_isLengthFor_78 X G I hf (lv_sub hl [] rfl)
      · have hf := miff hf hc
        refine lv_iload_n hx hb d_Buffer_isLengthFor_68 rfl (lv_at hl 2 rfl) ?_
        refine lv_bipush (v := 6) hx hb d_Buffer_isLengthFor_69 (by decide) ?_
        refine lv_icmp_ne (tgt := 78) hx hb d_Buffer_isLengthFor_71 (by decide) (fun hc => ?_) (fun hc => ?_)
        · have hf := miff hf hc
          exact w_Buffer_isLengthFor_78 X G I hf (lv_sub hl [] rfl)
        · have hf := mift hf hc
          refine lv_iconst (v := 1) hx hb d_Buffer_isLengthFor_74 (by decide) ?_
          refine lv_goto (tgt := 79) hx hb d_Buffer_isLengthFor_75 (by decide) ?_
          exact w_Buffer_isLengthFor_79 X G I hf (lv_sub hl [] rfl)
  have hf := miff hf hc2
  by_cases hc3 : x0 = 3
  · have hf := mift hf hc3
    refine lv_tableIn (tgt := 80) (x := x0) hx hb d_Buffer_isLengthFor_1 (by rw [hc3]; decide) (by rw [hc3]; decide) (by rw [hc3]; rfl) (by decide) ?_
    refine lv_iload_n hx hb d_Buffer_isLengthFor_80 rfl (lv_at hl 1 rfl) ?_
    refine lv_if_ne (tgt := 94) hx hb d_Buffer_isLengthFor_81 (by decide) (fun hc => ?_) (fun hc => ?_)
    · have hf := miff hf hc
      exact w_Buffer_isLengthFor_94 X G I hf (lv_sub hl [] rfl)
    · have hf := mift hf hc
      refine lv_iload_n hx hb d_Buffer_isLengthFor_84 rfl (lv_at hl 2 rfl) ?_
      refine lv_bipush (v := 20) hx hb d_Buffer_isLengthFor_85 (by decide) ?_
      refine lv_icmp_ne (tgt := 94) hx hb d_Buffer_isLengthFor_87 (by decide) (fun hc => ?_) (fun hc => ?_)
      · have hf := miff hf hc
        exact w_Buffer_isLengthFor_94 X G I hf (lv_sub hl [] rfl)
      · have hf := mift hf hc
        refine lv_iconst (v := 1) hx hb d_Buffer_isLengthFor_90 (by decide) ?_
        refine lv_goto (tgt := 95) hx hb d_Buffer_isLengthFor_91 (by decide) ?_
        exact w_Buffer_isLengthFor_95 X G I hf (lv_sub hl [] rfl)
  have hf := miff hf hc3
  by_cases hc4 : x0 = 4
  · have hf := mift hf hc4
    refine lv_tableIn (tgt := 96) (x := x0) hx hb d_Buffer_isLengthFor_1 (by rw [hc4]; decide) (by rw [hc4]; decide) (by rw [hc4]; rfl) (by decide) ?_
    refine lv_iload_n hx hb d_Buffer_isLengthFor_96 rfl (lv_at hl 1 rfl) ?_
    refine lv_iconst (v := 2) hx hb d_Buffer_isLengthFor_97 (by decide) ?_
    refine lv_icmp_eq (tgt := 106) hx hb d_Buffer_isLengthFor_98 (by decide) (fun hc => ?_) (fun hc => ?_)
    · have hf := mift hf hc
      exact w_Buffer_isLengthFor_106 X G I hf (lv_sub hl [1, 2] rfl)
    · have hf := miff hf hc
      refine lv_iload_n hx hb d_Buffer_isLengthFor_101 rfl (lv_at hl 1 rfl) ?_
      refine lv_iconst (v := 3) hx hb d_Buffer_isLengthFor_102 (by decide) ?_
      refine lv_icmp_ne (tgt := 123) hx hb d_Buffer_isLengthFor_103 (by decide) (fun hc => ?_) (fun hc => ?_)
      · have hf := miff hf hc
        exact w_Buffer_isLengthFor_123 X G I hf (lv_sub hl [] rfl)
      · have hf := mift hf hc
        exact w_Buffer_isLengthFor_106 X G I hf (lv_sub hl [1, 2] rfl)
  have hf := miff hf hc4
  have hn1 := lv_neT hc1 (a := 1) (by decide)
  have hn2 := lv_neT hc2 (a := 2) (by decide)
  have hn3 := lv_neT hc3 (a := 3) (by decide)
  have hn4 := lv_neT hc4 (a := 4) (by decide)
  refine lv_tableOut (tgt := 125) (x := x0) hx hb d_Buffer_isLengthFor_1 (by omega) (by decide) ?_
  refine lv_iload_n hx hb d_Buffer_isLengthFor_125 rfl (lv_at hl 1 rfl) ?_
  refine lv_if_ne (tgt := 139) hx hb d_Buffer_isLengthFor_126 (by decide) (fun hc => ?_) (fun hc => ?_)
  · have hf := miff hf hc
    exact w_Buffer_isLengthFor_139 X G I hf (lv_sub hl [] rfl)
  · have hf := mift hf hc
    refine lv_iload_n hx hb d_Buffer_isLengthFor_129 rfl (lv_at hl 2 rfl) ?_
    refine lv_bipush (v := 8) hx hb d_Buffer_isLengthFor_130 (by decide) ?_
    refine lv_icmp_ne (tgt := 139) hx hb d_Buffer_isLengthFor_132 (by decide) (fun hc => ?_) (fun hc => ?_)
    · have hf := miff hf hc
      exact w_Buffer_isLengthFor_139 X G I hf (lv_sub hl [] rfl)
    · have hf := mift hf hc
      refine lv_iconst (v := 1) hx hb d_Buffer_isLengthFor_135 (by decide) ?_
      refine lv_goto (tgt := 140) hx hb d_Buffer_isLengthFor_136 (by decide) ?_
      exact w_Buffer_isLengthFor_140 X G I hf (lv_sub hl [] rfl)

set_option maxHeartbeats 4000000 in
set_option maxRecDepth 100000 in
theorem c_Buffer_isLengthFor {l : Launch} {D : va_G} {cA : Nat → ClassId} {dA z0 : Nat} {μ : mM} {x0 : Int32} {x1 : Int32} {x2 : Int32} {r : Int32} (hf : f_Buffer_isLengthFor μ x0 x1 x2 = some r) : Met l y_Buffer_isLengthFor (mW y_Buffer_isLengthFor b_Buffer_isLengthFor 3 (some .boolean)) rm_Buffer_isLengthFor (va_Pc [.int x0, .int x1, .int x2] (mPr D cA dA z0 μ)) (mQR (some (.int r))) 0 0 (fun _ => False) := by
  refine Met.ofW (cc := b_Buffer_isLengthFor) (maxL := 3) (ret := (some .boolean)) (by decide) rfl ?_
  intro p e s m args below meth c s₁ B hml hv
  obtain ⟨rfl, G, hP⟩ := hv
  have X := mX.of B hml
  exact m_entry (lv := [(0, .int x0), (1, .int x1), (2, .int x2)]) (Nat.le_of_ble_eq_true rfl) rfl (fun ls hl => w_Buffer_isLengthFor X G (mI.start hP) hf hl)

end WK
