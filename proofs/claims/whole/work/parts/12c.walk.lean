section WK
variable {p : Program} {l : Launch} {e : Env} {s : State} {m : MethodId} {args : Array Value} {below : List Frame} {meth : Method} {c : Code} {D : va_G} {cA : Nat → ClassId} {dA z0 : Nat}
abbrev rm_Buffer_entryFault : Room := { frames := 1, cells := 0, slots := 0, locals := 28 }
theorem h_Buffer_entryFault : mCV y_Buffer_entryFault b_Buffer_entryFault 6 (some .int) 1 := ⟨k_237, k_76, ⟨by decide, by decide, by decide +kernel⟩, k_236, k_2⟩
set_option maxHeartbeats 4000000 in
set_option maxRecDepth 100000 in
theorem w_Buffer_entryFault_102 {μ : mM} {h0 : Nat} {r : Int32} (X : mX p m meth c s args b_Buffer_entryFault 6 (some .int) "ColourLinker$Buffer") (G : mG D cA dA z0 s) (I : mI D cA z0 s μ s.heap [] s.heap.size) {ls : Array Slot} {x2 : Int32} (hf : f_Buffer_entryFault_102 μ h0 x2 = some r) (hl : lv_has ls 6 [(0, va_rf (some h0)), (2, .int x2)]) : W p l e rm_Buffer_entryFault s m args below meth c s.heap [] 0 0 (MQ below (mQR (some (.int r))) args s 0 0 (fun _ => False)) (F0 m 102 ls []) := by
  have hx := X.ex
  have hb := X.by_
  unfold f_Buffer_entryFault_102 at hf
  refine lv_iconst (v := 4) hx hb d_Buffer_entryFault_102 (by decide) ?_
  refine lv_iload_n hx hb d_Buffer_entryFault_103 rfl (lv_at hl 1 rfl) ?_
  refine lv_iconst (v := 1) hx hb d_Buffer_entryFault_104 (by decide) ?_
  refine lv_iadd hx hb d_Buffer_entryFault_105 ?_
  obtain ⟨q27, hv, hf⟩ := mbind hf
  refine m_caR (m_runS (As := [.int (4 : Int32), .int (x2 + (1 : Int32))]) (rest := []) X h_Buffer_broken k_223 (c_Buffer_broken hv) mPr_blind (m_pre G I) rfl rfl hl.1 (Nat.le_of_ble_eq_true rfl) rfl rfl ⟨Nat.le_of_ble_eq_true rfl, Nat.le_of_ble_eq_true rfl⟩ ⟨Nat.le_refl _, Nat.le_refl _⟩ d_Buffer_entryFault_106) ?_
  obtain rfl := Option.some.inj hf
  exact r_iretR X d_Buffer_entryFault_109

set_option maxHeartbeats 4000000 in
set_option maxRecDepth 100000 in
theorem w_Buffer_entryFault_54 {μ : mM} {h0 : Nat} {r : Int32} (X : mX p m meth c s args b_Buffer_entryFault 6 (some .int) "ColourLinker$Buffer") (G : mG D cA dA z0 s) (I : mI D cA z0 s μ s.heap [] s.heap.size) {ls : Array Slot} {x2 : Int32} (hf : f_Buffer_entryFault_54 μ h0 x2 = some r) (hl : lv_has ls 6 [(0, va_rf (some h0)), (2, .int x2)]) : W p l e rm_Buffer_entryFault s m args below meth c s.heap [] 0 0 (MQ below (mQR (some (.int r))) args s 0 0 (fun _ => False)) (F0 m 54 ls []) := by
  have hx := X.ex
  have hb := X.by_
  unfold f_Buffer_entryFault_54 at hf
  refine lv_iconst (v := 3) hx hb d_Buffer_entryFault_54 (by decide) ?_
  refine lv_iload_n hx hb d_Buffer_entryFault_55 rfl (lv_at hl 1 rfl) ?_
  obtain ⟨q26, hv, hf⟩ := mbind hf
  refine m_caR (m_runS (As := [.int (3 : Int32), .int x2]) (rest := []) X h_Buffer_broken k_223 (c_Buffer_broken hv) mPr_blind (m_pre G I) rfl rfl hl.1 (Nat.le_of_ble_eq_true rfl) rfl rfl ⟨Nat.le_of_ble_eq_true rfl, Nat.le_of_ble_eq_true rfl⟩ ⟨Nat.le_refl _, Nat.le_refl _⟩ d_Buffer_entryFault_56) ?_
  obtain rfl := Option.some.inj hf
  exact r_iretR X d_Buffer_entryFault_59

set_option maxHeartbeats 4000000 in
set_option maxRecDepth 100000 in
theorem w_Buffer_entryFault {μ : mM} {h0 : Nat} {r : Int32} (X : mX p m meth c s args b_Buffer_entryFault 6 (some .int) "ColourLinker$Buffer") (G : mG D cA dA z0 s) (I : mI D cA z0 s μ s.heap [] s.heap.size) {ls : Array Slot} {x1 : Int32} (hf : f_Buffer_entryFault μ h0 x1 = some r) (hl : lv_has ls 6 [(0, va_rf (some h0)), (1, .int x1)]) : W p l e rm_Buffer_entryFault s m args below meth c s.heap [] 0 0 (MQ below (mQR (some (.int r))) args s 0 0 (fun _ => False)) (F0 m 0 ls []) := by
  have hx := X.ex
  have hb := X.by_
  unfold f_Buffer_entryFault at hf
  refine lv_bipush (v := 8) hx hb d_Buffer_entryFault_0 (by decide) ?_
  refine lv_iconst (v := 4) hx hb d_Buffer_entryFault_2 (by decide) ?_
  refine lv_iload_n hx hb d_Buffer_entryFault_3 rfl (lv_at hl 1 rfl) ?_
  refine lv_imul hx hb d_Buffer_entryFault_4 ?_
  refine lv_iadd hx hb d_Buffer_entryFault_5 ?_
  refine lv_istore_n (i := 2) (lv' := [(2, .int ((8 : Int32) + ((4 : Int32) * x1))), (0, va_rf (some h0)), (1, .int x1)]) hx hb d_Buffer_entryFault_6 rfl hl (by decide) rfl (fun ls hl => ?_)
  refine r_aload_n X d_Buffer_entryFault_7 rfl (lv_at hl 1 rfl) ?_
  obtain ⟨v1, hv, hf⟩ := mbind hf
  refine r_getf X G I (mfA_e hv) o_Buffer_row k_105 (Or.inl rfl) d_Buffer_entryFault_8 ?_
  refine lv_iload_n hx hb d_Buffer_entryFault_11 rfl (lv_at hl 0 rfl) ?_
  obtain ⟨v2, hv, hf⟩ := mbind hf
  refine r_iald X G I hv d_Buffer_entryFault_12 ?_
  refine lv_istore_n (i := 3) (lv' := [(3, .int v2), (2, .int ((8 : Int32) + ((4 : Int32) * x1))), (0, va_rf (some h0)), (1, .int x1)]) hx hb d_Buffer_entryFault_13 rfl hl (by decide) rfl (fun ls hl => ?_)
  refine r_aload_n X d_Buffer_entryFault_14 rfl (lv_at hl 2 rfl) ?_
  obtain ⟨v3, hv, hf⟩ := mbind hf
  refine r_getf X G I (mfA_e hv) o_Buffer_row k_105 (Or.inl rfl) d_Buffer_entryFault_15 ?_
  refine lv_iload_n hx hb d_Buffer_entryFault_18 rfl (lv_at hl 1 rfl) ?_
  refine lv_iconst (v := 1) hx hb d_Buffer_entryFault_19 (by decide) ?_
  refine lv_iadd hx hb d_Buffer_entryFault_20 ?_
  obtain ⟨v4, hv, hf⟩ := mbind hf
  refine r_iald X G I hv d_Buffer_entryFault_21 ?_
  refine lv_istore (i := 4) (lv' := [(4, .int v4), (3, .int v2), (2, .int ((8 : Int32) + ((4 : Int32) * x1))), (0, va_rf (some h0)), (1, .int x1)]) hx hb d_Buffer_entryFault_22 hl (by decide) rfl (fun ls hl => ?_)
  refine r_aload_n X d_Buffer_entryFault_24 rfl (lv_at hl 3 rfl) ?_
  obtain ⟨v5, hv, hf⟩ := mbind hf
  refine r_getf X G I (mfA_e hv) o_Buffer_row k_105 (Or.inl rfl) d_Buffer_entryFault_25 ?_
  refine lv_iload_n hx hb d_Buffer_entryFault_28 rfl (lv_at hl 2 rfl) ?_
  refine lv_iconst (v := 2) hx hb d_Buffer_entryFault_29 (by decide) ?_
  refine lv_iadd hx hb d_Buffer_entryFault_30 ?_
  obtain ⟨v6, hv, hf⟩ := mbind hf
  refine r_iald X G I hv d_Buffer_entryFault_31 ?_
  refine lv_istore (i := 5) (lv' := [(5, .int v6), (4, .int v4), (3, .int v2), (2, .int ((8 : Int32) + ((4 : Int32) * x1))), (0, va_rf (some h0)), (1, .int x1)]) hx hb d_Buffer_entryFault_32 hl (by decide) rfl (fun ls hl => ?_)
  refine lv_iload_n hx hb d_Buffer_entryFault_34 rfl (lv_at hl 2 rfl) ?_
  refine lv_iconst (v := 1) hx hb d_Buffer_entryFault_35 (by decide) ?_
  refine lv_icmp_lt (tgt := 54) hx hb d_Buffer_entryFault_36 (by decide) (fun hc => ?_) (fun hc => ?_)
  · have hf := mift hf hc
    exact w_Buffer_entryFault_54 X G I hf (lv_sub hl [4, 3] rfl)
  · have hf := miff hf hc
    refine lv_iload_n hx hb d_Buffer_entryFault_39 rfl (lv_at hl 2 rfl) ?_
    refine lv_bipush (v := 12) hx hb d_Buffer_entryFault_40 (by decide) ?_
    refine lv_icmp_gt (tgt := 54) hx hb d_Buffer_entryFault_42 (by decide) (fun hc => ?_) (fun hc => ?_)
    · have hf := mift hf hc
      exact w_Buffer_entryFault_54 X G I hf (lv_sub hl [4, 3] rfl)
    · have hf := miff hf hc
      refine r_aload_n X d_Buffer_entryFault_45 rfl (lv_at hl 4 rfl) ?_
      refine lv_iload_n hx hb d_Buffer_entryFault_46 rfl (lv_at hl 2 rfl) ?_
      refine lv_iload_n hx hb d_Buffer_entryFault_47 rfl (lv_at hl 5 rfl) ?_
      obtain ⟨q7, hv, hf⟩ := mbind hf
      obtain ⟨a, ha, hv⟩ := mbind hv
      obtain ⟨ha, fs, hm⟩ := mrc_e ha
      refine m_caR (m_runV (As := [.int v2, .int x1]) (r := some h0) (rest := []) X G I h_Buffer_hasEntry k_238 (c_Buffer_hasEntry hv) mPr_blind (m_pre G I) hm rfl ha rfl rfl hl.1 (Nat.le_of_ble_eq_true rfl) rfl rfl ⟨Nat.le_of_ble_eq_true rfl, Nat.le_of_ble_eq_true rfl⟩ ⟨Nat.le_refl _, Nat.le_refl _⟩ d_Buffer_entryFault_48) ?_
      refine lv_if_eq (tgt := 60) hx hb d_Buffer_entryFault_51 (by decide) (fun hc => ?_) (fun hc => ?_)
      · have hf := mift hf hc
        refine lv_iload hx hb d_Buffer_entryFault_60 (lv_at hl 1 rfl) ?_
        refine lv_iconst (v := 4) hx hb d_Buffer_entryFault_62 (by decide) ?_
        refine lv_irem hx hb d_Buffer_entryFault_63 (by decide) ?_
        refine lv_if_ne (tgt := 102) hx hb d_Buffer_entryFault_64 (by decide) (fun hc => ?_) (fun hc => ?_)
        · have hf := miff hf hc
          exact w_Buffer_entryFault_102 X G I hf (lv_sub hl [4, 3] rfl)
        · have hf := mift hf hc
          refine lv_iload hx hb d_Buffer_entryFault_67 (lv_at hl 1 rfl) ?_
          refine lv_bipush (v := 8) hx hb d_Buffer_entryFault_69 (by decide) ?_
          refine lv_iconst (v := 4) hx hb d_Buffer_entryFault_71 (by decide) ?_
          refine r_aload_n X d_Buffer_entryFault_72 rfl (lv_at hl 4 rfl) ?_
          obtain ⟨v8, hv, hf⟩ := mbind hf
          refine r_getf X G I (mfA_e hv) o_Buffer_row k_105 (Or.inl rfl) d_Buffer_entryFault_73 ?_
          refine lv_bipush (v := 6) hx hb d_Buffer_entryFault_76 (by decide) ?_
          obtain ⟨v9, hv, hf⟩ := mbind hf
          refine r_iald X G I hv d_Buffer_entryFault_78 ?_
          refine lv_imul hx hb d_Buffer_entryFault_79 ?_
          refine lv_iadd hx hb d_Buffer_entryFault_80 ?_
          refine lv_icmp_lt (tgt := 102) hx hb d_Buffer_entryFault_81 (by decide) (fun hc => ?_) (fun hc => ?_)
          · have hf := mift hf hc
            exact w_Buffer_entryFault_102 X G I hf (lv_sub hl [4, 3] rfl)
          · have hf := miff hf hc
            refine lv_iload hx hb d_Buffer_entryFault_84 (lv_at hl 0 rfl) ?_
            refine lv_iconst (v := 2) hx hb d_Buffer_entryFault_86 (by decide) ?_
            refine lv_icmp_lt (tgt := 102) hx hb d_Buffer_entryFault_87 (by decide) (fun hc => ?_) (fun hc => ?_)
            · have hf := mift hf hc
              exact w_Buffer_entryFault_102 X G I hf (lv_sub hl [4, 3] rfl)
            · have hf := miff hf hc
              refine lv_iload hx hb d_Buffer_entryFault_90 (lv_at hl 1 rfl) ?_
              refine lv_iload hx hb d_Buffer_entryFault_92 (lv_at hl 0 rfl) ?_
              refine lv_iadd hx hb d_Buffer_entryFault_94 ?_
              refine r_aload_n X d_Buffer_entryFault_95 rfl (lv_at hl 4 rfl) ?_
              obtain ⟨v10, hv, hf⟩ := mbind hf
              refine r_getf X G I (mfI_e hv) o_Buffer_count k_106 (Or.inl rfl) d_Buffer_entryFault_96 ?_
              refine lv_icmp_le (tgt := 110) hx hb d_Buffer_entryFault_99 (by decide) (fun hc => ?_) (fun hc => ?_)
              · have hf := mift hf hc
                refine r_aload_n X d_Buffer_entryFault_110 rfl (lv_at hl 4 rfl) ?_
                obtain ⟨v11, hv, hf⟩ := mbind hf
                refine r_getf X G I (mfA_e hv) o_Buffer_row k_105 (Or.inl rfl) d_Buffer_entryFault_111 ?_
                refine lv_iload_n hx hb d_Buffer_entryFault_114 rfl (lv_at hl 3 rfl) ?_
                refine lv_iconst (v := 3) hx hb d_Buffer_entryFault_115 (by decide) ?_
                refine lv_iadd hx hb d_Buffer_entryFault_116 ?_
                obtain ⟨v12, hv, hf⟩ := mbind hf
                refine r_iald X G I hv d_Buffer_entryFault_117 ?_
                refine lv_if_eq (tgt := 129) hx hb d_Buffer_entryFault_118 (by decide) (fun hc => ?_) (fun hc => ?_)
                · have hf := mift hf hc
                  refine r_aload_n X d_Buffer_entryFault_129 rfl (lv_at hl 4 rfl) ?_
                  refine lv_iload_n hx hb d_Buffer_entryFault_130 rfl (lv_at hl 5 rfl) ?_
                  refine lv_iload hx hb d_Buffer_entryFault_131 (lv_at hl 1 rfl) ?_
                  refine lv_iload hx hb d_Buffer_entryFault_133 (lv_at hl 0 rfl) ?_
                  obtain ⟨q13, hv, hf⟩ := mbind hf
                  obtain ⟨a, ha, hv⟩ := mbind hv
                  obtain ⟨ha, fs, hm⟩ := mrc_e ha
                  refine m_caR (m_runV (As := [.int x1, .int v4, .int v6]) (r := some h0) (rest := []) X G I h_Buffer_overlapsEarlier k_242 (c_Buffer_overlapsEarlier hv) mPr_blind (m_pre G I) hm rfl ha rfl rfl hl.1 (Nat.le_of_ble_eq_true rfl) rfl rfl ⟨Nat.le_of_ble_eq_true rfl, Nat.le_of_ble_eq_true rfl⟩ ⟨Nat.le_refl _, Nat.le_refl _⟩ d_Buffer_entryFault_135) ?_
                  refine lv_if_eq (tgt := 150) hx hb d_Buffer_entryFault_138 (by decide) (fun hc => ?_) (fun hc => ?_)
                  · have hf := mift hf hc
                    refine lv_iload_n hx hb d_Buffer_entryFault_150 rfl (lv_at hl 2 rfl) ?_
                    refine r_aload_n X d_Buffer_entryFault_151 rfl (lv_at hl 4 rfl) ?_
                    obtain ⟨v14, hv, hf⟩ := mbind hf
                    refine r_getf X G I (mfA_e hv) o_Buffer_row k_105 (Or.inl rfl) d_Buffer_entryFault_152 ?_
                    refine lv_iload hx hb d_Buffer_entryFault_155 (lv_at hl 1 rfl) ?_
                    obtain ⟨v15, hv, hf⟩ := mbind hf
                    refine r_iald X G I hv d_Buffer_entryFault_157 ?_
                    obtain ⟨q16, hv, hf⟩ := mbind hf
                    refine m_caR (m_runS (As := [.int v2, .int v15]) (rest := []) X h_Buffer_isTypeFor k_246 (c_Buffer_isTypeFor hv) mPr_blind (m_pre G I) rfl rfl hl.1 (Nat.le_of_ble_eq_true rfl) rfl rfl ⟨Nat.le_of_ble_eq_true rfl, Nat.le_of_ble_eq_true rfl⟩ ⟨Nat.le_refl _, Nat.le_refl _⟩ d_Buffer_entryFault_158) ?_
                    refine lv_if_ne (tgt := 172) hx hb d_Buffer_entryFault_161 (by decide) (fun hc => ?_) (fun hc => ?_)
                    · have hf := miff hf hc
                      refine r_aload_n X d_Buffer_entryFault_172 rfl (lv_at hl 4 rfl) ?_
                      obtain ⟨v17, hv, hf⟩ := mbind hf
                      refine r_getf X G I (mfA_e hv) o_Buffer_row k_105 (Or.inl rfl) d_Buffer_entryFault_173 ?_
                      refine lv_iload hx hb d_Buffer_entryFault_176 (lv_at hl 1 rfl) ?_
                      obtain ⟨v18, hv, hf⟩ := mbind hf
                      refine r_iald X G I hv d_Buffer_entryFault_178 ?_
                      refine r_aload_n X d_Buffer_entryFault_179 rfl (lv_at hl 4 rfl) ?_
                      obtain ⟨v19, hv, hf⟩ := mbind hf
                      refine r_getf X G I (mfA_e hv) o_Buffer_row k_105 (Or.inl rfl) d_Buffer_entryFault_180 ?_
                      refine lv_iload hx hb d_Buffer_entryFault_183 (lv_at hl 1 rfl) ?_
                      refine lv_iconst (v := 1) hx hb d_Buffer_entryFault_185 (by decide) ?_
                      refine lv_iadd hx hb d_Buffer_entryFault_186 ?_
                      obtain ⟨v20, hv, hf⟩ := mbind hf
                      refine r_iald X G I hv d_Buffer_entryFault_187 ?_
                      refine lv_iload hx hb d_Buffer_entryFault_188 (lv_at hl 0 rfl) ?_
                      obtain ⟨q21, hv, hf⟩ := mbind hf
                      refine m_caR (m_runS (As := [.int v18, .int v20, .int v6]) (rest := []) X h_Buffer_isLengthFor k_249 (c_Buffer_isLengthFor hv) mPr_blind (m_pre G I) rfl rfl hl.1 (Nat.le_of_ble_eq_true rfl) rfl rfl ⟨Nat.le_of_ble_eq_true rfl, Nat.le_of_ble_eq_true rfl⟩ ⟨Nat.le_refl _, Nat.le_refl _⟩ d_Buffer_entryFault_190) ?_
                      refine lv_if_ne (tgt := 206) hx hb d_Buffer_entryFault_193 (by decide) (fun hc => ?_) (fun hc => ?_)
                      · have hf := miff hf hc
                        refine lv_iconst (v := 0) hx hb d_Buffer_entryFault_206 (by decide) ?_
                        obtain rfl := Option.some.inj hf
                        exact r_iretR X d_Buffer_entryFault_207
                      · have hf := mift hf hc
                        refine lv_bipush (v := 8) hx hb d_Buffer_entryFault_196 (by decide) ?_
                        refine lv_iload hx hb d_Buffer_entryFault_198 (lv_at hl 1 rfl) ?_
                        refine lv_iconst (v := 1) hx hb d_Buffer_entryFault_200 (by decide) ?_
                        refine lv_iadd hx hb d_Buffer_entryFault_201 ?_
                        obtain ⟨q22, hv, hf⟩ := mbind hf
                        refine m_caR (m_runS (As := [.int (8 : Int32), .int (v4 + (1 : Int32))]) (rest := []) X h_Buffer_broken k_223 (c_Buffer_broken hv) mPr_blind (m_pre G I) rfl rfl hl.1 (Nat.le_of_ble_eq_true rfl) rfl rfl ⟨Nat.le_of_ble_eq_true rfl, Nat.le_of_ble_eq_true rfl⟩ ⟨Nat.le_refl _, Nat.le_refl _⟩ d_Buffer_entryFault_202) ?_
                        obtain rfl := Option.some.inj hf
                        exact r_iretR X d_Buffer_entryFault_205
                    · have hf := mift hf hc
                      refine lv_bipush (v := 7) hx hb d_Buffer_entryFault_164 (by decide) ?_
                      refine lv_iload hx hb d_Buffer_entryFault_166 (lv_at hl 1 rfl) ?_
                      obtain ⟨q23, hv, hf⟩ := mbind hf
                      refine m_caR (m_runS (As := [.int (7 : Int32), .int v4]) (rest := []) X h_Buffer_broken k_223 (c_Buffer_broken hv) mPr_blind (m_pre G I) rfl rfl hl.1 (Nat.le_of_ble_eq_true rfl) rfl rfl ⟨Nat.le_of_ble_eq_true rfl, Nat.le_of_ble_eq_true rfl⟩ ⟨Nat.le_refl _, Nat.le_refl _⟩ d_Buffer_entryFault_168) ?_
                      obtain rfl := Option.some.inj hf
                      exact r_iretR X d_Buffer_entryFault_171
                  · have hf := miff hf hc
                    refine lv_bipush (v := 6) hx hb d_Buffer_entryFault_141 (by decide) ?_
                    refine lv_iload_n hx hb d_Buffer_entryFault_143 rfl (lv_at hl 3 rfl) ?_
                    refine lv_iconst (v := 1) hx hb d_Buffer_entryFault_144 (by decide) ?_
                    refine lv_iadd hx hb d_Buffer_entryFault_145 ?_
                    obtain ⟨q24, hv, hf⟩ := mbind hf
                    refine m_caR (m_runS (As := [.int (6 : Int32), .int (((8 : Int32) + ((4 : Int32) * x1)) + (1 : Int32))]) (rest := []) X h_Buffer_broken k_223 (c_Buffer_broken hv) mPr_blind (m_pre G I) rfl rfl hl.1 (Nat.le_of_ble_eq_true rfl) rfl rfl ⟨Nat.le_of_ble_eq_true rfl, Nat.le_of_ble_eq_true rfl⟩ ⟨Nat.le_refl _, Nat.le_refl _⟩ d_Buffer_entryFault_146) ?_
                    obtain rfl := Option.some.inj hf
                    exact r_iretR X d_Buffer_entryFault_149
                · have hf := miff hf hc
                  refine lv_iconst (v := 5) hx hb d_Buffer_entryFault_121 (by decide) ?_
                  refine lv_iload_n hx hb d_Buffer_entryFault_122 rfl (lv_at hl 3 rfl) ?_
                  refine lv_iconst (v := 3) hx hb d_Buffer_entryFault_123 (by decide) ?_
                  refine lv_iadd hx hb d_Buffer_entryFault_124 ?_
                  obtain ⟨q25, hv, hf⟩ := mbind hf
                  refine m_caR (m_runS (As := [.int (5 : Int32), .int (((8 : Int32) + ((4 : Int32) * x1)) + (3 : Int32))]) (rest := []) X h_Buffer_broken k_223 (c_Buffer_broken hv) mPr_blind (m_pre G I) rfl rfl hl.1 (Nat.le_of_ble_eq_true rfl) rfl rfl ⟨Nat.le_of_ble_eq_true rfl, Nat.le_of_ble_eq_true rfl⟩ ⟨Nat.le_refl _, Nat.le_refl _⟩ d_Buffer_entryFault_125) ?_
                  obtain rfl := Option.some.inj hf
                  exact r_iretR X d_Buffer_entryFault_128
              · have hf := miff hf hc
                exact w_Buffer_entryFault_102 X G I hf (lv_sub hl [4, 3] rfl)
      · have hf := miff hf hc
        exact w_Buffer_entryFault_54 X G I hf (lv_sub hl [4, 3] rfl)

set_option maxHeartbeats 4000000 in
set_option maxRecDepth 100000 in
theorem c_Buffer_entryFault {l : Launch} {D : va_G} {cA : Nat → ClassId} {dA z0 : Nat} {μ : mM} {h0 : Nat} {x1 : Int32} {r : Int32} (hf : f_Buffer_entryFault μ h0 x1 = some r) : Met l y_Buffer_entryFault (mW y_Buffer_entryFault b_Buffer_entryFault 6 (some .int)) rm_Buffer_entryFault (va_Pc [.ref h0, .int x1] (mPr D cA dA z0 μ)) (mQR (some (.int r))) 0 0 (fun _ => False) := by
  refine Met.ofW (cc := b_Buffer_entryFault) (maxL := 6) (ret := (some .int)) (by decide) rfl ?_
  intro p e s m args below meth c s₁ B hml hv
  obtain ⟨rfl, G, hP⟩ := hv
  have X := mX.of B hml
  exact m_entry (lv := [(0, va_rf (some h0)), (1, .int x1)]) (Nat.le_of_ble_eq_true rfl) rfl (fun ls hl => w_Buffer_entryFault X G (mI.start hP) hf hl)

abbrev rm_Buffer_hasWayForth : Room := { frames := 1, cells := 0, slots := 0, locals := 23 }
theorem h_Buffer_hasWayForth : mCV y_Buffer_hasWayForth b_Buffer_hasWayForth 2 (some .boolean) 0 := ⟨k_255, k_76, ⟨by decide, by decide, by decide +kernel⟩, k_254, k_5⟩
set_option maxHeartbeats 4000000 in
set_option maxRecDepth 100000 in
theorem w_Buffer_hasWayForth_85 {μ : mM} {h0 : Nat} {r : Int32} (X : mX p m meth c s args b_Buffer_hasWayForth 2 (some .boolean) "ColourLinker$Buffer") (G : mG D cA dA z0 s) (I : mI D cA z0 s μ s.heap [] s.heap.size) {ls : Array Slot} {s0 : Int32} (hf : f_Buffer_hasWayForth_85 μ h0 s0 = some r) (hl : lv_has ls 2 [(0, va_rf (some h0))]) : W p l e rm_Buffer_hasWayForth s m args below meth c s.heap [] 0 0 (MQ below (mQR (some (.int r))) args s 0 0 (fun _ => False)) (F0 m 85 ls [.int s0]) := by
  have hx := X.ex
  have hb := X.by_
  unfold f_Buffer_hasWayForth_85 at hf
  obtain ⟨v14, hv, hf⟩ := mbind hf
  obtain ⟨hz0, hz⟩ := mz_e hv
  rw [hz0] at hf
  obtain rfl := Option.some.inj hf
  exact r_zretR X hz d_Buffer_hasWayForth_85

set_option maxHeartbeats 4000000 in
set_option maxRecDepth 100000 in
theorem w_Buffer_hasWayForth_84 {μ : mM} {h0 : Nat} {r : Int32} (X : mX p m meth c s args b_Buffer_hasWayForth 2 (some .boolean) "ColourLinker$Buffer") (G : mG D cA dA z0 s) (I : mI D cA z0 s μ s.heap [] s.heap.size) {ls : Array Slot}  (hf : f_Buffer_hasWayForth_84 μ h0 = some r) (hl : lv_has ls 2 [(0, va_rf (some h0))]) : W p l e rm_Buffer_hasWayForth s m args below meth c s.heap [] 0 0 (MQ below (mQR (some (.int r))) args s 0 0 (fun _ => False)) (F0 m 84 ls []) := by
  have hx := X.ex
  have hb := X.by_
  unfold f_Buffer_hasWayForth_84 at hf
  refine lv_iconst (v := 0) hx hb d_Buffer_hasWayForth_84 (by decide) ?_
  exact w_Buffer_hasWayForth_85 X G I hf hl

set_option maxHeartbeats 4000000 in
set_option maxRecDepth 100000 in
theorem w_Buffer_hasWayForth_80 {μ : mM} {h0 : Nat} {r : Int32} (X : mX p m meth c s args b_Buffer_hasWayForth 2 (some .boolean) "ColourLinker$Buffer") (G : mG D cA dA z0 s) (I : mI D cA z0 s μ s.heap [] s.heap.size) {ls : Array Slot}  (hf : f_Buffer_hasWayForth_80 μ h0 = some r) (hl : lv_has ls 2 [(0, va_rf (some h0))]) : W p l e rm_Buffer_hasWayForth s m args below meth c s.heap [] 0 0 (MQ below (mQR (some (.int r))) args s 0 0 (fun _ => False)) (F0 m 80 ls []) := by
  have hx := X.ex
  have hb := X.by_
  unfold f_Buffer_hasWayForth_80 at hf
  refine lv_iconst (v := 1) hx hb d_Buffer_hasWayForth_80 (by decide) ?_
  refine lv_goto (tgt := 85) hx hb d_Buffer_hasWayForth_81 (by decide) ?_
  exact w_Buffer_hasWayForth_85 X G I hf hl

set_option maxHeartbeats 4000000 in
set_option maxRecDepth 100000 in
theorem w_Buffer_hasWayForth {μ : mM} {h0 : Nat} {r : Int32} (X : mX p m meth c s args b_Buffer_hasWayForth 2 (some .boolean) "ColourLinker$Buffer") (G : mG D cA dA z0 s) (I : mI D cA z0 s μ s.heap [] s.heap.size) {ls : Array Slot}  (hf : f_Buffer_hasWayForth μ h0 = some r) (hl : lv_has ls 2 [(0, va_rf (some h0))]) : W p l e rm_Buffer_hasWayForth s m args below meth c s.heap [] 0 0 (MQ below (mQR (some (.int r))) args s 0 0 (fun _ => False)) (F0 m 0 ls []) := by
  have hx := X.ex
  have hb := X.by_
  unfold f_Buffer_hasWayForth at hf
  refine r_aload_n X d_Buffer_hasWayForth_0 rfl (lv_at hl 0 rfl) ?_
  obtain ⟨v1, hv, hf⟩ := mbind hf
  refine r_getf X G I (mfA_e hv) o_Buffer_row k_105 (Or.inl rfl) d_Buffer_hasWayForth_1 ?_
  refine lv_bipush (v := 6) hx hb d_Buffer_hasWayForth_4 (by decide) ?_
  obtain ⟨v2, hv, hf⟩ := mbind hf
  refine r_iald X G I hv d_Buffer_hasWayForth_6 ?_
  refine lv_istore_n (i := 1) (lv' := [(1, .int v2), (0, va_rf (some h0))]) hx hb d_Buffer_hasWayForth_7 rfl hl (by decide) (by simp [mrf_cat]) (fun ls hl => ?_)
  refine r_aload_n X d_Buffer_hasWayForth_8 rfl (lv_at hl 1 rfl) ?_
  obtain ⟨v3, hv, hf⟩ := mbind hf
  refine r_getf X G I (mfA_e hv) o_Buffer_row k_105 (Or.inl rfl) d_Buffer_hasWayForth_9 ?_
  refine lv_iconst (v := 3) hx hb d_Buffer_hasWayForth_12 (by decide) ?_
  obtain ⟨v4, hv, hf⟩ := mbind hf
  refine r_iald X G I hv d_Buffer_hasWayForth_13 ?_
  refine lv_iconst (v := 1) hx hb d_Buffer_hasWayForth_14 (by decide) ?_
  refine lv_icmp_ne (tgt := 25) hx hb d_Buffer_hasWayForth_15 (by decide) (fun hc => ?_) (fun hc => ?_)
  · have hf := miff hf hc
    refine r_aload_n X d_Buffer_hasWayForth_25 rfl (lv_at hl 1 rfl) ?_
    refine lv_bipush (v := 6) hx hb d_Buffer_hasWayForth_26 (by decide) ?_
    refine lv_iload_n hx hb d_Buffer_hasWayForth_28 rfl (lv_at hl 0 rfl) ?_
    obtain ⟨q5, hv, hf⟩ := mbind hf
    obtain ⟨a, ha, hv⟩ := mbind hv
    obtain ⟨ha, fs, hm⟩ := mrc_e ha
    refine m_caR (m_runV (As := [.int (6 : Int32), .int v2]) (r := some h0) (rest := []) X G I h_Buffer_hasEntry k_238 (c_Buffer_hasEntry hv) mPr_blind (m_pre G I) hm rfl ha rfl rfl hl.1 (Nat.le_of_ble_eq_true rfl) rfl rfl ⟨Nat.le_of_ble_eq_true rfl, Nat.le_of_ble_eq_true rfl⟩ ⟨Nat.le_refl _, Nat.le_refl _⟩ d_Buffer_hasWayForth_29) ?_
    refine lv_if_ne (tgt := 80) hx hb d_Buffer_hasWayForth_32 (by decide) (fun hc => ?_) (fun hc => ?_)
    · have hf := miff hf hc
      exact w_Buffer_hasWayForth_80 X G I hf (lv_sub hl [1] rfl)
    · have hf := mift hf hc
      refine r_aload_n X d_Buffer_hasWayForth_35 rfl (lv_at hl 1 rfl) ?_
      obtain ⟨v6, hv, hf⟩ := mbind hf
      refine r_getf X G I (mfA_e hv) o_Buffer_row k_105 (Or.inl rfl) d_Buffer_hasWayForth_36 ?_
      refine lv_iconst (v := 4) hx hb d_Buffer_hasWayForth_39 (by decide) ?_
      obtain ⟨v7, hv, hf⟩ := mbind hf
      refine r_iald X G I hv d_Buffer_hasWayForth_40 ?_
      refine lv_if_ne (tgt := 84) hx hb d_Buffer_hasWayForth_41 (by decide) (fun hc => ?_) (fun hc => ?_)
      · have hf := miff hf hc
        exact w_Buffer_hasWayForth_84 X G I hf (lv_sub hl [1] rfl)
      · have hf := mift hf hc
        refine r_aload_n X d_Buffer_hasWayForth_44 rfl (lv_at hl 1 rfl) ?_
        refine lv_iconst (v := 2) hx hb d_Buffer_hasWayForth_45 (by decide) ?_
        refine lv_iload_n hx hb d_Buffer_hasWayForth_46 rfl (lv_at hl 0 rfl) ?_
        obtain ⟨q8, hv, hf⟩ := mbind hf
        obtain ⟨a, ha, hv⟩ := mbind hv
        obtain ⟨ha, fs, hm⟩ := mrc_e ha
        refine m_caR (m_runV (As := [.int (2 : Int32), .int v2]) (r := some h0) (rest := []) X G I h_Buffer_hasEntry k_238 (c_Buffer_hasEntry hv) mPr_blind (m_pre G I) hm rfl ha rfl rfl hl.1 (Nat.le_of_ble_eq_true rfl) rfl rfl ⟨Nat.le_of_ble_eq_true rfl, Nat.le_of_ble_eq_true rfl⟩ ⟨Nat.le_refl _, Nat.le_refl _⟩ d_Buffer_hasWayForth_47) ?_
        refine lv_if_eq (tgt := 84) hx hb d_Buffer_hasWayForth_50 (by decide) (fun hc => ?_) (fun hc => ?_)
        · have hf := mift hf hc
          exact w_Buffer_hasWayForth_84 X G I hf (lv_sub hl [1] rfl)
        · have hf := miff hf hc
          refine r_aload_n X d_Buffer_hasWayForth_53 rfl (lv_at hl 1 rfl) ?_
          refine lv_iconst (v := 3) hx hb d_Buffer_hasWayForth_54 (by decide) ?_
          refine lv_iload_n hx hb d_Buffer_hasWayForth_55 rfl (lv_at hl 0 rfl) ?_
          obtain ⟨q9, hv, hf⟩ := mbind hf
          obtain ⟨a, ha, hv⟩ := mbind hv
          obtain ⟨ha, fs, hm⟩ := mrc_e ha
          refine m_caR (m_runV (As := [.int (3 : Int32), .int v2]) (r := some h0) (rest := []) X G I h_Buffer_hasEntry k_238 (c_Buffer_hasEntry hv) mPr_blind (m_pre G I) hm rfl ha rfl rfl hl.1 (Nat.le_of_ble_eq_true rfl) rfl rfl ⟨Nat.le_of_ble_eq_true rfl, Nat.le_of_ble_eq_true rfl⟩ ⟨Nat.le_refl _, Nat.le_refl _⟩ d_Buffer_hasWayForth_56) ?_
          refine lv_if_eq (tgt := 84) hx hb d_Buffer_hasWayForth_59 (by decide) (fun hc => ?_) (fun hc => ?_)
          · have hf := mift hf hc
            exact w_Buffer_hasWayForth_84 X G I hf (lv_sub hl [1] rfl)
          · have hf := miff hf hc
            refine r_aload_n X d_Buffer_hasWayForth_62 rfl (lv_at hl 1 rfl) ?_
            refine lv_iconst (v := 4) hx hb d_Buffer_hasWayForth_63 (by decide) ?_
            refine lv_iload_n hx hb d_Buffer_hasWayForth_64 rfl (lv_at hl 0 rfl) ?_
            obtain ⟨q10, hv, hf⟩ := mbind hf
            obtain ⟨a, ha, hv⟩ := mbind hv
            obtain ⟨ha, fs, hm⟩ := mrc_e ha
            refine m_caR (m_runV (As := [.int (4 : Int32), .int v2]) (r := some h0) (rest := []) X G I h_Buffer_hasEntry k_238 (c_Buffer_hasEntry hv) mPr_blind (m_pre G I) hm rfl ha rfl rfl hl.1 (Nat.le_of_ble_eq_true rfl) rfl rfl ⟨Nat.le_of_ble_eq_true rfl, Nat.le_of_ble_eq_true rfl⟩ ⟨Nat.le_refl _, Nat.le_refl _⟩ d_Buffer_hasWayForth_65) ?_
            refine lv_if_eq (tgt := 84) hx hb d_Buffer_hasWayForth_68 (by decide) (fun hc => ?_) (fun hc => ?_)
            · have hf := mift hf hc
              exact w_Buffer_hasWayForth_84 X G I hf (lv_sub hl [1] rfl)
            · have hf := miff hf hc
              refine r_aload_n X d_Buffer_hasWayForth_71 rfl (lv_at hl 1 rfl) ?_
              refine lv_iconst (v := 5) hx hb d_Buffer_hasWayForth_72 (by decide) ?_
              refine lv_iload_n hx hb d_Buffer_hasWayForth_73 rfl (lv_at hl 0 rfl) ?_
              obtain ⟨q11, hv, hf⟩ := mbind hf
              obtain ⟨a, ha, hv⟩ := mbind hv
              obtain ⟨ha, fs, hm⟩ := mrc_e ha
              refine m_caR (m_runV (As := [.int (5 : Int32), .int v2]) (r := some h0) (rest := []) X G I h_Buffer_hasEntry k_238 (c_Buffer_hasEntry hv) mPr_blind (m_pre G I) hm rfl ha rfl rfl hl.1 (Nat.le_of_ble_eq_true rfl) rfl rfl ⟨Nat.le_of_ble_eq_true rfl, Nat.le_of_ble_eq_true rfl⟩ ⟨Nat.le_refl _, Nat.le_refl _⟩ d_Buffer_hasWayForth_74) ?_
              refine lv_if_eq (tgt := 84) hx hb d_Buffer_hasWayForth_77 (by decide) (fun hc => ?_) (fun hc => ?_)
              · have hf := mift hf hc
                exact w_Buffer_hasWayForth_84 X G I hf (lv_sub hl [1] rfl)
              · have hf := miff hf hc
                exact w_Buffer_hasWayForth_80 X G I hf (lv_sub hl [1] rfl)
  · have hf := mift hf hc
    refine r_aload_n X d_Buffer_hasWayForth_18 rfl (lv_at hl 1 rfl) ?_
    refine lv_iconst (v := 1) hx hb d_Buffer_hasWayForth_19 (by decide) ?_
    refine lv_iload_n hx hb d_Buffer_hasWayForth_20 rfl (lv_at hl 0 rfl) ?_
    obtain ⟨q12, hv, hf⟩ := mbind hf
    obtain ⟨a, ha, hv⟩ := mbind hv
    obtain ⟨ha, fs, hm⟩ := mrc_e ha
    refine m_caR (m_runV (As := [.int (1 : Int32), .int v2]) (r := some h0) (rest := []) X G I h_Buffer_hasEntry k_238 (c_Buffer_hasEntry hv) mPr_blind (m_pre G I) hm rfl ha rfl rfl hl.1 (Nat.le_of_ble_eq_true rfl) rfl rfl ⟨Nat.le_of_ble_eq_true rfl, Nat.le_of_ble_eq_true rfl⟩ ⟨Nat.le_refl _, Nat.le_refl _⟩ d_Buffer_hasWayForth_21) ?_
    obtain ⟨v13, hv, hf⟩ := mbind hf
    obtain ⟨hz0, hz⟩ := mz_e hv
    rw [hz0] at hf
    obtain rfl := Option.some.inj hf
    exact r_zretR X hz d_Buffer_hasWayForth_24

set_option maxHeartbeats 4000000 in
set_option maxRecDepth 100000 in
theorem c_Buffer_hasWayForth {l : Launch} {D : va_G} {cA : Nat → ClassId} {dA z0 : Nat} {μ : mM} {h0 : Nat} {r : Int32} (hf : f_Buffer_hasWayForth μ h0 = some r) : Met l y_Buffer_hasWayForth (mW y_Buffer_hasWayForth b_Buffer_hasWayForth 2 (some .boolean)) rm_Buffer_hasWayForth (va_Pc [.ref h0] (mPr D cA dA z0 μ)) (mQR (some (.int r))) 0 0 (fun _ => False) := by
  refine Met.ofW (cc := b_Buffer_hasWayForth) (maxL := 2) (ret := (some .boolean)) (by decide) rfl ?_
  intro p e s m args below meth c s₁ B hml hv
  obtain ⟨rfl, G, hP⟩ := hv
  have X := mX.of B hml
  exact m_entry (lv := [(0, va_rf (some h0))]) (Nat.le_of_ble_eq_true rfl) rfl (fun ls hl => w_Buffer_hasWayForth X G (mI.start hP) hf hl)

abbrev rm_Buffer_fault : Room := { frames := 2, cells := 0, slots := 0, locals := 53 }
theorem h_Buffer_fault : mCV y_Buffer_fault b_Buffer_fault 3 (some .int) 0 := ⟨k_219, k_76, ⟨by decide, by decide, by decide +kernel⟩, k_217, k_218⟩
set_option maxHeartbeats 4000000 in
set_option maxRecDepth 100000 in
theorem w_Buffer_fault_91 {μ : mM} {h0 : Nat} {r : Int32} (X : mX p m meth c s args b_Buffer_fault 3 (some .int) "ColourLinker$Buffer") (G : mG D cA dA z0 s) (I : mI D cA z0 s μ s.heap [] s.heap.size) {ls : Array Slot} {x1 : Int32} (hf : f_Buffer_fault_91 μ h0 x1 = some r) (hl : lv_has ls 3 [(0, va_rf (some h0)), (1, .int x1)]) : W p l e rm_Buffer_fault s m args below meth c s.heap [] 0 0 (MQ below (mQR (some (.int r))) args s 0 0 (fun _ => False)) (F0 m 91 ls []) := by
  have hx := X.ex
  have hb := X.by_
  unfold f_Buffer_fault_91 at hf
  refine lv_iload_n hx hb d_Buffer_fault_91 rfl (lv_at hl 1 rfl) ?_
  obtain rfl := Option.some.inj hf
  exact r_iretR X d_Buffer_fault_92

set_option maxHeartbeats 4000000 in
set_option maxRecDepth 100000 in
theorem w_Buffer_fault_73 {μ : mM} {h0 : Nat} {r : Int32} (X : mX p m meth c s args b_Buffer_fault 3 (some .int) "ColourLinker$Buffer") (G : mG D cA dA z0 s) (I : mI D cA z0 s μ s.heap [] s.heap.size) {ls : Array Slot} {x1 : Int32} (hf : f_Buffer_fault_73 μ h0 x1 = some r) (hl : lv_has ls 3 [(0, va_rf (some h0)), (1, .int x1)]) : W p l e rm_Buffer_fault s m args below meth c s.heap [] 0 0 (MQ below (mQR (some (.int r))) args s 0 0 (fun _ => False)) (F0 m 73 ls []) := by
  have hx := X.ex
  have hb := X.by_
  unfold f_Buffer_fault_73 at hf
  refine lv_iload_n hx hb d_Buffer_fault_73 rfl (lv_at hl 1 rfl) ?_
  refine lv_if_ne (tgt := 91) hx hb d_Buffer_fault_74 (by decide) (fun hc => ?_) (fun hc => ?_)
  · have hf := miff hf hc
    exact w_Buffer_fault_91 X G I hf hl
  · have hf := mift hf hc
    refine r_aload_n X d_Buffer_fault_77 rfl (lv_at hl 0 rfl) ?_
    obtain ⟨q11, hv, hf⟩ := mbind hf
    obtain ⟨a, ha, hv⟩ := mbind hv
    obtain ⟨ha, fs, hm⟩ := mrc_e ha
    refine m_caR (m_runV (As := []) (r := some h0) (rest := []) X G I h_Buffer_hasWayForth k_252 (c_Buffer_hasWayForth hv) mPr_blind (m_pre G I) hm rfl ha rfl rfl hl.1 (Nat.le_of_ble_eq_true rfl) rfl rfl ⟨Nat.le_of_ble_eq_true rfl, Nat.le_of_ble_eq_true rfl⟩ ⟨Nat.le_refl _, Nat.le_refl _⟩ d_Buffer_fault_78) ?_
    refine lv_if_ne (tgt := 91) hx hb d_Buffer_fault_81 (by decide) (fun hc => ?_) (fun hc => ?_)
    · have hf := miff hf hc
      exact w_Buffer_fault_91 X G I hf hl
    · have hf := mift hf hc
      refine lv_bipush (v := 9) hx hb d_Buffer_fault_84 (by decide) ?_
      refine lv_iconst (v := 3) hx hb d_Buffer_fault_86 (by decide) ?_
      obtain ⟨q12, hv, hf⟩ := mbind hf
      refine m_caR (m_runS (As := [.int (9 : Int32), .int (3 : Int32)]) (rest := []) X h_Buffer_broken k_223 (c_Buffer_broken hv) mPr_blind (m_pre G I) rfl rfl hl.1 (Nat.le_of_ble_eq_true rfl) rfl rfl ⟨Nat.le_of_ble_eq_true rfl, Nat.le_of_ble_eq_true rfl⟩ ⟨Nat.le_refl _, Nat.le_refl _⟩ d_Buffer_fault_87) ?_
      refine lv_istore_n (i := 1) (lv' := [(1, .int q12), (0, va_rf (some h0))]) hx hb d_Buffer_fault_90 rfl hl (by decide) (by simp [mrf_cat]) (fun ls hl => ?_)
      exact w_Buffer_fault_91 X G I hf (lv_sub hl [1, 0] rfl)

set_option maxHeartbeats 4000000 in
set_option maxRecDepth 100000 in
theorem w_Buffer_fault_46 {μ : mM} {h0 : Nat} {r : Int32} (X : mX p m meth c s args b_Buffer_fault 3 (some .int) "ColourLinker$Buffer") (G : mG D cA dA z0 s) (I : mI D cA z0 s μ s.heap [] s.heap.size) {kx73 : Int32 → Option (Int32)} (hkx73 : ∀ (ls : Array Slot) (x1 : Int32), kx73 x1 = some r → lv_has ls 3 [(0, va_rf (some h0)), (1, .int x1)] → W p l e rm_Buffer_fault s m args below meth c s.heap [] 0 0 (MQ below (mQR (some (.int r))) args s 0 0 (fun _ => False)) (F0 m 73 ls [])) : ∀ (n : Nat) (ls : Array Slot) (x1 : Int32) (x2 : Int32), f_Buffer_fault_46 μ h0 kx73 n x1 x2 = some r → lv_has ls 3 [(0, va_rf (some h0)), (1, .int x1), (2, .int x2)] → W p l e rm_Buffer_fault s m args below meth c s.heap [] 0 0 (MQ below (mQR (some (.int r))) args s 0 0 (fun _ => False)) (F0 m 46 ls []) := by
  have hx := X.ex
  have hb := X.by_
  intro n
  induction n with
  | zero => intro ls x1 x2 hf hl; rw [f_Buffer_fault_46] at hf; cases hf
  | succ n ih =>
    intro ls x1 x2 hf hl
    rw [f_Buffer_fault_46] at hf
    refine lv_iload_n hx hb d_Buffer_fault_46 rfl (lv_at hl 1 rfl) ?_
    refine lv_if_ne (tgt := 73) hx hb d_Buffer_fault_47 (by decide) (fun hc => ?_) (fun hc => ?_)
    · have hf := miff hf hc
      exact hkx73 _ _ hf (lv_sub hl [0, 1] rfl)
    · have hf := mift hf hc
      refine lv_iload_n hx hb d_Buffer_fault_50 rfl (lv_at hl 2 rfl) ?_
      refine r_aload_n X d_Buffer_fault_51 rfl (lv_at hl 0 rfl) ?_
      obtain ⟨v8, hv, hf⟩ := mbind hf
      refine r_getf X G I (mfA_e hv) o_Buffer_row k_105 (Or.inl rfl) d_Buffer_fault_52 ?_
      refine lv_bipush (v := 6) hx hb d_Buffer_fault_55 (by decide) ?_
      obtain ⟨v9, hv, hf⟩ := mbind hf
      refine r_iald X G I hv d_Buffer_fault_57 ?_
      refine lv_icmp_ge (tgt := 73) hx hb d_Buffer_fault_58 (by decide) (fun hc => ?_) (fun hc => ?_)
      · have hf := mift hf hc
        exact hkx73 _ _ hf (lv_sub hl [0, 1] rfl)
      · have hf := miff hf hc
        refine r_aload_n X d_Buffer_fault_61 rfl (lv_at hl 0 rfl) ?_
        refine lv_iload_n hx hb d_Buffer_fault_62 rfl (lv_at hl 2 rfl) ?_
        obtain ⟨q10, hv, hf⟩ := mbind hf
        obtain ⟨a, ha, hv⟩ := mbind hv
        obtain ⟨ha, fs, hm⟩ := mrc_e ha
        refine m_caR (m_runV (As := [.int x2]) (r := some h0) (rest := []) X G I h_Buffer_entryFault k_234 (c_Buffer_entryFault hv) mPr_blind (m_pre G I) hm rfl ha rfl rfl hl.1 (Nat.le_of_ble_eq_true rfl) rfl rfl ⟨Nat.le_of_ble_eq_true rfl, Nat.le_of_ble_eq_true rfl⟩ ⟨Nat.le_refl _, Nat.le_refl _⟩ d_Buffer_fault_63) ?_
        refine lv_istore_n (i := 1) (lv' := [(1, .int q10), (0, va_rf (some h0)), (2, .int x2)]) hx hb d_Buffer_fault_66 rfl hl (by decide) (by simp [mrf_cat]) (fun ls hl => ?_)
        refine lv_iinc (i := 2) (k := 2) (v := (x2 + (1 : Int32))) (lv' := [(2, .int (x2 + (1 : Int32))), (1, .int q10), (0, va_rf (some h0))]) hx hb d_Buffer_fault_67 hl rfl (congrArg (fun t => x2 + t) (by decide : Int32.ofInt (1) = (1 : Int32))) (by decide) rfl (fun ls hl => ?_)
        refine lv_goto (tgt := 46) hx hb d_Buffer_fault_70 (by decide) ?_
        exact ih _ _ _ hf (lv_sub hl [2, 1, 0] rfl)

set_option maxHeartbeats 4000000 in
set_option maxRecDepth 100000 in
theorem w_Buffer_fault_33 {μ : mM} {h0 : Nat} {r : Int32} (X : mX p m meth c s args b_Buffer_fault 3 (some .int) "ColourLinker$Buffer") (G : mG D cA dA z0 s) (I : mI D cA z0 s μ s.heap [] s.heap.size) {ls : Array Slot}  (hf : f_Buffer_fault_33 μ h0 = some r) (hl : lv_has ls 3 [(0, va_rf (some h0))]) : W p l e rm_Buffer_fault s m args below meth c s.heap [] 0 0 (MQ below (mQR (some (.int r))) args s 0 0 (fun _ => False)) (F0 m 33 ls []) := by
  have hx := X.ex
  have hb := X.by_
  unfold f_Buffer_fault_33 at hf
  refine lv_iconst (v := 1) hx hb d_Buffer_fault_33 (by decide) ?_
  refine lv_iconst (v := 0) hx hb d_Buffer_fault_34 (by decide) ?_
  obtain ⟨q7, hv, hf⟩ := mbind hf
  refine m_caR (m_runS (As := [.int (1 : Int32), .int (0 : Int32)]) (rest := []) X h_Buffer_broken k_223 (c_Buffer_broken hv) mPr_blind (m_pre G I) rfl rfl hl.1 (Nat.le_of_ble_eq_true rfl) rfl rfl ⟨Nat.le_of_ble_eq_true rfl, Nat.le_of_ble_eq_true rfl⟩ ⟨Nat.le_refl _, Nat.le_refl _⟩ d_Buffer_fault_35) ?_
  obtain rfl := Option.some.inj hf
  exact r_iretR X d_Buffer_fault_38

set_option maxHeartbeats 4000000 in
set_option maxRecDepth 100000 in
theorem w_Buffer_fault {μ : mM} {h0 : Nat} {r : Int32} (X : mX p m meth c s args b_Buffer_fault 3 (some .int) "ColourLinker$Buffer") (G : mG D cA dA z0 s) (I : mI D cA z0 s μ s.heap [] s.heap.size) {ls : Array Slot}  (hf : f_Buffer_fault μ h0 = some r) (hl : lv_has ls 3 [(0, va_rf (some h0))]) : W p l e rm_Buffer_fault s m args below meth c s.heap [] 0 0 (MQ below (mQR (some (.int r))) args s 0 0 (fun _ => False)) (F0 m 0 ls []) := by
  have hx := X.ex
  have hb := X.by_
  unfold f_Buffer_fault at hf
  refine r_aload_n X d_Buffer_fault_0 rfl (lv_at hl 0 rfl) ?_
  obtain ⟨v1, hv, hf⟩ := mbind hf
  refine r_getf X G I (mfI_e hv) o_Buffer_count k_106 (Or.inl rfl) d_Buffer_fault_1 ?_
  refine lv_bipush (v := 12) hx hb d_Buffer_fault_4 (by decide) ?_
  refine lv_icmp_lt (tgt := 33) hx hb d_Buffer_fault_6 (by decide) (fun hc => ?_) (fun hc => ?_)
  · have hf := mift hf hc
    exact w_Buffer_fault_33 X G I hf hl
  · have hf := miff hf hc
    refine r_aload_n X d_Buffer_fault_9 rfl (lv_at hl 0 rfl) ?_
    obtain ⟨v2, hv, hf⟩ := mbind hf
    refine r_getf X G I (mfI_e hv) o_Buffer_count k_106 (Or.inl rfl) d_Buffer_fault_10 ?_
    refine lv_iconst (v := 4) hx hb d_Buffer_fault_13 (by decide) ?_
    refine lv_irem hx hb d_Buffer_fault_14 (by decide) ?_
    refine lv_if_ne (tgt := 33) hx hb d_Buffer_fault_15 (by decide) (fun hc => ?_) (fun hc => ?_)
    · have hf := miff hf hc
      exact w_Buffer_fault_33 X G I hf hl
    · have hf := mift hf hc
      refine r_aload_n X d_Buffer_fault_18 rfl (lv_at hl 0 rfl) ?_
      obtain ⟨v3, hv, hf⟩ := mbind hf
      refine r_getf X G I (mfA_e hv) o_Buffer_row k_105 (Or.inl rfl) d_Buffer_fault_19 ?_
      refine lv_iconst (v := 0) hx hb d_Buffer_fault_22 (by decide) ?_
      obtain ⟨q4, hv, hf⟩ := mbind hf
      refine m_caR (m_runSN (As := [va_rf v3, .int (0 : Int32)]) (rest := []) X G h_CL_wordAt k_220 (c_CL_wordAt hv) mPr_blind (m_pre G I) rfl rfl hl.1 (Nat.le_of_ble_eq_true rfl) rfl rfl ⟨Nat.le_of_ble_eq_true rfl, Nat.le_of_ble_eq_true rfl⟩ ⟨Nat.le_refl _, Nat.le_refl _⟩ d_Buffer_fault_23) ?_
      refine r_aload_n X d_Buffer_fault_26 rfl (lv_at hl 0 rfl) ?_
      obtain ⟨v5, hv, hf⟩ := mbind hf
      refine r_getf X G I (mfI_e hv) o_Buffer_count k_106 (Or.inl rfl) d_Buffer_fault_27 ?_
      refine lv_icmp_eq (tgt := 39) hx hb d_Buffer_fault_30 (by decide) (fun hc => ?_) (fun hc => ?_)
      · have hf := mift hf hc
        refine r_aload_n X d_Buffer_fault_39 rfl (lv_at hl 0 rfl) ?_
        obtain ⟨q6, hv, hf⟩ := mbind hf
        obtain ⟨a, ha, hv⟩ := mbind hv
        obtain ⟨ha, fs, hm⟩ := mrc_e ha
        refine m_caR (m_runV (As := []) (r := some h0) (rest := []) X G I h_Buffer_headFault k_226 (c_Buffer_headFault hv) mPr_blind (m_pre G I) hm rfl ha rfl rfl hl.1 (Nat.le_of_ble_eq_true rfl) rfl rfl ⟨Nat.le_of_ble_eq_true rfl, Nat.le_of_ble_eq_true rfl⟩ ⟨Nat.le_refl _, Nat.le_refl _⟩ d_Buffer_fault_40) ?_
        refine lv_istore_n (i := 1) (lv' := [(1, .int q6), (0, va_rf (some h0))]) hx hb d_Buffer_fault_43 rfl hl (by decide) (by simp [mrf_cat]) (fun ls hl => ?_)
        refine lv_iconst (v := 0) hx hb d_Buffer_fault_44 (by decide) ?_
        refine lv_istore_n (i := 2) (lv' := [(2, .int (0 : Int32)), (1, .int q6), (0, va_rf (some h0))]) hx hb d_Buffer_fault_45 rfl hl (by decide) rfl (fun ls hl => ?_)
        exact w_Buffer_fault_46 X G I (fun ls x1 hf hl => w_Buffer_fault_73 X G I hf hl) 4096 _ _ _ hf (lv_sub hl [2, 1, 0] rfl)
      · have hf := miff hf hc
        exact w_Buffer_fault_33 X G I hf hl

set_option maxHeartbeats 4000000 in
set_option maxRecDepth 100000 in
theorem c_Buffer_fault {l : Launch} {D : va_G} {cA : Nat → ClassId} {dA z0 : Nat} {μ : mM} {h0 : Nat} {r : Int32} (hf : f_Buffer_fault μ h0 = some r) : Met l y_Buffer_fault (mW y_Buffer_fault b_Buffer_fault 3 (some .int)) rm_Buffer_fault (va_Pc [.ref h0] (mPr D cA dA z0 μ)) (mQR (some (.int r))) 0 0 (fun _ => False) := by
  refine Met.ofW (cc := b_Buffer_fault) (maxL := 3) (ret := (some .int)) (by decide) rfl ?_
  intro p e s m args below meth c s₁ B hml hv
  obtain ⟨rfl, G, hP⟩ := hv
  have X := mX.of B hml
  exact m_entry (lv := [(0, va_rf (some h0))]) (Nat.le_of_ble_eq_true rfl) rfl (fun ls hl => w_Buffer_fault X G (mI.start hP) hf hl)

abbrev rm_Buffer_findData : Room := { frames := 0, cells := 0, slots := 0, locals := 0 }
theorem h_Buffer_findData : mCV y_Buffer_findData b_Buffer_findData 8 (some .int) 4 := ⟨k_267, k_76, ⟨by decide, by decide, by decide +kernel⟩, k_266, k_6⟩
set_option maxHeartbeats 4000000 in
set_option maxRecDepth 100000 in
theorem w_Buffer_findData_97 {μ : mM} {h0 : Nat} {r : Int32} (X : mX p m meth c s args b_Buffer_findData 8 (some .int) "ColourLinker$Buffer") (G : mG D cA dA z0 s) (I : mI D cA z0 s μ s.heap [] s.heap.size) {ls : Array Slot}  (hf : f_Buffer_findData_97 μ h0 = some r) (hl : lv_has ls 8 [(0, va_rf (some h0))]) : W p l e rm_Buffer_findData s m args below meth c s.heap [] 0 0 (MQ below (mQR (some (.int r))) args s 0 0 (fun _ => False)) (F0 m 97 ls []) := by
  have hx := X.ex
  have hb := X.by_
  unfold f_Buffer_findData_97 at hf
  refine lv_iconst (v := 0) hx hb d_Buffer_findData_97 (by decide) ?_
  obtain rfl := Option.some.inj hf
  exact r_iretR X d_Buffer_findData_98

set_option maxHeartbeats 4000000 in
set_option maxRecDepth 100000 in
theorem w_Buffer_findData_79 {μ : mM} {h0 : Nat} {r : Int32} (X : mX p m meth c s args b_Buffer_findData 8 (some .int) "ColourLinker$Buffer") (G : mG D cA dA z0 s) (I : mI D cA z0 s μ s.heap [] s.heap.size) {k : (Option Nat) → Int32 → Int32 → Int32 → Int32 → Option (Int32)} {kx97 : Unit → Option (Int32)} (hk : ∀ (ls : Array Slot) (x1 : Option Nat) (x2 : Int32) (x3 : Int32) (x4 : Int32) (x5 : Int32), k x1 x2 x3 x4 x5 = some r → lv_has ls 8 [(0, va_rf (some h0)), (1, va_rf x1), (2, .int x2), (3, .int x3), (4, .int x4), (5, .int x5)] → W p l e rm_Buffer_findData s m args below meth c s.heap [] 0 0 (MQ below (mQR (some (.int r))) args s 0 0 (fun _ => False)) (F0 m 4 ls [])) (hkx97 : ∀ (ls : Array Slot), kx97 () = some r → lv_has ls 8 [(0, va_rf (some h0))] → W p l e rm_Buffer_findData s m args below meth c s.heap [] 0 0 (MQ below (mQR (some (.int r))) args s 0 0 (fun _ => False)) (F0 m 97 ls [])) {ls : Array Slot} {x1 : Option Nat} {x2 : Int32} {x3 : Int32} {x4 : Int32} {x5 : Int32} {x6 : Int32} (hf : f_Buffer_findData_79 μ h0 k kx97 x1 x2 x3 x4 x5 x6 = some r) (hl : lv_has ls 8 [(0, va_rf (some h0)), (1, va_rf x1), (2, .int x2), (3, .int x3), (4, .int x4), (5, .int x5), (6, .int x6)]) : W p l e rm_Buffer_findData s m args below meth c s.heap [] 0 0 (MQ below (mQR (some (.int r))) args s 0 0 (fun _ => False)) (F0 m 79 ls []) := by
  have hx := X.ex
  have hb := X.by_
  unfold f_Buffer_findData_79 at hf
  refine lv_iload hx hb d_Buffer_findData_79 (lv_at hl 6 rfl) ?_
  refine lv_if_eq (tgt := 91) hx hb d_Buffer_findData_81 (by decide) (fun hc => ?_) (fun hc => ?_)
  · have hf := mift hf hc
    refine lv_iinc (i := 5) (k := 5) (v := (x5 + (4 : Int32))) (lv' := [(5, .int (x5 + (4 : Int32))), (0, va_rf (some h0)), (1, va_rf x1), (2, .int x2), (3, .int x3), (4, .int x4), (6, .int x6)]) hx hb d_Buffer_findData_91 hl rfl (congrArg (fun t => x5 + t) (by decide : Int32.ofInt (4) = (4 : Int32))) (by decide) rfl (fun ls hl => ?_)
    refine lv_goto (tgt := 4) hx hb d_Buffer_findData_94 (by decide) ?_
    exact hk _ _ _ _ _ _ hf (lv_sub hl [1, 2, 3, 4, 5, 0] rfl)
  · have hf := miff hf hc
    refine r_aload_n X d_Buffer_findData_84 rfl (lv_at hl 1 rfl) ?_
    refine lv_iload hx hb d_Buffer_findData_85 (lv_at hl 5 rfl) ?_
    refine lv_iconst (v := 1) hx hb d_Buffer_findData_87 (by decide) ?_
    refine lv_iadd hx hb d_Buffer_findData_88 ?_
    obtain ⟨v6, hv, hf⟩ := mbind hf
    refine r_iald X G I hv d_Buffer_findData_89 ?_
    obtain rfl := Option.some.inj hf
    exact r_iretR X d_Buffer_findData_90

set_option maxHeartbeats 4000000 in
set_option maxRecDepth 100000 in
theorem w_Buffer_findData_71 {μ : mM} {h0 : Nat} {r : Int32} (X : mX p m meth c s args b_Buffer_findData 8 (some .int) "ColourLinker$Buffer") (G : mG D cA dA z0 s) (I : mI D cA z0 s μ s.heap [] s.heap.size) {k : (Option Nat) → Int32 → Int32 → Int32 → Int32 → Int32 → Int32 → Option (Int32)} {kx79 : (Option Nat) → Int32 → Int32 → Int32 → Int32 → Int32 → Option (Int32)} (hk : ∀ (ls : Array Slot) (x1 : Option Nat) (x2 : Int32) (x3 : Int32) (x4 : Int32) (x5 : Int32) (x6 : Int32) (x7 : Int32), k x1 x2 x3 x4 x5 x6 x7 = some r → lv_has ls 8 [(0, va_rf (some h0)), (1, va_rf x1), (2, .int x2), (3, .int x3), (4, .int x4), (5, .int x5), (6, .int x6), (7, .int x7)] → W p l e rm_Buffer_findData s m args below meth c s.heap [] 0 0 (MQ below (mQR (some (.int r))) args s 0 0 (fun _ => False)) (F0 m 31 ls [])) (hkx79 : ∀ (ls : Array Slot) (x1 : Option Nat) (x2 : Int32) (x3 : Int32) (x4 : Int32) (x5 : Int32) (x6 : Int32), kx79 x1 x2 x3 x4 x5 x6 = some r → lv_has ls 8 [(0, va_rf (some h0)), (1, va_rf x1), (2, .int x2), (3, .int x3), (4, .int x4), (5, .int x5), (6, .int x6)] → W p l e rm_Buffer_findData s m args below meth c s.heap [] 0 0 (MQ below (mQR (some (.int r))) args s 0 0 (fun _ => False)) (F0 m 79 ls [])) {ls : Array Slot} {x1 : Option Nat} {x2 : Int32} {x3 : Int32} {x4 : Int32} {x5 : Int32} {x7 : Int32} {s0 : Int32} (hf : f_Buffer_findData_71 μ h0 k kx79 x1 x2 x3 x4 x5 x7 s0 = some r) (hl : lv_has ls 8 [(0, va_rf (some h0)), (1, va_rf x1), (2, .int x2), (3, .int x3), (4, .int x4), (5, .int x5), (7, .int x7)]) : W p l e rm_Buffer_findData s m args below meth c s.heap [] 0 0 (MQ below (mQR (some (.int r))) args s 0 0 (fun _ => False)) (F0 m 71 ls [.int s0]) := by
  have hx := X.ex
  have hb := X.by_
  unfold f_Buffer_findData_71 at hf
  refine lv_istore (i := 6) (lv' := [(6, .int s0), (0, va_rf (some h0)), (1, va_rf x1), (2, .int x2), (3, .int x3), (4, .int x4), (5, .int x5), (7, .int x7)]) hx hb d_Buffer_findData_71 hl (by decide) rfl (fun ls hl => ?_)
  refine lv_iinc (i := 7) (k := 7) (v := (x7 + (1 : Int32))) (lv' := [(7, .int (x7 + (1 : Int32))), (6, .int s0), (0, va_rf (some h0)), (1, va_rf x1), (2, .int x2), (3, .int x3), (4, .int x4), (5, .int x5)]) hx hb d_Buffer_findData_73 hl rfl (congrArg (fun t => x7 + t) (by decide : Int32.ofInt (1) = (1 : Int32))) (by decide) rfl (fun ls hl => ?_)
  refine lv_goto (tgt := 31) hx hb d_Buffer_findData_76 (by decide) ?_
  exact hk _ _ _ _ _ _ _ _ hf (lv_sub hl [2, 3, 4, 5, 6, 7, 1, 0] rfl)

set_option maxHeartbeats 4000000 in
set_option maxRecDepth 100000 in
theorem w_Buffer_findData_31 {μ : mM} {h0 : Nat} {r : Int32} (X : mX p m meth c s args b_Buffer_findData 8 (some .int) "ColourLinker$Buffer") (G : mG D cA dA z0 s) (I : mI D cA z0 s μ s.heap [] s.heap.size) {kx79 : (Option Nat) → Int32 → Int32 → Int32 → Int32 → Int32 → Option (Int32)} (hkx79 : ∀ (ls : Array Slot) (x1 : Option Nat) (x2 : Int32) (x3 : Int32) (x4 : Int32) (x5 : Int32) (x6 : Int32), kx79 x1 x2 x3 x4 x5 x6 = some r → lv_has ls 8 [(0, va_rf (some h0)), (1, va_rf x1), (2, .int x2), (3, .int x3), (4, .int x4), (5, .int x5), (6, .int x6)] → W p l e rm_Buffer_findData s m args below meth c s.heap [] 0 0 (MQ below (mQR (some (.int r))) args s 0 0 (fun _ => False)) (F0 m 79 ls [])) : ∀ (n : Nat) (ls : Array Slot) (x1 : Option Nat) (x2 : Int32) (x3 : Int32) (x4 : Int32) (x5 : Int32) (x6 : Int32) (x7 : Int32), f_Buffer_findData_31 μ h0 kx79 n x1 x2 x3 x4 x5 x6 x7 = some r → lv_has ls 8 [(0, va_rf (some h0)), (1, va_rf x1), (2, .int x2), (3, .int x3), (4, .int x4), (5, .int x5), (6, .int x6), (7, .int x7)] → W p l e rm_Buffer_findData s m args below meth c s.heap [] 0 0 (MQ below (mQR (some (.int r))) args s 0 0 (fun _ => False)) (F0 m 31 ls []) := by
  have hx := X.ex
  have hb := X.by_
  intro n
  induction n with
  | zero => intro ls x1 x2 x3 x4 x5 x6 x7 hf hl; rw [f_Buffer_findData_31] at hf; cases hf
  | succ n ih =>
    intro ls x1 x2 x3 x4 x5 x6 x7 hf hl
    rw [f_Buffer_findData_31] at hf
    refine lv_iload hx hb d_Buffer_findData_31 (lv_at hl 6 rfl) ?_
    refine lv_if_eq (tgt := 79) hx hb d_Buffer_findData_33 (by decide) (fun hc => ?_) (fun hc => ?_)
    · have hf := mift hf hc
      exact hkx79 _ _ _ _ _ _ _ hf (lv_sub hl [0, 1, 2, 3, 4, 5, 6] rfl)
    · have hf := miff hf hc
      refine lv_iload hx hb d_Buffer_findData_36 (lv_at hl 7 rfl) ?_
      refine lv_iload hx hb d_Buffer_findData_38 (lv_at hl 4 rfl) ?_
      refine lv_icmp_ge (tgt := 79) hx hb d_Buffer_findData_40 (by decide) (fun hc => ?_) (fun hc => ?_)
      · have hf := mift hf hc
        exact hkx79 _ _ _ _ _ _ _ hf (lv_sub hl [0, 1, 2, 3, 4, 5, 6] rfl)
      · have hf := miff hf hc
        refine r_aload_n X d_Buffer_findData_43 rfl (lv_at hl 1 rfl) ?_
        refine r_aload_n X d_Buffer_findData_44 rfl (lv_at hl 1 rfl) ?_
        refine lv_iload hx hb d_Buffer_findData_45 (lv_at hl 5 rfl) ?_
        refine lv_iconst (v := 1) hx hb d_Buffer_findData_47 (by decide) ?_
        refine lv_iadd hx hb d_Buffer_findData_48 ?_
        obtain ⟨v2, hv, hf⟩ := mbind hf
        refine r_iald X G I hv d_Buffer_findData_49 ?_
        refine lv_iload hx hb d_Buffer_findData_50 (lv_at hl 7 rfl) ?_
        refine lv_iadd hx hb d_Buffer_findData_52 ?_
        obtain ⟨v3, hv, hf⟩ := mbind hf
        refine r_iald X G I hv d_Buffer_findData_53 ?_
        refine r_aload_n X d_Buffer_findData_54 rfl (lv_at hl 0 rfl) ?_
        obtain ⟨v4, hv, hf⟩ := mbind hf
        refine r_getf X G I (mfA_e hv) o_Buffer_row k_105 (Or.inl rfl) d_Buffer_findData_55 ?_
        refine lv_iload_n hx hb d_Buffer_findData_58 rfl (lv_at hl 3 rfl) ?_
        refine lv_iload hx hb d_Buffer_findData_59 (lv_at hl 7 rfl) ?_
        refine lv_iadd hx hb d_Buffer_findData_61 ?_
        obtain ⟨v5, hv, hf⟩ := mbind hf
        refine r_iald X G I hv d_Buffer_findData_62 ?_
        refine lv_icmp_ne (tgt := 70) hx hb d_Buffer_findData_63 (by decide) (fun hc => ?_) (fun hc => ?_)
        · have hf := miff hf hc
          refine lv_iconst (v := 0) hx hb d_Buffer_findData_70 (by decide) ?_
          exact w_Buffer_findData_71 X G I ih hkx79 hf (lv_sub hl [0, 1, 2, 3, 4, 5, 7] rfl)
        · have hf := mift hf hc
          refine lv_iconst (v := 1) hx hb d_Buffer_findData_66 (by decide) ?_
          refine lv_goto (tgt := 71) hx hb d_Buffer_findData_67 (by decide) ?_
          exact w_Buffer_findData_71 X G I ih hkx79 hf (lv_sub hl [0, 1, 2, 3, 4, 5, 7] rfl)

set_option maxHeartbeats 4000000 in
set_option maxRecDepth 100000 in
theorem w_Buffer_findData_26 {μ : mM} {h0 : Nat} {r : Int32} (X : mX p m meth c s args b_Buffer_findData 8 (some .int) "ColourLinker$Buffer") (G : mG D cA dA z0 s) (I : mI D cA z0 s μ s.heap [] s.heap.size) {k : (Option Nat) → Int32 → Int32 → Int32 → Int32 → Option (Int32)} {kx97 : Unit → Option (Int32)} (hk : ∀ (ls : Array Slot) (x1 : Option Nat) (x2 : Int32) (x3 : Int32) (x4 : Int32) (x5 : Int32), k x1 x2 x3 x4 x5 = some r → lv_has ls 8 [(0, va_rf (some h0)), (1, va_rf x1), (2, .int x2), (3, .int x3), (4, .int x4), (5, .int x5)] → W p l e rm_Buffer_findData s m args below meth c s.heap [] 0 0 (MQ below (mQR (some (.int r))) args s 0 0 (fun _ => False)) (F0 m 4 ls [])) (hkx97 : ∀ (ls : Array Slot), kx97 () = some r → lv_has ls 8 [(0, va_rf (some h0))] → W p l e rm_Buffer_findData s m args below meth c s.heap [] 0 0 (MQ below (mQR (some (.int r))) args s 0 0 (fun _ => False)) (F0 m 97 ls [])) {ls : Array Slot} {x1 : Option Nat} {x2 : Int32} {x3 : Int32} {x4 : Int32} {x5 : Int32} {s0 : Int32} (hf : f_Buffer_findData_26 μ h0 k kx97 x1 x2 x3 x4 x5 s0 = some r) (hl : lv_has ls 8 [(0, va_rf (some h0)), (1, va_rf x1), (2, .int x2), (3, .int x3), (4, .int x4), (5, .int x5)]) : W p l e rm_Buffer_findData s m args below meth c s.heap [] 0 0 (MQ below (mQR (some (.int r))) args s 0 0 (fun _ => False)) (F0 m 26 ls [.int s0]) := by
  have hx := X.ex
  have hb := X.by_
  unfold f_Buffer_findData_26 at hf
  refine lv_istore (i := 6) (lv' := [(6, .int s0), (0, va_rf (some h0)), (1, va_rf x1), (2, .int x2), (3, .int x3), (4, .int x4), (5, .int x5)]) hx hb d_Buffer_findData_26 hl (by decide) rfl (fun ls hl => ?_)
  refine lv_iconst (v := 0) hx hb d_Buffer_findData_28 (by decide) ?_
  refine lv_istore (i := 7) (lv' := [(7, .int (0 : Int32)), (6, .int s0), (0, va_rf (some h0)), (1, va_rf x1), (2, .int x2), (3, .int x3), (4, .int x4), (5, .int x5)]) hx hb d_Buffer_findData_29 hl (by decide) rfl (fun ls hl => ?_)
  exact w_Buffer_findData_31 X G I (fun ls x1 x2 x3 x4 x5 x6 hf hl => w_Buffer_findData_79 X G I hk hkx97 hf hl) 4096 _ _ _ _ _ _ _ _ hf (lv_sub hl [2, 3, 4, 5, 6, 7, 1, 0] rfl)

set_option maxHeartbeats 4000000 in
set_option maxRecDepth 100000 in
theorem w_Buffer_findData_4 {μ : mM} {h0 : Nat} {r : Int32} (X : mX p m meth c s args b_Buffer_findData 8 (some .int) "ColourLinker$Buffer") (G : mG D cA dA z0 s) (I : mI D cA z0 s μ s.heap [] s.heap.size) {kx97 : Unit → Option (Int32)} (hkx97 : ∀ (ls : Array Slot), kx97 () = some r → lv_has ls 8 [(0, va_rf (some h0))] → W p l e rm_Buffer_findData s m args below meth c s.heap [] 0 0 (MQ below (mQR (some (.int r))) args s 0 0 (fun _ => False)) (F0 m 97 ls [])) : ∀ (n : Nat) (ls : Array Slot) (x1 : Option Nat) (x2 : Int32) (x3 : Int32) (x4 : Int32) (x5 : Int32), f_Buffer_findData_4 μ h0 kx97 n x1 x2 x3 x4 x5 = some r → lv_has ls 8 [(0, va_rf (some h0)), (1, va_rf x1), (2, .int x2), (3, .int x3), (4, .int x4), (5, .int x5)] → W p l e rm_Buffer_findData s m args below meth c s.heap [] 0 0 (MQ below (mQR (some (.int r))) args s 0 0 (fun _ => False)) (F0 m 4 ls []) := by
  have hx := X.ex
  have hb := X.by_
  intro n
  induction n with
  | zero => intro ls x1 x2 x3 x4 x5 hf hl; rw [f_Buffer_findData_4] at hf; cases hf
  | succ n ih =>
    intro ls x1 x2 x3 x4 x5 hf hl
    rw [f_Buffer_findData_4] at hf
    refine lv_iload hx hb d_Buffer_findData_4 (lv_at hl 5 rfl) ?_
    refine lv_iload_n hx hb d_Buffer_findData_6 rfl (lv_at hl 2 rfl) ?_
    refine lv_icmp_ge (tgt := 97) hx hb d_Buffer_findData_7 (by decide) (fun hc => ?_) (fun hc => ?_)
    · have hf := mift hf hc
      exact hkx97 _ hf (lv_sub hl [0] rfl)
    · have hf := miff hf hc
      refine r_aload_n X d_Buffer_findData_10 rfl (lv_at hl 1 rfl) ?_
      refine lv_iload hx hb d_Buffer_findData_11 (lv_at hl 5 rfl) ?_
      refine lv_iconst (v := 2) hx hb d_Buffer_findData_13 (by decide) ?_
      refine lv_iadd hx hb d_Buffer_findData_14 ?_
      obtain ⟨v1, hv, hf⟩ := mbind hf
      refine r_iald X G I hv d_Buffer_findData_15 ?_
      refine lv_iload hx hb d_Buffer_findData_16 (lv_at hl 4 rfl) ?_
      refine lv_icmp_ne (tgt := 25) hx hb d_Buffer_findData_18 (by decide) (fun hc => ?_) (fun hc => ?_)
      · have hf := miff hf hc
        refine lv_iconst (v := 0) hx hb d_Buffer_findData_25 (by decide) ?_
        exact w_Buffer_findData_26 X G I ih hkx97 hf hl
      · have hf := mift hf hc
        refine lv_iconst (v := 1) hx hb d_Buffer_findData_21 (by decide) ?_
        refine lv_goto (tgt := 26) hx hb d_Buffer_findData_22 (by decide) ?_
        exact w_Buffer_findData_26 X G I ih hkx97 hf hl

set_option maxHeartbeats 4000000 in
set_option maxRecDepth 100000 in
theorem w_Buffer_findData {μ : mM} {h0 : Nat} {r : Int32} (X : mX p m meth c s args b_Buffer_findData 8 (some .int) "ColourLinker$Buffer") (G : mG D cA dA z0 s) (I : mI D cA z0 s μ s.heap [] s.heap.size) {ls : Array Slot} {x1 : Option Nat} {x2 : Int32} {x3 : Int32} {x4 : Int32} (hf : f_Buffer_findData μ h0 x1 x2 x3 x4 = some r) (hl : lv_has ls 8 [(0, va_rf (some h0)), (1, va_rf x1), (2, .int x2), (3, .int x3), (4, .int x4)]) : W p l e rm_Buffer_findData s m args below meth c s.heap [] 0 0 (MQ below (mQR (some (.int r))) args s 0 0 (fun _ => False)) (F0 m 0 ls []) := by
  have hx := X.ex
  have hb := X.by_
  unfold f_Buffer_findData at hf
  refine lv_bipush (v := 8) hx hb d_Buffer_findData_0 (by decide) ?_
  refine lv_istore (i := 5) (lv' := [(5, .int (8 : Int32)), (0, va_rf (some h0)), (1, va_rf x1), (2, .int x2), (3, .int x3), (4, .int x4)]) hx hb d_Buffer_findData_2 hl (by decide) rfl (fun ls hl => ?_)
  exact w_Buffer_findData_4 X G I (fun ls hf hl => w_Buffer_findData_97 X G I hf hl) 4096 _ _ _ _ _ _ hf (lv_sub hl [1, 2, 3, 4, 5, 0] rfl)

set_option maxHeartbeats 4000000 in
set_option maxRecDepth 100000 in
theorem c_Buffer_findData {l : Launch} {D : va_G} {cA : Nat → ClassId} {dA z0 : Nat} {μ : mM} {h0 : Nat} {x1 : Option Nat} {x2 : Int32} {x3 : Int32} {x4 : Int32} {r : Int32} (hf : f_Buffer_findData μ h0 x1 x2 x3 x4 = some r) : Met l y_Buffer_findData (mW y_Buffer_findData b_Buffer_findData 8 (some .int)) rm_Buffer_findData (va_Pc [.ref h0, va_rf x1, .int x2, .int x3, .int x4] (mPr D cA dA z0 μ)) (mQR (some (.int r))) 0 0 (fun _ => False) := by
  refine Met.ofW (cc := b_Buffer_findData) (maxL := 8) (ret := (some .int)) (by decide) rfl ?_
  intro p e s m args below meth c s₁ B hml hv
  obtain ⟨rfl, G, hP⟩ := hv
  have X := mX.of B hml
  exact m_entry (lv := [(0, va_rf (some h0)), (1, va_rf x1), (2, .int x2), (3, .int x3), (4, .int x4)]) (by simp [lg_sl, mrf_cat, mc_int, mc_long, mc_ref]) (by simp [lv_args, mrf_cat, mc_int, mc_long, mc_ref, mrf_some]) (fun ls hl => w_Buffer_findData X G (mI.start hP) hf hl)

abbrev rm_Arrays_copyOf (k n : Nat) : Room := { frames := 1, cells := k, slots := n, locals := 26 }
theorem h_Arrays_copyOf : mCS y_Arrays_copyOf b_Arrays_copyOf 3 (some (.array .int)) 2 := ⟨k_270, k_82, ⟨by decide, by decide, by decide +kernel⟩, k_269⟩
set_option maxHeartbeats 4000000 in
set_option maxRecDepth 100000 in
theorem w_Arrays_copyOf {ws : Nat} {r : (Option Nat) × mM × Nat × Nat} (X : mX p m meth c s args b_Arrays_copyOf 3 (some (.array .int)) "java/util/Arrays") (G : mG D cA dA z0 s) {H : Heap} {locs : List Loc} {μ : mM} {z w : Nat} {ls : Array Slot} {x0 : Option Nat} {x1 : Int32} (hw : ws ≤ w) (I : mI D cA z0 s μ H locs z) (hf : f_Arrays_copyOf μ z w x0 x1 = some r) (hl : lv_has ls 3 [(0, va_rf x0), (1, .int x1)]) : W p l e (rm_Arrays_copyOf (r.2.2.1 - s.heap.size) (r.2.2.2 - ws)) s m args below meth c H locs (z - s.heap.size) (w - ws) (MQ below (mQN D cA z0 (some (va_rf r.1)) r.2.1 r.2.2.1) args s (r.2.2.1 - s.heap.size) (r.2.2.2 - ws) (mA z0)) (F0 m 0 ls []) := by
  have hx := X.ex
  have hb := X.by_
  unfold f_Arrays_copyOf at hf
  obtain ⟨-, -, hz2, hw2, hf⟩ := mmT_e hf
  have hq : mq ws w z r.2.2.1 r.2.2.2 := ⟨hw, hz2, hw2⟩
  refine lv_iload_n hx hb d_Arrays_copyOf_0 rfl (lv_at hl 1 rfl) ?_
  refine r_aload_n X d_Arrays_copyOf_1 rfl (lv_at hl 0 rfl) ?_
  obtain ⟨v1, hv, hf⟩ := mbind hf
  refine r_alen X G I hv d_Arrays_copyOf_2 ?_
  refine lv_icmp_ne (tgt := 14) hx hb d_Arrays_copyOf_3 (by decide) (fun hc => ?_) (fun hc => ?_)
  · have hf := miff hf hc
    refine lv_iload_n hx hb d_Arrays_copyOf_14 rfl (lv_at hl 1 rfl) ?_
    obtain ⟨m2, hv, hf⟩ := mbind hf
    obtain ⟨hz1, hw1, hz2, hw2, hf⟩ := mmT_e hf
    refine r_newa (atype := .int) X G I hq.1 rfl rfl hv hz2 hw2 (Or.inl ⟨rfl, rfl⟩) k_113 d_Arrays_copyOf_15 (fun H I => ?_)
    have hq := hq.up hw1 hz2 hw2
    refine r_astore_n (i := 2) (lv' := [(2, va_rf (some z)), (0, va_rf x0), (1, .int x1)]) X d_Arrays_copyOf_17 rfl hl (by decide) rfl (fun ls hl => ?_)
    refine r_aload_n X d_Arrays_copyOf_18 rfl (lv_at hl 1 rfl) ?_
    refine lv_iconst (v := 0) hx hb d_Arrays_copyOf_19 (by decide) ?_
    refine r_aload_n X d_Arrays_copyOf_20 rfl (lv_at hl 0 rfl) ?_
    refine lv_iconst (v := 0) hx hb d_Arrays_copyOf_21 (by decide) ?_
    refine r_aload_n X d_Arrays_copyOf_22 rfl (lv_at hl 1 rfl) ?_
    obtain ⟨v3, hv, hf⟩ := mbind hf
    refine r_alen X G I hv d_Arrays_copyOf_23 ?_
    refine lv_iload_n hx hb d_Arrays_copyOf_24 rfl (lv_at hl 2 rfl) ?_
    refine va_mmin (rest := [.int (0 : Int32), va_rf (some z), .int (0 : Int32), va_rf x0]) hx hb (X.ml.trans hl.1.symm) X.ow (X.w k_278) (X.w k_279) (X.w k_83) (X.w k_280) (Nat.le_of_ble_eq_true rfl) (Nat.le_trans (Nat.add_le_add_right (m_cat8 (Nat.le_of_ble_eq_true rfl)) 13) (Nat.le_of_ble_eq_true rfl)) (Nat.sub_le_sub_right hq.2.1 _) (Nat.sub_le_sub_right hq.2.2 _) d_Arrays_copyOf_25 ?_
    obtain ⟨q4, hv, hf⟩ := mbind hf
    refine r_copy (rest := []) X G I hl.1 hv k_281 k_263 k_262 k_81 (Nat.le_of_ble_eq_true rfl) (Nat.le_trans (Nat.add_le_add_right (m_cat8 (Nat.le_of_ble_eq_true rfl)) _) (Nat.le_of_ble_eq_true rfl)) d_Arrays_copyOf_28 (fun H locs I => ?_)
    refine r_aload_n X d_Arrays_copyOf_31 rfl (lv_at hl 0 rfl) ?_
    obtain rfl := Option.some.inj hf
    exact r_aretN X I (Or.inr ⟨_, rfl⟩) d_Arrays_copyOf_32
  · have hf := mift hf hc
    refine r_aload_n X d_Arrays_copyOf_6 rfl (lv_at hl 0 rfl) ?_
    obtain ⟨q5, hv, hf⟩ := mbind hf
    obtain ⟨hz1, hw1, hz2, hw2, hf⟩ := mmT_e hf
    refine r_clone (rest := []) X G I hq.1 rfl rfl hl.1 hv hz2 hw2 k_271 k_272 k_273 k_274 k_275 k_276 (Nat.le_of_ble_eq_true rfl) (Nat.le_trans (Nat.add_le_add_right (m_cat8 (Nat.le_of_ble_eq_true rfl)) _) (Nat.le_of_ble_eq_true rfl)) d_Arrays_copyOf_7 (fun H I => ?_)
    have hq := hq.up hw1 hz2 hw2
    obtain ⟨u6, hv, hf⟩ := mbind hf
    refine r_castI X G I hv k_277 d_Arrays_copyOf_10 ?_
    obtain rfl := Option.some.inj hf
    exact r_aretN X I (Or.inr ⟨_, rfl⟩) d_Arrays_copyOf_13

set_option maxHeartbeats 4000000 in
set_option maxRecDepth 100000 in
theorem c_Arrays_copyOf {l : Launch} {D : va_G} {cA : Nat → ClassId} {dA z0 : Nat} {μ : mM} {z w : Nat} {x0 : Option Nat} {x1 : Int32} {r : (Option Nat) × mM × Nat × Nat} (hf : f_Arrays_copyOf μ z w x0 x1 = some r) : Met l y_Arrays_copyOf (mW y_Arrays_copyOf b_Arrays_copyOf 3 (some (.array .int))) (rm_Arrays_copyOf (r.2.2.1 - z) (r.2.2.2 - w)) (va_Pc [va_rf x0, .int x1] (mPn D cA dA z0 μ z)) (mQN D cA z0 (some (va_rf r.1)) r.2.1 r.2.2.1) (r.2.2.1 - z) (r.2.2.2 - w) (mA z0) := by
  refine Met.ofW (cc := b_Arrays_copyOf) (maxL := 3) (ret := (some (.array .int))) (by decide) rfl ?_
  intro p e s m args below meth c s₁ B hml hv
  obtain ⟨rfl, G, hP, rfl⟩ := hv
  have X := mX.of B hml
  refine m_entry (lv := [(0, va_rf x0), (1, .int x1)]) (by simp [lg_sl, mrf_cat, mc_int, mc_long, mc_ref]) (by simp [lv_args, mrf_cat, mc_int, mc_long, mc_ref, mrf_some]) (fun ls hl => ?_)
  have h := w_Arrays_copyOf (p := p) (l := l) (e := e) (below := below) X G (Nat.le_refl w) (mI.start hP) hf hl
  rw [Nat.sub_self s.heap.size, Nat.sub_self w] at h
  exact h

end WK
