/-! MATRIX BACK of the reference; SCALE and BLACK, both sides. -/
section BM
variable {μ : mM} {M : Nat} {A : Nat → Nat → Int32} {S : Nat → Int32} {L : Nat → Int64} {v o m : Int → Int}
theorem nm_colS (h : NM μ M A S L v o m) (kx : mM → Int32 → Int64 → Int32 → Option mM) {fu : Nat} {x1 : Int32} {x2 : Int64} {i r : Int} (h0 : 0 ≤ i) (h1 : i < 3) (r0 : 0 ≤ r) (r1 : r < 3) : ∃ μ', f_Mo_matrixBack_27 M kx (fu + 1) μ x1 x2 (iz i) (iz r) = f_Mo_matrixBack_27 M kx fu μ' x1 x2 (iz i) (iz (r + 1)) ∧ NM μ' M A S L v o (zu m (3 * r + i) (o r)) ∧ Out M μ μ' := by
  obtain ⟨m1, s1, k1, o1⟩ := nm_sm h (i := 3 * r + i) (by omega) (by omega) (o r)
  refine ⟨m1, ?_, k1, o1⟩
  rw [f_Mo_matrixBack_27, zi_3, if_neg (fun q => by have := (iz_le (iR_s (by omega) (by omega)) (iR_s (by omega) (by omega))).mp q; omega), nm_f20 h, Option.bind_some, nm_f19 h, Option.bind_some, nm_go h r0 r1, Option.bind_some, iz_mul, iz_add, s1, Option.bind_some, zi_1, iz_add]
theorem nm_col (h : NM μ M A S L v o m) (kx : mM → Int32 → Int64 → Int32 → Option mM) {x1 : Int32} {x2 : Int64} {i : Int} (h0 : 0 ≤ i) (h1 : i < 3) : ∃ μ', f_Mo_matrixBack_27 M kx 4096 μ x1 x2 (iz i) (iz 0) = kx μ' x1 x2 (iz i) ∧ NM μ' M A S L v o (colz m o i) ∧ Out M μ μ' := by
  obtain ⟨m1, s1, k1, o1⟩ := nm_colS h kx (fu := 4095) (x1 := x1) (x2 := x2) h0 h1 (r := 0) (by omega) (by omega)
  obtain ⟨m2, s2, k2, o2⟩ := nm_colS k1 kx (fu := 4094) (x1 := x1) (x2 := x2) h0 h1 (r := 1) (by omega) (by omega)
  obtain ⟨m3, s3, k3, o3⟩ := nm_colS k2 kx (fu := 4093) (x1 := x1) (x2 := x2) h0 h1 (r := 2) (by omega) (by omega)
  refine ⟨m3, s1.trans (s2.trans (s3.trans (by rw [f_Mo_matrixBack_27, zi_3, if_pos (by decide)]))), nm_ext k3 (fun _ _ => rfl) (fun _ _ => rfl) (fun k hk => ?_), (o1.tr o2).tr o3⟩
  unfold zu colz
  by_cases a2 : (k : Int) = 3 * 2 + i
  · rw [if_pos a2, if_pos (by omega), show (k : Int) / 3 = 2 by omega]
  · rw [if_neg a2]
    by_cases a1 : (k : Int) = 3 * 1 + i
    · rw [if_pos a1, if_pos (by omega), show (k : Int) / 3 = 1 by omega]
    · rw [if_neg a1]
      by_cases a0 : (k : Int) = 3 * 0 + i
      · rw [if_pos a0, if_pos (by omega), show (k : Int) / 3 = 0 by omega]
      · rw [if_neg a0, if_neg (by omega)]
theorem nm_bstep (h : NM μ M A S L v o m) (hk : KA A) {p : Int} (hp : 0 ≤ p) (hp6 : p < 6) (h60 : bp (kp A) p 6 ≤ 60) (hE : EM (bp (kp A) p) (da (bp (kp A) p) 5)) (hl : ∀ i : Nat, i < 3 → lvl (o i)) {mm : Int → Int} (hmm : mm = mxz (bp (kp A) p) (da (bp (kp A) p) 5)) (hd : detz mm ≠ 0) (kx : mM → Option mM) {fu : Nat} {i : Int} (h0 : 0 ≤ i) (h1 : i < 3) : ∃ μ' m', f_Mo_matrixBack_13 M kx (fu + 1) μ (iz p) (jz (detz mm)) (iz i) = f_Mo_matrixBack_13 M kx fu μ' (iz p) (jz (detz mm)) (iz (i + 1)) ∧ NM μ' M A S L (zu v i (matz (turz mm) (detz mm) o i)) o m' ∧ Out M μ μ' := by
  have hR : ∀ k, -32768 ≤ mm k ∧ mm k ≤ 32768 := fun k => by rw [hmm]; exact mxz_R (nm_KR h hk) p _ k
  have hn := back_n hR hd hl h0 h1
  have hdR := detz_R hR
  obtain ⟨m0, s0, k0, o0⟩ := nm_take h hk hp hp6 h60 hE
  rw [← hmm] at k0
  obtain ⟨m1, s1, k1, o1⟩ := nm_col k0 (fun μ y1 y2 y4 => f_Mo_matrixBack_58 M (f_Mo_matrixBack_13 M kx fu) kx μ y1 y2 y4) (x1 := iz p) (x2 := jz (detz mm)) h0 h1
  obtain ⟨m2, s2, k2, o2⟩ := nm_sv k1 h0 h1 (matz (turz mm) (detz mm) o i)
  refine ⟨m2, _, ?_, k2, (o0.tr o1).tr o2⟩
  rw [f_Mo_matrixBack_13, zi_3, if_neg (fun q => by have := (iz_le (iR_s (by omega) (by omega)) (iR_s (by omega) (by omega))).mp q; omega), nm_rc h, Option.bind_some, s0, Option.bind_some, zi_0, s1]
  unfold f_Mo_matrixBack_58 f_Mo_matrixBack_97
  rw [nm_rc k1, Option.bind_some, nm_det k1, Option.bind_some, nm_f18 k1, Option.bind_some, zj_0, zj_4096, jz_mul, cramer h0 h1, jz_neg, jz_neg, zi_1, iz_add]
  unfold matz nzs at s2
  by_cases hs : detz mm < 0
  · rw [if_pos hs] at s2
    rw [if_neg (fun q => by have := (jz_le (jR_s (by omega) (by omega)) (jR_s (by omega) (by omega))).mp q; omega), mo_clipNear (hn.2.1 hs), Option.bind_some, s2, Option.bind_some]
  · rw [if_neg hs] at s2
    rw [if_pos ((jz_le (jR_s (by omega) (by omega)) (jR_s (by omega) (by omega))).mpr (by omega)), mo_clipNear (hn.1 (by omega)), Option.bind_some, s2, Option.bind_some]
theorem nm_back (h : NM μ M A S L v o m) (hk : KA A) {p : Int} (hp : 0 ≤ p) (hp6 : p < 6) (h60 : bp (kp A) p 6 ≤ 60) (hE : EM (bp (kp A) p) (da (bp (kp A) p) 5)) (hl : ∀ i : Nat, i < 3 → lvl (o i)) {mm : Int → Int} (hmm : mm = mxz (bp (kp A) p) (da (bp (kp A) p) 5)) (hd : detz mm ≠ 0) : ∃ μ' m', f_Mo_matrixBack M μ (iz p) = some μ' ∧ NM μ' M A S L (matz (turz mm) (detz mm) o) o m' ∧ Out M μ μ' := by
  obtain ⟨m0, s0, k0, o0⟩ := nm_take h hk hp hp6 h60 hE
  rw [← hmm] at k0
  obtain ⟨m1, w1, s1, k1, o1⟩ := nm_bstep k0 hk hp hp6 h60 hE hl hmm hd (fun μ => f_Mo_matrixBack_104 M μ) (fu := 4095) (i := 0) (by omega) (by omega)
  obtain ⟨m2, w2, s2, k2, o2⟩ := nm_bstep k1 hk hp hp6 h60 hE hl hmm hd (fun μ => f_Mo_matrixBack_104 M μ) (fu := 4094) (i := 1) (by omega) (by omega)
  obtain ⟨m3, w3, s3, k3, o3⟩ := nm_bstep k2 hk hp hp6 h60 hE hl hmm hd (fun μ => f_Mo_matrixBack_104 M μ) (fu := 4093) (i := 2) (by omega) (by omega)
  refine ⟨m3, w3, ?_, nm_ext k3 (lt3 ?_ ?_ ?_) (fun _ _ => rfl) (fun _ _ => rfl), ((o0.tr o1).tr o2).tr o3⟩
  · unfold f_Mo_matrixBack
    rw [nm_rc h, Option.bind_some, s0, Option.bind_some, nm_rc k0, Option.bind_some, nm_det k0, Option.bind_some, zi_0]
    exact s1.trans (s2.trans (s3.trans (by
      rw [f_Mo_matrixBack_13, zi_3, if_pos (by decide)]
      rfl)))
  · simp [zu]
  · simp [zu]
  · simp [zu]
end BM
-- SCALE and BLACK
def sclz (wf wt c : Int → Int) : Int → Int := fun i => cz (nz (c i * wf i) (wt i))
def blkz (df dt : Int) (c : Int → Int) : Int → Int := fun i => cz (dz i - nz ((dz i - c i) * (32768 - dt)) (32768 - df))
/-- a profile's white point and black levels -/
def PW (φ : mM) (P : Nat) (wh bl : Int → Int) : Prop := ∃ (fs : List Value) (wa ba : Nat) (f g : Nat → Int32), φ P = some (.inr (9, fs)) ∧ fs[9]? = some (.ref wa) ∧ fs[10]? = some (.ref ba) ∧ φ wa = some (.inl (0, 3, .inl f)) ∧ (∀ i : Nat, i < 3 → f i = iz (wh i)) ∧ φ ba = some (.inl (0, 3, .inl g)) ∧ ∀ i : Nat, i < 3 → g i = iz (bl i)
theorem pw_w {φ μ : mM} {P : Nat} {wh bl : Int → Int} (h : PW φ P wh bl) (hF : Fr φ μ) : ∃ wa : Nat, mfA μ (some P) [9] 9 = some (some wa) ∧ ∀ i : Int, 0 ≤ i → i < 3 → mgI μ (some wa) (iz i) = some (iz (wh i)) := by
  obtain ⟨fs, wa, ba, f, g, h1, h2, h3, h4, h5, h6, h7⟩ := h
  refine ⟨wa, mfA_i (v := some wa) (hF _ _ h1) rfl h2, fun i a b => ?_⟩
  rw [mgI_z (hF _ _ h4) a (by omega) (by decide), h5 _ (by omega), Int.toNat_of_nonneg a]
theorem pw_b {φ μ : mM} {P : Nat} {wh bl : Int → Int} (h : PW φ P wh bl) (hF : Fr φ μ) {j : Int} (h0 : 0 ≤ j) (h1 : j < 3) : mrc μ (some P) 9 = some P ∧ f_Profile_blackLevel μ P (iz j) = some (iz (bl j)) := by
  obtain ⟨fs, wa, ba, f, g, e1, e2, e3, e4, e5, e6, e7⟩ := h
  refine ⟨mrc_i (hF _ _ e1), ?_⟩
  unfold f_Profile_blackLevel f_Profile_blackLevel_19
  rw [zi_0, zi_3, if_neg (fun q => by have := (iz_lt (iR_s (by omega) (by omega)) (iR_s (by omega) (by omega))).mp q; omega), if_neg (fun q => by have := (iz_le (iR_s (by omega) (by omega)) (iR_s (by omega) (by omega))).mp q; omega), mfA_i (v := some ba) (hF _ _ e1) rfl e3, Option.bind_some, mgI_z (hF _ _ e6) h0 (by omega) (by decide), e7 _ (by omega), Int.toNat_of_nonneg h0]
  rfl
def AJ (φ : mM) (a : Nat) (kd : Int) (P Q : Nat) (it : Int) : Prop := φ a = some (.inr (0, [.int (iz kd), .int 0, .ref P, .ref Q, .int (iz it)]))
theorem scl_n {x wf wt : Int} (hx : lvl x) (hf : lvl wf) (ht : 0 < wt ∧ wt ≤ 65535) : nR (x * wf) wt := by
  have a := Int.mul_nonneg hx.1 hf.1
  have b : x * wf ≤ 65535 * 65535 := Int.mul_le_mul hx.2 hf.2 hf.1 (by omega)
  exact ⟨ht.1, by omega, by omega, by omega⟩
theorem blk_n {x d df dt : Int} (hx : lvl x) (hd : 27030 ≤ d ∧ d ≤ 32768) (hf : 0 ≤ df ∧ df < 32768) (ht : 0 ≤ dt ∧ dt < 32768) : nR ((d - x) * (32768 - dt)) (32768 - df) ∧ jR (d - nz ((d - x) * (32768 - dt)) (32768 - df)) := by
  have hx0 := hx.1
  have hx1 := hx.2
  have key : -65535 * 32768 ≤ (d - x) * (32768 - dt) ∧ (d - x) * (32768 - dt) ≤ 65535 * 32768 := by
    by_cases h : 0 ≤ d - x
    · have a := Int.mul_nonneg h (by omega : 0 ≤ 32768 - dt)
      have b : (d - x) * (32768 - dt) ≤ 65535 * 32768 := Int.mul_le_mul (by omega) (by omega) (by omega) (by omega)
      omega
    · have a := Int.mul_nonneg (by omega : 0 ≤ -(d - x)) (by omega : 0 ≤ 32768 - dt)
      have b : -(d - x) * (32768 - dt) ≤ 65535 * 32768 := Int.mul_le_mul (by omega) (by omega) (by omega) (by omega)
      rw [Int.neg_mul] at a b
      omega
  have hn : nR ((d - x) * (32768 - dt)) (32768 - df) := ⟨by omega, by omega, by omega, by omega⟩
  have u : nz ((d - x) * (32768 - dt)) (32768 - df) ≤ 65535 * 32768 + 1 := nz_le (by omega) (by omega)
  have l : -(65535 * 32768 + 1) ≤ nz ((d - x) * (32768 - dt)) (32768 - df) := nz_ge (by omega) (by omega)
  exact ⟨hn, jR_s (by omega) (by omega)⟩
theorem aj_s7 {φ μ : mM} {a ca P Q : Nat} {it : Int} {wf bf wt bt' c w : Int → Int} (h : AJ φ a 7 P Q it) (hP : PW φ P wf bf) (hQ : PW φ Q wt bt') (hF : Fr φ μ) (hC : CF μ ca w) (kx : mM → Option mM) {fu : Nat} {i : Int} (h0 : 0 ≤ i) (h1 : i < 3) (hw : w i = c i) (hx : lvl (c i)) (hf : lvl (wf i)) (ht : 0 < wt i ∧ wt i ≤ 65535) : ∃ μ', f_Adjust_run_2 a kx (fu + 1) μ (some ca) (iz i) = f_Adjust_run_2 a kx fu μ' (some ca) (iz (i + 1)) ∧ CF μ' ca (zu w i (sclz wf wt c i)) ∧ ∀ b, b ≠ ca → μ' b = μ b := by
  have hn := scl_n hx hf ht
  have e0 : mfI μ (some a) [0] 0 = some (iz 7) := mfI_i (hF _ _ h) rfl rfl
  have er : mrc μ (some a) 0 = some a := mrc_i (hF _ _ h)
  have e2 : mfA μ (some a) [0] 2 = some (some P) := mfA_i (v := some P) (hF _ _ h) rfl rfl
  have e3 : mfA μ (some a) [0] 3 = some (some Q) := mfA_i (v := some Q) (hF _ _ h) rfl rfl
  obtain ⟨wa, p1, p2⟩ := pw_w hP hF
  obtain ⟨wb, q1, q2⟩ := pw_w hQ hF
  obtain ⟨m1, s1, k1, o1⟩ := cf_s hC h0 h1 (sclz wf wt c i)
  refine ⟨m1, ?_, k1, o1⟩
  rw [f_Adjust_run_2]
  unfold f_Adjust_run_39 f_Adjust_scaled
  rw [zi_3, if_neg (fun q => by have := (iz_le (iR_s (by omega) (by omega)) (iR_s (by omega) (by omega))).mp q; omega), e0, Option.bind_some, zi_7, if_pos rfl, cf_g hC h0 h1, hw, Option.bind_some, er, Option.bind_some, e2, Option.bind_some, p1, Option.bind_some, p2 i h0 h1, Option.bind_some, e3, Option.bind_some, q1, Option.bind_some, q2 i h0 h1, Option.bind_some, iz_j (iR_l hx), iz_j (iR_l hf), iz_j (iR_s (by omega) (by omega)), jz_mul, cl_near hn, Option.bind_some, Option.bind_some, cl_clip (nz_R hn), Option.bind_some]
  change (msI μ (some ca) (iz i) (iz (sclz wf wt c i))).bind _ = _
  rw [s1, Option.bind_some, zi_1, iz_add]
theorem aj_s8 {φ μ : mM} {a ca P Q : Nat} {it : Int} {wf bf wt bt' c w : Int → Int} (h : AJ φ a 8 P Q it) (hit : 0 ≤ it ∧ it < 3) (hP : PW φ P wf bf) (hQ : PW φ Q wt bt') (hF : Fr φ μ) (hC : CF μ ca w) (kx : mM → Option mM) {fu : Nat} {i : Int} (h0 : 0 ≤ i) (h1 : i < 3) (hw : w i = c i) (hx : lvl (c i)) (hf : 0 ≤ bf it ∧ bf it < 32768) (ht : 0 ≤ bt' it ∧ bt' it < 32768) : ∃ μ', f_Adjust_run_2 a kx (fu + 1) μ (some ca) (iz i) = f_Adjust_run_2 a kx fu μ' (some ca) (iz (i + 1)) ∧ CF μ' ca (zu w i (blkz (bf it) (bt' it) c i)) ∧ ∀ b, b ≠ ca → μ' b = μ b := by
  have hd := dz_R h0 h1
  obtain ⟨hn, hj⟩ := blk_n hx hd hf ht
  have e0 : mfI μ (some a) [0] 0 = some (iz 8) := mfI_i (hF _ _ h) rfl rfl
  have er : mrc μ (some a) 0 = some a := mrc_i (hF _ _ h)
  have e2 : mfA μ (some a) [0] 2 = some (some P) := mfA_i (v := some P) (hF _ _ h) rfl rfl
  have e3 : mfA μ (some a) [0] 3 = some (some Q) := mfA_i (v := some Q) (hF _ _ h) rfl rfl
  have e4 : mfI μ (some a) [0] 4 = some (iz it) := mfI_i (hF _ _ h) rfl rfl
  obtain ⟨p1, p2⟩ := pw_b hP hF hit.1 hit.2
  obtain ⟨q1, q2⟩ := pw_b hQ hF hit.1 hit.2
  obtain ⟨m1, s1, k1, o1⟩ := cf_s hC h0 h1 (blkz (bf it) (bt' it) c i)
  refine ⟨m1, ?_, k1, o1⟩
  rw [f_Adjust_run_2]
  unfold f_Adjust_run_39 f_Adjust_darkened
  rw [zi_3, if_neg (fun q => by have := (iz_le (iR_s (by omega) (by omega)) (iR_s (by omega) (by omega))).mp q; omega), e0, Option.bind_some, zi_7, if_neg (by decide), cf_g hC h0 h1, hw, Option.bind_some, er, Option.bind_some, mgD_z h0 h1, Option.bind_some, Option.bind_some, e3, Option.bind_some, e4, Option.bind_some, q1, Option.bind_some, q2, Option.bind_some, e2, Option.bind_some, Option.bind_some, p1, Option.bind_some, p2, Option.bind_some, iz_j (iR_s (by omega) (by omega)), iz_j (iR_l hx), zi_32768, iz_sub, iz_sub, iz_j (iR_s (by omega) (by omega)), iz_j (iR_s (by omega) (by omega)), jz_sub, jz_mul, cl_near hn, Option.bind_some, Option.bind_some, jz_sub, cl_clip hj, Option.bind_some]
  change (msI μ (some ca) (iz i) (iz (blkz (bf it) (bt' it) c i))).bind _ = _
  rw [s1, Option.bind_some, zi_1, iz_add]
theorem aj_run7 {φ μ : mM} {a ca P Q : Nat} {it : Int} {wf bf wt bt' c : Int → Int} (h : AJ φ a 7 P Q it) (hP : PW φ P wf bf) (hQ : PW φ Q wt bt') (hca : φ ca = none) (hF : Fr φ μ) (hC : CF μ ca c) (hl : ∀ i : Nat, i < 3 → lvl (c i)) (hf : ∀ i : Nat, i < 3 → lvl (wf i)) (ht : ∀ i : Nat, i < 3 → 0 < wt i ∧ wt i ≤ 65535) : ∃ μ', f_Adjust_run a μ (some ca) = some μ' ∧ CF μ' ca (sclz wf wt c) ∧ ∀ b, b ≠ ca → μ' b = μ b := by
  obtain ⟨m1, s1, k1, o1⟩ := aj_s7 (c := c) h hP hQ hF hC (fun μ => f_Adjust_run_49 a μ) (fu := 4095) (i := 0) (by omega) (by omega) rfl (hl 0 (by omega)) (hf 0 (by omega)) (ht 0 (by omega))
  have F1 := hF.put hca o1
  obtain ⟨m2, s2, k2, o2⟩ := aj_s7 (c := c) h hP hQ F1 k1 (fun μ => f_Adjust_run_49 a μ) (fu := 4094) (i := 1) (by omega) (by omega) (by simp [zu]) (hl 1 (by omega)) (hf 1 (by omega)) (ht 1 (by omega))
  have F2 := F1.put hca o2
  obtain ⟨m3, s3, k3, o3⟩ := aj_s7 (c := c) h hP hQ F2 k2 (fun μ => f_Adjust_run_49 a μ) (fu := 4093) (i := 2) (by omega) (by omega) (by simp [zu]) (hl 2 (by omega)) (hf 2 (by omega)) (ht 2 (by omega))
  refine ⟨m3, ?_, cf_ext k3 (lt3 ?_ ?_ ?_), fun b hb => (o3 b hb).trans ((o2 b hb).trans (o1 b hb))⟩
  · unfold f_Adjust_run
    rw [zi_0]
    exact s1.trans (s2.trans (s3.trans (by
      rw [f_Adjust_run_2, zi_3, if_pos (by decide)]
      rfl)))
  · simp [zu]
  · simp [zu]
  · simp [zu]
theorem aj_run8 {φ μ : mM} {a ca P Q : Nat} {it : Int} {wf bf wt bt' c : Int → Int} (h : AJ φ a 8 P Q it) (hit : 0 ≤ it ∧ it < 3) (hP : PW φ P wf bf) (hQ : PW φ Q wt bt') (hca : φ ca = none) (hF : Fr φ μ) (hC : CF μ ca c) (hl : ∀ i : Nat, i < 3 → lvl (c i)) (hf : 0 ≤ bf it ∧ bf it < 32768) (ht : 0 ≤ bt' it ∧ bt' it < 32768) : ∃ μ', f_Adjust_run a μ (some ca) = some μ' ∧ CF μ' ca (blkz (bf it) (bt' it) c) ∧ ∀ b, b ≠ ca → μ' b = μ b := by
  obtain ⟨m1, s1, k1, o1⟩ := aj_s8 (c := c) h hit hP hQ hF hC (fun μ => f_Adjust_run_49 a μ) (fu := 4095) (i := 0) (by omega) (by omega) rfl (hl 0 (by omega)) hf ht
  have F1 := hF.put hca o1
  obtain ⟨m2, s2, k2, o2⟩ := aj_s8 (c := c) h hit hP hQ F1 k1 (fun μ => f_Adjust_run_49 a μ) (fu := 4094) (i := 1) (by omega) (by omega) (by simp [zu]) (hl 1 (by omega)) hf ht
  have F2 := F1.put hca o2
  obtain ⟨m3, s3, k3, o3⟩ := aj_s8 (c := c) h hit hP hQ F2 k2 (fun μ => f_Adjust_run_49 a μ) (fu := 4093) (i := 2) (by omega) (by omega) (by simp [zu]) (hl 2 (by omega)) hf ht
  refine ⟨m3, ?_, cf_ext k3 (lt3 ?_ ?_ ?_), fun b hb => (o3 b hb).trans ((o2 b hb).trans (o1 b hb))⟩
  · unfold f_Adjust_run
    rw [zi_0]
    exact s1.trans (s2.trans (s3.trans (by
      rw [f_Adjust_run_2, zi_3, if_pos (by decide)]
      rfl)))
  · simp [zu]
  · simp [zu]
  · simp [zu]
