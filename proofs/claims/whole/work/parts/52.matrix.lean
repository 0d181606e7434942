/-! MATRIX and MATRIX BACK, both sides. -/
def mxz (b : Int → Int) (o : Int) : Int → Int := fun i => if 32767 < wz b (o + 2 + 2 * i) then wz b (o + 2 + 2 * i) - 65536 else wz b (o + 2 + 2 * i)
def nzs (a b : Int) : Int := if b < 0 then nz (-a) (-b) else nz a b
def sum3 (f c : Int → Int) (i : Int) : Int := f (3 * i) * c 0 + f (3 * i + 1) * c 1 + f (3 * i + 2) * c 2
def matz (f : Int → Int) (d : Int) (c : Int → Int) : Int → Int := fun i => cz (nzs (sum3 f c i) d)
def detz (m : Int → Int) : Int := m 0 * (m 4 * m 8 - m 5 * m 7) + m 1 * (m 5 * m 6 - m 3 * m 8) + m 2 * (m 3 * m 7 - m 4 * m 6)
def nRs (a b : Int) : Prop := (0 < b → nR a b) ∧ (b < 0 → nR (-a) (-b)) ∧ b ≠ 0
theorem cl_nears {μ : mM} {a b : Int} (h : nRs a b) : f_CL_nearest μ (jz a) (jz b) = some (jz (nzs a b)) ∧ jR (nzs a b) := by
  obtain ⟨h1, h2, h3⟩ := h
  unfold nzs
  by_cases hb : b < 0
  · rw [if_pos hb]
    exact ⟨cl_nearN (h2 hb), nz_R (h2 hb)⟩
  · rw [if_neg hb]
    exact ⟨cl_near (h1 (by omega)), nz_R (h1 (by omega))⟩
theorem mul_b {x c B : Int} (h1 : -B ≤ x) (h2 : x ≤ B) (c0 : 0 ≤ c) (c1 : c ≤ 65535) : -(B * 65535) ≤ x * c ∧ x * c ≤ B * 65535 := by
  have hB : 0 ≤ B := by omega
  by_cases hx : 0 ≤ x
  · have a := Int.mul_nonneg hx c0
    have b : x * c ≤ B * 65535 := Int.mul_le_mul h2 c1 c0 hB
    have d : 0 ≤ B * 65535 := Int.mul_nonneg hB (by omega)
    omega
  · have a := Int.mul_nonneg (by omega : 0 ≤ -x) c0
    have b : -x * c ≤ B * 65535 := Int.mul_le_mul (by omega) c1 c0 hB
    rw [Int.neg_mul] at a b
    have d : 0 ≤ B * 65535 := Int.mul_nonneg hB (by omega)
    omega
theorem sum3_R {f c : Int → Int} {i B : Int} (hf : ∀ k, 0 ≤ k → k < 9 → -B ≤ f k ∧ f k ≤ B) (h0 : 0 ≤ i) (h1 : i < 3) (hl : ∀ i : Nat, i < 3 → lvl (c i)) : -(3 * (B * 65535)) ≤ sum3 f c i ∧ sum3 f c i ≤ 3 * (B * 65535) := by
  have l0 : lvl (c 0) := hl 0 (by omega)
  have l1 : lvl (c 1) := hl 1 (by omega)
  have l2 : lvl (c 2) := hl 2 (by omega)
  have a := hf (3 * i) (by omega) (by omega)
  have b := hf (3 * i + 1) (by omega) (by omega)
  have d := hf (3 * i + 2) (by omega) (by omega)
  have e0 := mul_b a.1 a.2 l0.1 l0.2
  have e1 := mul_b b.1 b.2 l1.1 l1.2
  have e2 := mul_b d.1 d.2 l2.1 l2.2
  unfold sum3
  omega
/-- the class's matrix -/
def MX (φ : mM) (a : Nat) (kd : Int) (f : Int → Int) (d : Int) : Prop := ∃ (lo : Int32) (fa : Nat) (g : Nat → Int64), φ a = some (.inr (8, [.int (iz kd), .int lo, .ref fa, .long (jz d)])) ∧ φ fa = some (.inl (1, 9, .inr (.inl g))) ∧ ∀ i : Nat, i < 9 → g i = jz (f i)
theorem mx_e {φ μ : mM} {a : Nat} {kd d : Int} {f : Int → Int} (h : MX φ a kd f d) (hF : Fr φ μ) : ∃ fa : Nat, mfA μ (some a) [8] 2 = some (some fa) ∧ mfJ μ (some a) [8] 3 = some (jz d) ∧ ∀ i : Int, 0 ≤ i → i < 9 → mgJ μ (some fa) (iz i) = some (jz (f i)) := by
  obtain ⟨lo, fa, g, h1, h2, h3⟩ := h
  refine ⟨fa, mfA_i (v := some fa) (hF _ _ h1) rfl rfl, mfJ_i (hF _ _ h1) rfl rfl, fun i h0 h9 => ?_⟩
  rw [iz_nat h0, mgJ_i (hF _ _ h2) (by omega) (by decide), h3 _ (by omega), Int.toNat_of_nonneg h0]
theorem mx_step {φ μ : mM} {a ca : Nat} {kd d : Int} {f c w : Int → Int} (h : MX φ a kd f d) (hF : Fr φ μ) (hC : CF μ ca w) (kx : mM → Option mM) {fu : Nat} {i : Int} (h0 : 0 ≤ i) (h1 : i < 3) (hn : nRs (sum3 f c i) d) : ∃ μ', f_Matrix_run_20 a kx (fu + 1) μ (some ca) (jz (c 0)) (jz (c 1)) (jz (c 2)) (iz i) = f_Matrix_run_20 a kx fu μ' (some ca) (jz (c 0)) (jz (c 1)) (jz (c 2)) (iz (i + 1)) ∧ CF μ' ca (zu w i (matz f d c i)) ∧ ∀ b, b ≠ ca → μ' b = μ b := by
  obtain ⟨fa, e1, e2, e3⟩ := mx_e h hF
  obtain ⟨q1, q2⟩ := cl_nears (μ := μ) hn
  obtain ⟨m1, s1, k1, o1⟩ := cf_s hC h0 h1 (matz f d c i)
  refine ⟨m1, ?_, k1, o1⟩
  rw [f_Matrix_run_20, zi_3, if_neg (fun q => by have := (iz_le (iR_s (by omega) (by omega)) (iR_s (by omega) (by omega))).mp q; omega), zi_1, zi_2, iz_mul, iz_add, iz_add, iz_add, e1, Option.bind_some, e3 _ (by omega) (by omega), Option.bind_some, Option.bind_some, e3 _ (by omega) (by omega), Option.bind_some, Option.bind_some, e3 _ (by omega) (by omega), Option.bind_some, e2, Option.bind_some, jz_mul, jz_mul, jz_mul, jz_add, jz_add]
  change (f_CL_nearest μ (jz (sum3 f c i)) (jz d)).bind _ = _
  rw [q1, Option.bind_some, cl_clip q2, Option.bind_some]
  change (msI μ (some ca) (iz i) (iz (matz f d c i))).bind _ = _
  rw [s1, Option.bind_some]
theorem mx_run {φ μ : mM} {a ca : Nat} {kd d : Int} {f c : Int → Int} (h : MX φ a kd f d) (hca : φ ca = none) (hF : Fr φ μ) (hC : CF μ ca c) (hl : ∀ i : Nat, i < 3 → lvl (c i)) (hn : ∀ i : Int, 0 ≤ i → i < 3 → nRs (sum3 f c i) d) : ∃ μ', f_Matrix_run a μ (some ca) = some μ' ∧ CF μ' ca (matz f d c) ∧ ∀ b, b ≠ ca → μ' b = μ b := by
  obtain ⟨m1, s1, k1, o1⟩ := mx_step (c := c) h hF hC (fun μ => f_Matrix_run_91 a μ) (fu := 4095) (i := 0) (by omega) (by omega) (hn 0 (by omega) (by omega))
  have F1 := hF.put hca o1
  obtain ⟨m2, s2, k2, o2⟩ := mx_step (c := c) h F1 k1 (fun μ => f_Matrix_run_91 a μ) (fu := 4094) (i := 1) (by omega) (by omega) (hn 1 (by omega) (by omega))
  have F2 := F1.put hca o2
  obtain ⟨m3, s3, k3, o3⟩ := mx_step (c := c) h F2 k2 (fun μ => f_Matrix_run_91 a μ) (fu := 4093) (i := 2) (by omega) (by omega) (hn 2 (by omega) (by omega))
  have l0 : lvl (c 0) := hl 0 (by omega)
  have l1 : lvl (c 1) := hl 1 (by omega)
  have l2 : lvl (c 2) := hl 2 (by omega)
  refine ⟨m3, ?_, cf_ext k3 (lt3 ?_ ?_ ?_), fun b hb => (o3 b hb).trans ((o2 b hb).trans (o1 b hb))⟩
  · unfold f_Matrix_run
    rw [zi_0, zi_1, zi_2, cf_g hC (by omega) (by omega), Option.bind_some, cf_g hC (by omega) (by omega), Option.bind_some, cf_g hC (by omega) (by omega), Option.bind_some, iz_j (iR_l l0), iz_j (iR_l l1), iz_j (iR_l l2)]
    exact s1.trans (s2.trans (s3.trans (by
      rw [f_Matrix_run_20, zi_3, if_pos (by decide)]
      rfl)))
  · simp [zu]
  · simp [zu]
  · simp [zu]
section MM
variable {μ : mM} {M : Nat} {A : Nat → Nat → Int32} {S : Nat → Int32} {L : Nat → Int64} {v o m : Int → Int}
def EM (b : Int → Int) (o : Int) : Prop := 0 ≤ o ∧ o + 20 ≤ 256
theorem mxz_R {K : Int → Int} (h : KR μ M K) (p od i : Int) : -32768 ≤ mxz (bp K p) od i ∧ mxz (bp K p) od i ≤ 32768 := by
  have := wz_R h p (od + 2 + 2 * i)
  unfold mxz
  split <;> omega
theorem nm_takeL (hk : KA A) {p od : Int} (hp : 0 ≤ p) (hp6 : p < 6) (hE : EM (bp (kp A) p) od) (kx : mM → Option mM) : ∀ (j fu : Nat) (i : Int) (μ : mM) (m : Int → Int), j < fu → 0 ≤ i → i + j = 9 → NM μ M A S L v o m → ∃ μ' m', f_Mo_takeMatrix_9 M kx fu μ (iz p) (iz od) (iz i) = kx μ' ∧ NM μ' M A S L v o m' ∧ Out M μ μ' ∧ (∀ k, i ≤ k → k < 9 → m' k = mxz (bp (kp A) p) od k) ∧ (∀ k, k < i → m' k = m k) := by
  intro j
  induction j with
  | zero =>
    intro fu i μ m hf hi hij hN
    obtain ⟨fu, rfl⟩ : ∃ m, fu = m + 1 := ⟨fu - 1, by omega⟩
    refine ⟨μ, m, ?_, hN, Out.rf, fun k h1 h2 => by omega, fun _ _ => rfl⟩
    rw [f_Mo_takeMatrix_9, zi_9, if_pos ((iz_le (iR_s (by omega) (by omega)) (iR_s (by omega) (by omega))).mpr (by omega))]
  | succ j ih =>
    intro fu i μ m hf hi hij hN
    obtain ⟨fu, rfl⟩ : ∃ m, fu = m + 1 := ⟨fu - 1, by omega⟩
    have hK := nm_KR hN hk
    have hw := wz_R hK p (od + 2 + 2 * i)
    obtain ⟨e0, e1⟩ := hE
    obtain ⟨m1, s1, k1, o1⟩ := nm_sm hN hi (by omega : i < 9) (mxz (bp (kp A) p) od i)
    obtain ⟨μ', m', r1, r2, r3, r4, r5⟩ := ih fu (i + 1) m1 _ (by omega) (by omega) (by omega) k1
    refine ⟨μ', m', ?_, r2, o1.tr r3, fun k hk1 hk2 => ?_, fun k hk => ?_⟩
    · unfold mxz at s1
      rw [f_Mo_takeMatrix_9]
      unfold f_Mo_takeMatrix_54
      rw [zi_9, if_neg (fun q => by have := (iz_le (iR_s (by omega) (by omega)) (iR_s (by omega) (by omega))).mp q; omega), nm_rc hN, Option.bind_some, zi_2, iz_mul, iz_add, iz_add, km_word hK hp hp6 (by omega) (by omega), Option.bind_some, nm_f20 hN, Option.bind_some, zi_32767, zi_65536, iz_sub, zi_1, iz_add]
      by_cases hc : 32767 < wz (bp (kp A) p) (od + 2 + 2 * i)
      · rw [if_pos hc] at s1
        rw [if_neg (fun q => by have := (iz_le (iR_s (by omega) (by omega)) (iR_s (by omega) (by omega))).mp q; omega), iz_j (iR_s (by omega) (by omega)), s1, Option.bind_some, r1]
      · rw [if_neg hc] at s1
        rw [if_pos ((iz_le (iR_s (by omega) (by omega)) (iR_s (by omega) (by omega))).mpr (by omega)), iz_j (iR_s (by omega) (by omega)), s1, Option.bind_some, r1]
    · by_cases hki : k = i
      · subst hki
        rw [r5 k (by omega)]
        unfold zu
        rw [if_pos rfl]
      · exact r4 k (by omega) hk2
    · rw [r5 k (by omega)]
      unfold zu
      rw [if_neg (by omega)]
theorem nm_take (h : NM μ M A S L v o m) (hk : KA A) {p : Int} (hp : 0 ≤ p) (hp6 : p < 6) (h60 : bp (kp A) p 6 ≤ 60) (hE : EM (bp (kp A) p) (da (bp (kp A) p) 5)) : ∃ μ', f_Mo_takeMatrix M μ (iz p) = some μ' ∧ NM μ' M A S L v o (mxz (bp (kp A) p) (da (bp (kp A) p) 5)) ∧ Out M μ μ' := by
  obtain ⟨μ', m', r1, r2, r3, r4, r5⟩ := nm_takeL hk hp hp6 hE (fun μ => f_Mo_takeMatrix_61 M μ) 9 4096 0 μ m (by omega) (by omega) (by omega) h
  refine ⟨μ', ?_, nm_ext r2 (fun _ _ => rfl) (fun _ _ => rfl) (fun i hi => r4 i (by omega) (by omega)), r3⟩
  unfold f_Mo_takeMatrix
  rw [nm_rc h, Option.bind_some, zi_5, km_data (nm_KR h hk) hp hp6 (iR_s (by omega) (by omega)) h60, Option.bind_some, zi_0, r1]
  rfl
theorem nm_mstep (h : NM μ M A S L v o m) (kx : mM → Option mM) {fu : Nat} {i : Int} (h0 : 0 ≤ i) (h1 : i < 3) (hn : nR (sum3 m o i) 4096) : ∃ μ', f_Mo_matrix_7 M kx (fu + 1) μ (iz i) = f_Mo_matrix_7 M kx fu μ' (iz (i + 1)) ∧ NM μ' M A S L (zu v i (matz m 4096 o i)) o m ∧ Out M μ μ' := by
  obtain ⟨m1, s1, k1, o1⟩ := nm_sv h h0 h1 (matz m 4096 o i)
  have em : matz m 4096 o i = cz (nz (sum3 m o i) 4096) := by
    unfold matz nzs
    rw [if_neg (by omega)]
  rw [em] at s1
  refine ⟨m1, ?_, k1, o1⟩
  rw [f_Mo_matrix_7, zi_3, if_neg (fun q => by have := (iz_le (iR_s (by omega) (by omega)) (iR_s (by omega) (by omega))).mp q; omega), zi_0, zi_1, zi_2, iz_mul, iz_add, iz_add, iz_add, nm_f18 h, Option.bind_some, nm_f20 h, Option.bind_some, nm_gm h (by omega) (by omega), Option.bind_some, nm_f19 h, Option.bind_some, nm_go h (by omega) (by omega), Option.bind_some]
  rw [Option.bind_some, nm_gm h (by omega) (by omega), Option.bind_some, Option.bind_some, nm_go h (by omega) (by omega), Option.bind_some, Option.bind_some, nm_gm h (by omega) (by omega), Option.bind_some, Option.bind_some, nm_go h (by omega) (by omega), Option.bind_some, jz_mul, jz_mul, jz_mul, jz_add, jz_add, zj_4096]
  change (f_Mo_clipNear μ (jz (sum3 m o i)) (jz 4096)).bind _ = _
  rw [mo_clipNear hn, Option.bind_some, s1, Option.bind_some]
theorem nm_mat (h : NM μ M A S L v o m) (hk : KA A) {p : Int} (hp : 0 ≤ p) (hp6 : p < 6) (h60 : bp (kp A) p 6 ≤ 60) (hE : EM (bp (kp A) p) (da (bp (kp A) p) 5)) (hl : ∀ i : Nat, i < 3 → lvl (o i)) : ∃ μ', f_Mo_matrix M μ (iz p) = some μ' ∧ NM μ' M A S L (matz (mxz (bp (kp A) p) (da (bp (kp A) p) 5)) 4096 o) o (mxz (bp (kp A) p) (da (bp (kp A) p) 5)) ∧ Out M μ μ' := by
  obtain ⟨m0, s0, k0, o0⟩ := nm_take h hk hp hp6 h60 hE
  have hR : ∀ i : Int, 0 ≤ i → i < 3 → nR (sum3 (mxz (bp (kp A) p) (da (bp (kp A) p) 5)) o i) 4096 := fun i a b => by
    have := sum3_R (f := mxz (bp (kp A) p) (da (bp (kp A) p) 5)) (B := 32768) (fun k _ _ => mxz_R (nm_KR h hk) p _ k) a b hl
    exact ⟨by omega, by omega, by omega, by omega⟩
  obtain ⟨m1, s1, k1, o1⟩ := nm_mstep k0 (fun μ => f_Mo_matrix_81 M μ) (fu := 4095) (i := 0) (by omega) (by omega) (hR 0 (by omega) (by omega))
  obtain ⟨m2, s2, k2, o2⟩ := nm_mstep k1 (fun μ => f_Mo_matrix_81 M μ) (fu := 4094) (i := 1) (by omega) (by omega) (hR 1 (by omega) (by omega))
  obtain ⟨m3, s3, k3, o3⟩ := nm_mstep k2 (fun μ => f_Mo_matrix_81 M μ) (fu := 4093) (i := 2) (by omega) (by omega) (hR 2 (by omega) (by omega))
  refine ⟨m3, ?_, nm_ext k3 (lt3 ?_ ?_ ?_) (fun _ _ => rfl) (fun _ _ => rfl), ((o0.tr o1).tr o2).tr o3⟩
  · unfold f_Mo_matrix
    rw [nm_rc h, Option.bind_some, s0, Option.bind_some, zi_0]
    exact s1.trans (s2.trans (s3.trans (by
      rw [f_Mo_matrix_7, zi_3, if_pos (by decide)]
      rfl)))
  · simp [zu]
  · simp [zu]
  · simp [zu]
theorem nm_det (h : NM μ M A S L v o m) : f_Mo_determinant μ M = some (jz (detz m)) := by
  have g := fun (i : Int) (a : 0 ≤ i) (b : i < 9) => nm_gm h a b
  unfold f_Mo_determinant
  rw [nm_f20 h]
  simp only [Option.bind_some, zi_0, zi_1, zi_2, zi_3, zi_4, zi_5, zi_6, zi_7, zi_8, g 0 (by omega) (by omega), g 1 (by omega) (by omega), g 2 (by omega) (by omega), g 3 (by omega) (by omega), g 4 (by omega) (by omega), g 5 (by omega) (by omega), g 6 (by omega) (by omega), g 7 (by omega) (by omega), g 8 (by omega) (by omega), jz_mul, jz_sub, jz_add]
  rfl
/-- the cofactors turned over the diagonal, times 4096 -/
def cofz (m : Int → Int) (i j : Int) : Int := m (3 * ((i + 1) % 3) + (j + 1) % 3) * m (3 * ((i + 2) % 3) + (j + 2) % 3) - m (3 * ((i + 1) % 3) + (j + 2) % 3) * m (3 * ((i + 2) % 3) + (j + 1) % 3)
def turz (m : Int → Int) : Int → Int := fun k => 4096 * cofz m (k % 3) (k / 3)
/-- m with its column i replaced -/
def colz (m c : Int → Int) (i : Int) : Int → Int := fun k => if k % 3 = i then c (k / 3) else m k
theorem cramer {m c : Int → Int} {i : Int} (h0 : 0 ≤ i) (h1 : i < 3) : 4096 * detz (colz m c i) = sum3 (turz m) c i := by
  have h : i = 0 ∨ i = 1 ∨ i = 2 := by omega
  rcases h with rfl | rfl | rfl <;> simp [detz, colz, sum3, turz, cofz] <;> grind
theorem detz_cof (m : Int → Int) : detz m = m 0 * cofz m 0 0 + m 1 * cofz m 0 1 + m 2 * cofz m 0 2 := by
  simp [detz, cofz]
theorem prod_R {a b : Int} (ha : -32768 ≤ a ∧ a ≤ 32768) (hb : -32768 ≤ b ∧ b ≤ 32768) : -1073741824 ≤ a * b ∧ a * b ≤ 1073741824 := by
  by_cases h : 0 ≤ b
  · have := Int.mul_le_mul_of_nonneg_right ha.2 h
    have := Int.mul_le_mul_of_nonneg_right ha.1 h
    omega
  · have := Int.mul_le_mul_of_nonpos_right ha.2 (by omega : b ≤ 0)
    have := Int.mul_le_mul_of_nonpos_right ha.1 (by omega : b ≤ 0)
    omega
theorem cofz_R {m : Int → Int} (hm : ∀ k, -32768 ≤ m k ∧ m k ≤ 32768) (i j : Int) : -2147483648 ≤ cofz m i j ∧ cofz m i j ≤ 2147483648 := by
  have a := prod_R (hm (3 * ((i + 1) % 3) + (j + 1) % 3)) (hm (3 * ((i + 2) % 3) + (j + 2) % 3))
  have b := prod_R (hm (3 * ((i + 1) % 3) + (j + 2) % 3)) (hm (3 * ((i + 2) % 3) + (j + 1) % 3))
  unfold cofz
  omega
theorem detz_R {m : Int → Int} (hm : ∀ k, -32768 ≤ m k ∧ m k ≤ 32768) : -300000000000000 ≤ detz m ∧ detz m ≤ 300000000000000 := by
  have key : ∀ a c : Int, (-32768 ≤ a ∧ a ≤ 32768) → (-2147483648 ≤ c ∧ c ≤ 2147483648) → -70368744177664 ≤ a * c ∧ a * c ≤ 70368744177664 := by
    intro a c ha hc
    by_cases h : 0 ≤ c
    · have := Int.mul_le_mul_of_nonneg_right ha.2 h
      have := Int.mul_le_mul_of_nonneg_right ha.1 h
      omega
    · have := Int.mul_le_mul_of_nonpos_right ha.2 (by omega : c ≤ 0)
      have := Int.mul_le_mul_of_nonpos_right ha.1 (by omega : c ≤ 0)
      omega
  have a := key _ _ (hm 0) (cofz_R hm 0 0)
  have b := key _ _ (hm 1) (cofz_R hm 0 1)
  have c := key _ _ (hm 2) (cofz_R hm 0 2)
  rw [detz_cof]
  omega
theorem turz_R {m : Int → Int} (hm : ∀ k, -32768 ≤ m k ∧ m k ≤ 32768) (k : Int) : -8796093022208 ≤ turz m k ∧ turz m k ≤ 8796093022208 := by
  have := cofz_R hm (k % 3) (k / 3)
  unfold turz
  omega
theorem back_n {m c : Int → Int} (hm : ∀ k, -32768 ≤ m k ∧ m k ≤ 32768) (hd : detz m ≠ 0) (hl : ∀ i : Nat, i < 3 → lvl (c i)) {i : Int} (h0 : 0 ≤ i) (h1 : i < 3) : nRs (sum3 (turz m) c i) (detz m) := by
  have a := sum3_R (f := turz m) (B := 8796093022208) (fun k _ _ => turz_R hm k) h0 h1 hl
  have b := detz_R hm
  exact ⟨fun h => ⟨h, by omega, by omega, by omega⟩, fun h => ⟨by omega, by omega, by omega, by omega⟩, hd⟩
end MM
