/-! The class's colour as a function; SPREAD, GATHER, CURVES and CURVES BACK, both sides. -/
def CF (μ : mM) (a : Nat) (c : Int → Int) : Prop := ∃ f : Nat → Int32, μ a = some (.inl (0, 3, .inl f)) ∧ ∀ i : Nat, i < 3 → f i = iz (c i)
theorem cf_ca {μ : mM} {a : Nat} {c : Int → Int} (h : CF μ a c) : CA μ a (c 0) (c 1) (c 2) := by
  obtain ⟨f, h1, h2⟩ := h
  exact ⟨f, h1, h2 0 (by omega), h2 1 (by omega), h2 2 (by omega)⟩
theorem ca_cf {μ : mM} {a : Nat} {c0 c1 c2 : Int} (h : CA μ a c0 c1 c2) : CF μ a (v3 c0 c1 c2) := by
  obtain ⟨f, h1, e0, e1, e2⟩ := h
  refine ⟨f, h1, fun i hi => ?_⟩
  have h : i = 0 ∨ i = 1 ∨ i = 2 := by omega
  rcases h with rfl | rfl | rfl
  · exact e0
  · exact e1
  · exact e2
theorem cf_ext {μ : mM} {a : Nat} {c c' : Int → Int} (h : CF μ a c) (he : ∀ i : Nat, i < 3 → c i = c' i) : CF μ a c' := by
  obtain ⟨f, h1, h2⟩ := h
  exact ⟨f, h1, fun i hi => by rw [← he i hi]; exact h2 i hi⟩
theorem cf_g {μ : mM} {a : Nat} {c : Int → Int} (h : CF μ a c) {i : Int} (h0 : 0 ≤ i) (h1 : i < 3) : mgI μ (some a) (iz i) = some (iz (c i)) := by
  obtain ⟨f, e1, e2⟩ := h
  rw [mgI_z e1 h0 (by omega) (by decide), e2 _ (by omega), Int.toNat_of_nonneg h0]
theorem zu_rowI {f : Nat → Int32} {g : Int → Int} {n : Nat} {i : Int} (h0 : 0 ≤ i) (x : Int) (h : ∀ j : Nat, j < n → f j = iz (g j)) : ∀ j : Nat, j < n → upd f i.toNat (iz x) j = iz (zu g i x j) := by
  intro j hj
  unfold upd zu
  by_cases e : j = i.toNat
  · rw [if_pos e, if_pos (by omega)]
  · rw [if_neg e, if_neg (by omega), h j hj]
theorem cf_s {μ : mM} {a : Nat} {c : Int → Int} (h : CF μ a c) {i : Int} (h0 : 0 ≤ i) (h1 : i < 3) (x : Int) : ∃ μ', msI μ (some a) (iz i) (iz x) = some μ' ∧ CF μ' a (zu c i x) ∧ ∀ b, b ≠ a → μ' b = μ b := by
  obtain ⟨f, e1, e2⟩ := h
  exact ⟨_, by rw [iz_nat h0]; exact msI_i e1 (by omega) (by decide), ⟨_, mup_self _ _ _, zu_rowI h0 x e2⟩, fun b hb => mup_ne _ _ hb⟩
theorem lt3 {P : Nat → Prop} (h0 : P 0) (h1 : P 1) (h2 : P 2) : ∀ i : Nat, i < 3 → P i := by
  intro i hi
  have h : i = 0 ∨ i = 1 ∨ i = 2 := by omega
  rcases h with rfl | rfl | rfl
  · exact h0
  · exact h1
  · exact h2
def dz : Int → Int := v3 31595 32768 27030
theorem mgD_z {i : Int} (h0 : 0 ≤ i) (h1 : i < 3) : mgD (iz i) = some (iz (dz i)) := by
  have h : i = 0 ∨ i = 1 ∨ i = 2 := by omega
  rcases h with rfl | rfl | rfl
  · exact mgD_0
  · exact mgD_1
  · exact mgD_2
theorem dz_R {i : Int} (h0 : 0 ≤ i) (h1 : i < 3) : 27030 ≤ dz i ∧ dz i ≤ 32768 := by
  have h : i = 0 ∨ i = 1 ∨ i = 2 := by omega
  rcases h with rfl | rfl | rfl <;> decide
/-- SPREAD into the space sp -/
def sprz (sp : Int) (c : Int → Int) : Int → Int := fun i => if sp = 1 then (if i = 0 then c 0 else 32896) else nz (dz i * c 0) 65535
def gatz (sp : Int) (c : Int → Int) : Int → Int := v3 (if sp = 1 then c 0 else cz (nz (65535 * c 1) 32768)) 0 0
theorem spr_n {c i : Int} (hc : lvl c) (h0 : 0 ≤ i) (h1 : i < 3) : nR (dz i * c) 65535 ∧ lvl (nz (dz i * c) 65535) := by
  have hd := dz_R h0 h1
  have a : 0 ≤ dz i * c := Int.mul_nonneg (by omega) hc.1
  have b : dz i * c ≤ 32768 * 65535 := Int.mul_le_mul hd.2 hc.2 hc.1 (by omega)
  have h2 : nz (dz i * c) 65535 ≤ 65535 := nz_le (by omega) (by omega)
  have h3 : 0 ≤ nz (dz i * c) 65535 := nz_ge (by omega) (by omega)
  exact ⟨⟨by omega, by omega, by omega, by omega⟩, h3, h2⟩
theorem spr_R {sp : Int} {c : Int → Int} (hc : lvl (c 0)) : ∀ i : Nat, i < 3 → lvl (sprz sp c i) := by
  intro i hi
  unfold sprz
  split
  · split
    · exact hc
    · exact ⟨by omega, by omega⟩
  · exact (spr_n hc (by omega) (by omega)).2
theorem gat_R {sp : Int} {c : Int → Int} (hc : lvl (c 0)) : ∀ i : Nat, i < 3 → lvl (gatz sp c i) := by
  have hz : lvl 0 := ⟨by omega, by omega⟩
  refine lt3 ?_ hz hz
  show lvl (if sp = 1 then c 0 else cz (nz (65535 * c 1) 32768))
  split
  · exact hc
  · exact cz_R _
def GY (μ : mM) (a : Nat) (kd sp : Int) : Prop := μ a = some (.inr (4, [.int (iz kd), .int 0, .int (iz sp)]))
theorem gy_sprL {μ0 : mM} {h0 : Nat} {ca : Nat} {c0 : Int} (hc : lvl c0) (kx : mM → Option mM) {fu : Nat} {i : Int} {μ : mM} {c : Int → Int} (h : CF μ ca c) (hi0 : 0 ≤ i) (hi : i < 3) : ∃ μ', f_Gray_spread_27 h0 kx (fu + 1) μ (some ca) (jz c0) (iz i) = f_Gray_spread_27 h0 kx fu μ' (some ca) (jz c0) (iz (i + 1)) ∧ CF μ' ca (zu c i (nz (dz i * c0) 65535)) ∧ ∀ b, b ≠ ca → μ' b = μ b := by
  have hd := dz_R hi0 hi
  obtain ⟨hn, hl⟩ := spr_n hc hi0 hi
  obtain ⟨μ', s1, k1, o1⟩ := cf_s h hi0 hi (nz (dz i * c0) 65535)
  refine ⟨μ', ?_, k1, o1⟩
  rw [f_Gray_spread_27, zi_3, if_neg (fun q => by have := (iz_le (iR_s (by omega) (by omega)) (iR_s (by omega) (by omega))).mp q; omega), mgD_z hi0 hi, Option.bind_some, iz_j (iR_s (by omega) (by omega)), jz_mul, zj_65535, cl_near hn, Option.bind_some, jz_i, s1, Option.bind_some, zi_1, iz_add]
theorem gy_run4 {μ : mM} {a ca : Nat} {sp : Int} {c : Int → Int} (hg : GY μ a 4 sp) (hsp : sp = 0 ∨ sp = 1) (hc : CF μ ca c) (hl : ∀ i : Nat, i < 3 → lvl (c i)) : ∃ μ', f_Gray_run a μ (some ca) = some μ' ∧ CF μ' ca (sprz sp c) ∧ ∀ b, b ≠ ca → μ' b = μ b := by
  have hl0 : lvl (c 0) := hl 0 (by omega)
  have e0 : mfI μ (some a) [4] 0 = some (iz 4) := mfI_i hg rfl rfl
  have e2 : mfI μ (some a) [4] 2 = some (iz sp) := mfI_i hg rfl rfl
  have er : mrc μ (some a) 4 = some a := mrc_i hg
  have g0 := cf_g hc (i := 0) (by omega) (by omega)
  unfold f_Gray_run f_Gray_run_21 f_Gray_spread
  rw [e0, Option.bind_some, zi_4, if_pos rfl, er, Option.bind_some, zi_0, g0, Option.bind_some, e2, Option.bind_some, zi_1]
  rcases hsp with rfl | rfl
  · rw [if_neg (by decide), iz_j (iR_l hl0)]
    obtain ⟨m1, s1, k1, o1⟩ := gy_sprL (μ0 := μ) (h0 := a) hl0 (fun μ => f_Gray_spread_59 a μ) (fu := 4095) hc (i := 0) (by omega) (by omega)
    obtain ⟨m2, s2, k2, o2⟩ := gy_sprL (μ0 := μ) (h0 := a) hl0 (fun μ => f_Gray_spread_59 a μ) (fu := 4094) k1 (i := 1) (by omega) (by omega)
    obtain ⟨m3, s3, k3, o3⟩ := gy_sprL (μ0 := μ) (h0 := a) hl0 (fun μ => f_Gray_spread_59 a μ) (fu := 4093) k2 (i := 2) (by omega) (by omega)
    refine ⟨m3, ?_, cf_ext k3 (lt3 ?_ ?_ ?_), fun b hb => (o3 b hb).trans ((o2 b hb).trans (o1 b hb))⟩
    · have hh : f_Gray_spread_27 a (fun μ => f_Gray_spread_59 a μ) 4096 μ (some ca) (jz (c 0)) (iz 0) = some m3 := s1.trans (s2.trans (s3.trans (by
        rw [f_Gray_spread_27, zi_3, if_pos (by decide)]
        rfl)))
      rw [hh]
      rfl
    · simp [zu, sprz]
    · simp [zu, sprz]
    · simp [zu, sprz]
  · rw [if_pos rfl, zi_32896, zi_2]
    obtain ⟨m1, s1, k1, o1⟩ := cf_s hc (i := 1) (by omega) (by omega) 32896
    obtain ⟨m2, s2, k2, o2⟩ := cf_s k1 (i := 2) (by omega) (by omega) 32896
    refine ⟨m2, ?_, cf_ext k2 (lt3 ?_ ?_ ?_), fun b hb => (o2 b hb).trans (o1 b hb)⟩
    · rw [s1, Option.bind_some, s2]
      rfl
    · simp [zu, sprz]
    · simp [zu, sprz]
    · simp [zu, sprz]
theorem gy_run9 {μ : mM} {a ca : Nat} {sp : Int} {c : Int → Int} (hg : GY μ a 9 sp) (hsp : sp = 0 ∨ sp = 1) (hc : CF μ ca c) (hl : ∀ i : Nat, i < 3 → lvl (c i)) : ∃ μ', f_Gray_run a μ (some ca) = some μ' ∧ CF μ' ca (gatz sp c) ∧ ∀ b, b ≠ ca → μ' b = μ b := by
  have hl1 : lvl (c 1) := hl 1 (by omega)
  have e0 : mfI μ (some a) [4] 0 = some (iz 9) := mfI_i hg rfl rfl
  have e2 : mfI μ (some a) [4] 2 = some (iz sp) := mfI_i hg rfl rfl
  have er : mrc μ (some a) 4 = some a := mrc_i hg
  have g1 := cf_g hc (i := 1) (by omega) (by omega)
  unfold f_Gray_run f_Gray_run_21 f_Gray_gather f_Gray_gather_27
  rw [e0, Option.bind_some, zi_4, if_neg (by decide), er, Option.bind_some, e2, Option.bind_some, zi_0, zi_1, zi_2]
  rcases hsp with rfl | rfl
  · have hn : nR (65535 * c 1) 32768 := ⟨by omega, by omega, by have := hl1.1; omega, by have := hl1.2; omega⟩
    obtain ⟨m1, s1, k1, o1⟩ := cf_s hc (i := 0) (by omega) (by omega) (cz (nz (65535 * c 1) 32768))
    obtain ⟨m2, s2, k2, o2⟩ := cf_s k1 (i := 1) (by omega) (by omega) 0
    obtain ⟨m3, s3, k3, o3⟩ := cf_s k2 (i := 2) (by omega) (by omega) 0
    refine ⟨m3, ?_, cf_ext k3 (lt3 ?_ ?_ ?_), fun b hb => (o3 b hb).trans ((o2 b hb).trans (o1 b hb))⟩
    · rw [if_pos rfl, g1, Option.bind_some, iz_j (iR_l hl1), zj_65535, jz_mul, zj_32768, cl_near hn, Option.bind_some, cl_clip (nz_R hn), Option.bind_some, s1, Option.bind_some, s2, Option.bind_some, s3]
      rfl
    · simp [zu, gatz, v3]
    · simp [zu, gatz, v3]
    · simp [zu, gatz, v3]
  · obtain ⟨m2, s2, k2, o2⟩ := cf_s hc (i := 1) (by omega) (by omega) 0
    obtain ⟨m3, s3, k3, o3⟩ := cf_s k2 (i := 2) (by omega) (by omega) 0
    refine ⟨m3, ?_, cf_ext k3 (lt3 ?_ ?_ ?_), fun b hb => (o3 b hb).trans (o2 b hb)⟩
    · rw [if_neg (by decide), s2, Option.bind_some, s3]
      rfl
    · simp [zu, gatz, v3]
    · simp [zu, gatz, v3]
    · simp [zu, gatz, v3]
section GM
variable {μ : mM} {M : Nat} {A : Nat → Nat → Int32} {S : Nat → Int32} {L : Nat → Int64} {v o m : Int → Int}
theorem km_lab {K : Int → Int} (h : KR μ M K) {p : Int} (hp : 0 ≤ p) (hp6 : p < 6) : f_Mo_lab μ M (iz p) = some (iz (if bp K p 4 = 1 then 1 else 0)) := by
  have hb := bp_R h p 4
  unfold f_Mo_lab f_Mo_lab_15
  rw [h.1, Option.bind_some, zi_4, km_part h hp hp6 (by omega) (by omega), Option.bind_some, mz_0, mz_1, zi_1, zi_0]
  by_cases hc : bp K p 4 = 1
  · rw [hc, if_pos rfl, if_pos rfl]
    rfl
  · rw [if_neg (fun q => hc ((iz_eq (iR_s (by omega) (by omega)) (iR_s (by omega) (by omega))).mp q)), if_neg hc]
    rfl
theorem km_single {K : Int → Int} (h : KR μ M K) {p : Int} (hp : 0 ≤ p) (hp6 : p < 6) : f_Mo_single μ M (iz p) = some (iz (if bp K p 3 = 1 then 1 else 0)) := by
  have hb := bp_R h p 3
  unfold f_Mo_single f_Mo_single_15
  rw [h.1, Option.bind_some, zi_3, km_part h hp hp6 (by omega) (by omega), Option.bind_some, mz_0, mz_1, zi_1, zi_0]
  by_cases hc : bp K p 3 = 1
  · rw [hc, if_pos rfl, if_pos rfl]
    rfl
  · rw [if_neg (fun q => hc ((iz_eq (iR_s (by omega) (by omega)) (iR_s (by omega) (by omega))).mp q)), if_neg hc]
    rfl
theorem nm_sprL (kx : mM → Option mM) (h : NM μ M A S L v o m) (hk : KA A) {p : Int} (hp : 0 ≤ p) (hp6 : p < 6) (hl : lvl (o 0)) {fu : Nat} {i : Int} (hi0 : 0 ≤ i) (hi : i < 3) : ∃ μ', f_Mo_spread_2 M kx (fu + 1) μ (iz p) (iz i) = f_Mo_spread_2 M kx fu μ' (iz p) (iz (i + 1)) ∧ NM μ' M A S L (zu v i (sprz (bp (kp A) p 4) o i)) o m ∧ Out M μ μ' := by
  have hK := nm_KR h hk
  have hd := dz_R hi0 hi
  obtain ⟨hn, -⟩ := spr_n hl hi0 hi
  obtain ⟨μ', s1, k1, o1⟩ := nm_sv h hi0 hi (sprz (bp (kp A) p 4) o i)
  refine ⟨μ', ?_, k1, o1⟩
  have g0 := nm_go h (i := 0) (by omega) (by omega)
  have e3 : iz (v3 31595 32768 27030 i) = iz (dz i) := rfl
  unfold sprz at s1
  rw [f_Mo_spread_2]
  unfold f_Mo_spread_57
  rw [zi_3, if_neg (fun q => by have := (iz_le (iR_s (by omega) (by omega)) (iR_s (by omega) (by omega))).mp q; omega), nm_f18 h, Option.bind_some, nm_rc h, Option.bind_some, km_lab hK hp hp6, Option.bind_some, zi_0, zj_32896, zi_1, iz_add]
  by_cases hc : bp (kp A) p 4 = 1
  · rw [if_pos hc] at s1 ⊢
    rw [if_neg (by decide)]
    by_cases hz : i = 0
    · rw [if_pos hz] at s1
      rw [if_pos (congrArg iz hz), nm_f19 h, Option.bind_some, g0, Option.bind_some, s1, Option.bind_some]
    · rw [if_neg hz] at s1
      rw [if_neg (fun q => hz ((iz_eq (iR_s (by omega) (by omega)) (iR_s (by omega) (by omega))).mp q)), s1, Option.bind_some]
  · rw [if_neg hc] at s1 ⊢
    rw [if_pos rfl, mo_point hi0 hi, Option.bind_some, nm_f19 h, Option.bind_some, g0, Option.bind_some, e3, iz_j (iR_s (by omega) (by omega)), jz_mul, zj_65535, mo_near hn, Option.bind_some, s1, Option.bind_some]
theorem nm_spr (h : NM μ M A S L v o m) (hk : KA A) {p : Int} (hp : 0 ≤ p) (hp6 : p < 6) (hl : lvl (o 0)) : ∃ μ', f_Mo_spread M μ (iz p) = some μ' ∧ NM μ' M A S L (sprz (bp (kp A) p 4) o) o m ∧ Out M μ μ' := by
  obtain ⟨m1, s1, k1, o1⟩ := nm_sprL (fun μ => f_Mo_spread_64 M μ) h hk hp hp6 hl (fu := 4095) (i := 0) (by omega) (by omega)
  obtain ⟨m2, s2, k2, o2⟩ := nm_sprL (fun μ => f_Mo_spread_64 M μ) k1 hk hp hp6 hl (fu := 4094) (i := 1) (by omega) (by omega)
  obtain ⟨m3, s3, k3, o3⟩ := nm_sprL (fun μ => f_Mo_spread_64 M μ) k2 hk hp hp6 hl (fu := 4093) (i := 2) (by omega) (by omega)
  refine ⟨m3, ?_, nm_ext k3 (lt3 ?_ ?_ ?_) (fun _ _ => rfl) (fun _ _ => rfl), (o1.tr o2).tr o3⟩
  · unfold f_Mo_spread
    rw [zi_0]
    exact s1.trans (s2.trans (s3.trans (by
      rw [f_Mo_spread_2, zi_3, if_pos (by decide)]
      rfl)))
  · simp [zu]
  · simp [zu]
  · simp [zu]
theorem nm_gat (h : NM μ M A S L v o m) (hk : KA A) {p : Int} (hp : 0 ≤ p) (hp6 : p < 6) (hl : lvl (o 1)) : ∃ μ', f_Mo_gather M μ (iz p) = some μ' ∧ NM μ' M A S L (gatz (bp (kp A) p 4) o) o m ∧ Out M μ μ' := by
  have hK := nm_KR h hk
  have hn : nR (65535 * o 1) 32768 := ⟨by omega, by omega, by have := hl.1; omega, by have := hl.2; omega⟩
  obtain ⟨m1, s1, k1, o1⟩ := nm_sv h (i := 0) (by omega) (by omega) (if bp (kp A) p 4 = 1 then o 0 else cz (nz (65535 * o 1) 32768))
  obtain ⟨m2, s2, k2, o2⟩ := nm_sv k1 (i := 1) (by omega) (by omega) 0
  obtain ⟨m3, s3, k3, o3⟩ := nm_sv k2 (i := 2) (by omega) (by omega) 0
  have g0 := nm_go h (i := 0) (by omega) (by omega)
  have g1 := nm_go h (i := 1) (by omega) (by omega)
  refine ⟨m3, ?_, nm_ext k3 (lt3 ?_ ?_ ?_) (fun _ _ => rfl) (fun _ _ => rfl), (o1.tr o2).tr o3⟩
  · unfold f_Mo_gather f_Mo_gather_38
    rw [nm_f18 h, Option.bind_some, nm_rc h, Option.bind_some, km_lab hK hp hp6, Option.bind_some, zi_0, zi_1, zi_2, zj_0]
    by_cases hc : bp (kp A) p 4 = 1
    · rw [if_pos hc] at s1 ⊢
      rw [if_neg (by decide), nm_f19 h, Option.bind_some, g0, Option.bind_some, s1, Option.bind_some, nm_f18 k1, Option.bind_some, s2, Option.bind_some, nm_f18 k2, Option.bind_some, s3]
      rfl
    · rw [if_neg hc] at s1 ⊢
      rw [if_pos rfl, nm_f19 h, Option.bind_some, g1, Option.bind_some, zj_65535, jz_mul, zj_32768, mo_clipNear hn, Option.bind_some, s1, Option.bind_some, nm_f18 k1, Option.bind_some, s2, Option.bind_some, nm_f18 k2, Option.bind_some, s3]
      rfl
  · simp [zu, gatz, v3]
  · simp [zu, gatz, v3]
  · simp [zu, gatz, v3]
end GM
