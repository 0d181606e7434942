/-! Curves: g of a POWER (0: SAMPLES), wn words wd. -/
theorem nz_le {a b c : Int} (hb : 0 < b) (h : 2 * a + b < (c + 1) * (2 * b)) : nz a b ≤ c := by
  have := Int.ediv_lt_of_lt_mul (a := 2 * a + b) (b := c + 1) (c := 2 * b) (by omega) h
  unfold nz
  omega
theorem nz_ge {a b c : Int} (hb : 0 < b) (h : c * (2 * b) ≤ 2 * a + b) : c ≤ nz a b := Int.le_ediv_of_mul_le (by omega) h
/-- what is between 0 and d times 65535, over 65535 -/
theorem nz_btw {d f : Int} (h0 : 0 ≤ f) (h1 : f ≤ 65535) : (0 ≤ d → 0 ≤ nz (d * f) 65535 ∧ nz (d * f) 65535 ≤ d) ∧ (d ≤ 0 → d ≤ nz (d * f) 65535 ∧ nz (d * f) 65535 ≤ 0) := by
  refine ⟨fun hd => ?_, fun hd => ?_⟩
  · have h2 : 0 ≤ d * f := Int.mul_nonneg hd h0
    have h3 : d * f ≤ d * 65535 := Int.mul_le_mul_of_nonneg_left h1 hd
    exact ⟨nz_ge (by omega) (by omega), nz_le (by omega) (by omega)⟩
  · have h2 : d * f ≤ 0 := Int.mul_nonpos_of_nonpos_of_nonneg hd h0
    have h3 : d * 65535 ≤ d * f := Int.mul_le_mul_of_nonpos_left hd h1
    exact ⟨nz_ge (by omega) (by omega), nz_le (by omega) (by omega)⟩
def pwz (x : Int) : Nat → Int → Int
  | 0, v => v
  | n + 1, v => pwz x n (nz (v * x) 65535)
def smi (wn x : Int) : Int := if x * (wn - 1) / 65535 < wn - 2 then x * (wn - 1) / 65535 else wn - 2
def smp (wn : Int) (wd : Int → Int) (x : Int) : Int := wd (smi wn x) + nz ((wd (smi wn x + 1) - wd (smi wn x)) * (x * (wn - 1) - 65535 * smi wn x)) 65535
def cval (g wn : Int) (wd : Int → Int) (x : Int) : Int := if 0 < g then (if x < wd 1 then cz (nz (wd 0 * x) 256) else pwz x (g - 1).toNat x) else if wn < 2 then x else smp wn wd x
def CD (g wn : Int) (wd : Int → Int) : Prop := 0 ≤ g ∧ g ≤ 4 ∧ (0 < g → wn = 2) ∧ (g = 0 → wn = 0 ∨ (2 ≤ wn ∧ wn ≤ 24)) ∧ ∀ i, 0 ≤ i → i < wn → 0 ≤ wd i ∧ wd i ≤ 65535
theorem pw_R {x : Int} (h0 : 0 ≤ x) (h1 : x ≤ 65535) : ∀ (n : Nat) (v : Int), 0 ≤ v → v ≤ 65535 → 0 ≤ pwz x n v ∧ pwz x n v ≤ 65535
  | 0, v, a, b => ⟨a, b⟩
  | n + 1, v, a, b => by
    have h := (nz_btw (d := v) h0 h1).1 a
    exact pw_R h0 h1 n _ h.1 (by omega)
theorem smi_R {wn x : Int} (hw : 2 ≤ wn) (h0 : 0 ≤ x) (h1 : x ≤ 65535) : 0 ≤ smi wn x ∧ smi wn x ≤ wn - 2 ∧ 0 ≤ x * (wn - 1) - 65535 * smi wn x ∧ x * (wn - 1) - 65535 * smi wn x ≤ 65535 := by
  have hq : 0 ≤ x * (wn - 1) := Int.mul_nonneg h0 (by omega)
  have hq2 : x * (wn - 1) ≤ 65535 * (wn - 1) := Int.mul_le_mul_of_nonneg_right h1 (by omega)
  unfold smi
  split <;> omega
theorem smp_R {wn : Int} {wd : Int → Int} {x : Int} (hw : 2 ≤ wn) (hd : ∀ i, 0 ≤ i → i < wn → 0 ≤ wd i ∧ wd i ≤ 65535) (h0 : 0 ≤ x) (h1 : x ≤ 65535) : 0 ≤ smp wn wd x ∧ smp wn wd x ≤ 65535 := by
  obtain ⟨a, b, c, d⟩ := smi_R hw h0 h1
  have e1 := hd (smi wn x) a (by omega)
  have e2 := hd (smi wn x + 1) (by omega) (by omega)
  have h := nz_btw (d := wd (smi wn x + 1) - wd (smi wn x)) c d
  unfold smp
  by_cases hs : 0 ≤ wd (smi wn x + 1) - wd (smi wn x)
  · have := h.1 hs
    omega
  · have := h.2 (by omega)
    omega
theorem cval_R {g wn : Int} {wd : Int → Int} {x : Int} (h : CD g wn wd) (h0 : 0 ≤ x) (h1 : x ≤ 65535) : 0 ≤ cval g wn wd x ∧ cval g wn wd x ≤ 65535 := by
  obtain ⟨ha, hb, hc, hd, he⟩ := h
  unfold cval
  split
  · split
    · exact cz_R _
    · exact pw_R h0 h1 _ _ h0 h1
  · split
    · exact ⟨h0, h1⟩
    · exact smp_R (by omega) he h0 h1
def CV (μ : mM) (c : Nat) (g wn : Int) (wd : Int → Int) : Prop := ∃ (ad : Nat) (f : Nat → Int32), μ c = some (.inr (2, [.int (iz g), .ref ad])) ∧ μ ad = some (.inl (0, wn.toNat, .inl f)) ∧ (∀ i : Nat, (i : Int) < wn → f i = iz (wd i)) ∧ 0 ≤ wn ∧ wn ≤ 24
theorem mgI_z {μ : mM} {a n : Nat} {f : Nat → Int32} {i : Int} (h : μ a = some (.inl (0, n, .inl f))) (h0 : 0 ≤ i) (hi : i < n) (hn : n < 2 ^ 31) : mgI μ (some a) (iz i) = some (f i.toNat) := by
  rw [iz_nat h0]
  exact mgI_i h (by omega) hn
theorem cv_e {μ : mM} {c : Nat} {g wn : Int} {wd : Int → Int} (h : CV μ c g wn wd) : ∃ ad : Nat, mrc μ (some c) 2 = some c ∧ mfI μ (some c) [2] 0 = some (iz g) ∧ mfA μ (some c) [2] 1 = some (some ad) ∧ ml μ (some ad) = some (iz wn) ∧ ∀ i : Int, 0 ≤ i → i < wn → mgI μ (some ad) (iz i) = some (iz (wd i)) := by
  obtain ⟨ad, f, h1, h2, h3, h4, h5⟩ := h
  refine ⟨ad, mrc_i h1, mfI_i h1 rfl rfl, mfA_i (v := some ad) h1 rfl rfl, ?_, fun i a b => ?_⟩
  · rw [ml_i h2 (by decide), nI_iz]
    show some (iz (wn.toNat : Int)) = _
    rw [Int.toNat_of_nonneg h4]
  · have h6 : (i.toNat : Int) = i := Int.toNat_of_nonneg a
    rw [mgI_z h2 a (by omega) (by omega), h3 i.toNat (by omega), h6]
theorem iR_s {n : Int} (h0 : -1000000000 ≤ n) (h1 : n ≤ 1000000000) : iR n := ⟨by omega, by omega⟩
theorem jR_s {n : Int} (h0 : -1000000000000000000 ≤ n) (h1 : n ≤ 1000000000000000000) : jR n := ⟨by omega, by omega⟩
theorem cv_line {μ : mM} {c : Nat} {g wn : Int} {wd : Int → Int} {x : Int} (h : CV μ c g wn wd) (hd : CD g wn wd) (hg : 0 < g) (h0 : 0 ≤ x) (h1 : x ≤ 65535) : f_Curve_lineAt μ c (iz x) = some (iz (cz (nz (wd 0 * x) 256))) := by
  obtain ⟨ad, e1, e2, e3, e4, e5⟩ := cv_e h
  obtain ⟨-, -, d3, -, d5⟩ := hd
  have hw := d3 hg
  have hw0 := d5 0 (by omega) (by omega)
  have hm : 0 ≤ wd 0 * x := Int.mul_nonneg hw0.1 h0
  have hm2 : wd 0 * x ≤ 65535 * 65535 := Int.mul_le_mul hw0.2 h1 h0 (by omega)
  have hn : nR (wd 0 * x) 256 := ⟨by omega, by omega, by omega, by omega⟩
  unfold f_Curve_lineAt
  rw [e3, Option.bind_some, zi_0, e5 0 (by omega) (by omega), Option.bind_some, iz_j (iR_s (by omega) (by omega)), iz_j (iR_s (by omega) (by omega)), jz_mul, zj_256, cl_near hn, Option.bind_some, cl_clip (nz_R hn)]
  rfl
theorem cv_powL {μ : mM} {c : Nat} {g wn : Int} {wd : Int → Int} {x : Int} (h : CV μ c g wn wd) (hg : 0 < g) (hg4 : g ≤ 4) (h0 : 0 ≤ x) (h1 : x ≤ 65535) (kx : Int64 → Option Int32) : ∀ (n : Nat) (fu : Nat) (v k : Int), n < fu → 0 ≤ v → v ≤ 65535 → 1 ≤ k → k + n = g → f_Curve_powerAt_6 μ c kx fu (iz x) (jz v) (iz k) = kx (jz (pwz x n v)) := by
  obtain ⟨ad, e1, e2, e3, e4, e5⟩ := cv_e h
  intro n
  induction n with
  | zero =>
    intro fu v k hf hv0 hv1 hk1 hk
    obtain ⟨fu, rfl⟩ : ∃ m, fu = m + 1 := ⟨fu - 1, by omega⟩
    rw [f_Curve_powerAt_6, e2, Option.bind_some, if_pos ((iz_le (iR_s (by omega) (by omega)) (iR_s (by omega) (by omega))).mpr (by omega))]
    rfl
  | succ n ih =>
    intro fu v k hf hv0 hv1 hk1 hk
    obtain ⟨fu, rfl⟩ : ∃ m, fu = m + 1 := ⟨fu - 1, by omega⟩
    have hb := (nz_btw (d := v) h0 h1).1 hv0
    have hm : 0 ≤ v * x := Int.mul_nonneg hv0 h0
    have hm2 : v * x ≤ 65535 * 65535 := Int.mul_le_mul hv1 h1 h0 (by omega)
    rw [f_Curve_powerAt_6, e2, Option.bind_some, if_neg (fun q => by have := (iz_le (iR_s (by omega) (by omega)) (iR_s (by omega) (by omega))).mp q; omega), iz_j (iR_s (by omega) (by omega)), jz_mul, zj_65535, cl_near ⟨by omega, by omega, by omega, by omega⟩, Option.bind_some, zi_1, iz_add, ih fu _ (k + 1) (by omega) hb.1 (by omega) (by omega) (by omega)]
    rfl
theorem cv_pow {μ : mM} {c : Nat} {g wn : Int} {wd : Int → Int} {x : Int} (h : CV μ c g wn wd) (hg : 0 < g) (hg4 : g ≤ 4) (h0 : 0 ≤ x) (h1 : x ≤ 65535) : f_Curve_powerAt μ c (iz x) = some (iz (pwz x (g - 1).toNat x)) := by
  unfold f_Curve_powerAt
  rw [iz_j (iR_s (by omega) (by omega)), zi_1, cv_powL h hg hg4 h0 h1 _ (g - 1).toNat 4096 x 1 (by omega) h0 h1 (by omega) (by omega)]
  unfold f_Curve_powerAt_32
  rw [jz_i]
theorem jmin_z {a b : Int} (ha : iR a) (hb : iR b) : jminI (iz a) (iz b) = iz (if b < a then b else a) := by
  unfold jminI
  by_cases h : b < a
  · rw [if_pos ((iz_lt hb ha).mpr h), if_pos h]
  · rw [if_neg (fun q => h ((iz_lt hb ha).mp q)), if_neg h]
theorem cv_smp {μ : mM} {c : Nat} {g wn : Int} {wd : Int → Int} {x : Int} (h : CV μ c g wn wd) (hd : CD g wn wd) (hw : 2 ≤ wn) (hw2 : wn ≤ 24) (h0 : 0 ≤ x) (h1 : x ≤ 65535) : f_Curve_sampleAt μ c (iz x) = some (iz (smp wn wd x)) := by
  obtain ⟨ad, e1, e2, e3, e4, e5⟩ := cv_e h
  have d5 := hd.2.2.2.2
  obtain ⟨a, b, q1, q2⟩ := smi_R hw h0 h1
  have w1 := d5 (smi wn x) a (by omega)
  have w2 := d5 (smi wn x + 1) (by omega) (by omega)
  have hq : 0 ≤ x * (wn - 1) := Int.mul_nonneg h0 (by omega)
  have hq2 : x * (wn - 1) ≤ 65535 * (wn - 1) := Int.mul_le_mul_of_nonneg_right h1 (by omega)
  have ed : (x * (wn - 1)).tdiv 65535 = x * (wn - 1) / 65535 := Int.tdiv_eq_ediv_of_nonneg hq
  have hi : jminI (iz wn - (2 : Int32)) ((iz x * (iz wn - (1 : Int32))) / (65535 : Int32)) = iz (smi wn x) := by
    rw [zi_2, zi_1, zi_65535, iz_sub, iz_sub, iz_mul, iz_div (iR_s (by omega) (by omega)) (iR_s (by omega) (by omega)) (by omega), ed, jmin_z (iR_s (by omega) (by omega)) (iR_s (by omega) (by omega))]
    rfl
  have hp : -65535 * 65535 ≤ (wd (smi wn x + 1) - wd (smi wn x)) * (x * (wn - 1) - 65535 * smi wn x) ∧ (wd (smi wn x + 1) - wd (smi wn x)) * (x * (wn - 1) - 65535 * smi wn x) ≤ 65535 * 65535 := by
    generalize hD : wd (smi wn x + 1) - wd (smi wn x) = d
    generalize hF : x * (wn - 1) - 65535 * smi wn x = f at q1 q2 ⊢
    by_cases hs : 0 ≤ d
    · have g1 := Int.mul_nonneg hs q1
      have g2 : d * f ≤ 65535 * 65535 := Int.mul_le_mul (by omega) q2 q1 (by omega)
      omega
    · have g1 := Int.mul_nonneg (by omega : 0 ≤ -d) q1
      have g2 : -d * f ≤ 65535 * 65535 := Int.mul_le_mul (by omega) q2 q1 (by omega)
      rw [Int.neg_mul] at g1 g2
      omega
  unfold f_Curve_sampleAt
  simp only [e3, e4, Option.bind_some, hi]
  rw [e5 _ a (by omega), Option.bind_some, zi_1, iz_add, e5 _ (by omega) (by omega), Option.bind_some, Option.bind_some, iz_sub, iz_j (iR_s (by omega) (by omega)), iz_sub, iz_mul, zi_65535, iz_mul, iz_sub, iz_j (iR_s (by omega) (by omega)), jz_mul, zj_65535, cl_near ⟨by omega, by omega, by omega, by omega⟩, Option.bind_some, jz_i, iz_add]
  rfl
theorem cv_val {μ : mM} {c : Nat} {g wn : Int} {wd : Int → Int} {x : Int} (h : CV μ c g wn wd) (hd : CD g wn wd) (h0 : 0 ≤ x) (h1 : x ≤ 65535) : f_Curve_valueAt μ c (iz x) = some (iz (cval g wn wd x)) := by
  have hD := hd
  obtain ⟨ad, e1, e2, e3, e4, e5⟩ := cv_e h
  obtain ⟨d1, d2, d3, d4, d5⟩ := hd
  have hwn : 0 ≤ wn ∧ wn ≤ 24 := by
    by_cases hg : 0 < g
    · have := d3 hg
      omega
    · have := d4 (by omega)
      omega
  unfold f_Curve_valueAt f_Curve_valueAt_30 f_Curve_valueAt_49 cval
  rw [e2, Option.bind_some, zi_0, zi_1, zi_2]
  by_cases hg : 0 < g
  · have hw := d3 hg
    have w1 := d5 1 (by omega) (by omega)
    rw [if_neg (fun q => by have := (iz_le (iR_s (by omega) (by omega)) (iR_s (by omega) (by omega))).mp q; omega), e3, Option.bind_some, e5 1 (by omega) (by omega), Option.bind_some, if_pos hg, e1, Option.bind_some, Option.bind_some]
    by_cases hx : x < wd 1
    · rw [if_neg (fun q => by have := (iz_le (iR_s (by omega) (by omega)) (iR_s (by omega) (by omega))).mp q; omega), if_pos hx, cv_line h hD hg h0 h1]
      rfl
    · rw [if_pos ((iz_le (iR_s (by omega) (by omega)) (iR_s (by omega) (by omega))).mpr (by omega)), if_neg hx, cv_pow h hg d2 h0 h1]
      rfl
  · rw [if_pos ((iz_le (iR_s (by omega) (by omega)) (iR_s (by omega) (by omega))).mpr (by omega)), e3, Option.bind_some, e4, Option.bind_some, if_neg hg]
    by_cases hw : wn < 2
    · rw [if_neg (fun q => by have := (iz_le (iR_s (by omega) (by omega)) (iR_s (by omega) (by omega))).mp q; omega), if_pos hw]
    · rw [if_pos ((iz_le (iR_s (by omega) (by omega)) (iR_s (by omega) (by omega))).mpr (by omega)), if_neg hw, e1, Option.bind_some, cv_smp h hD (by omega) (by omega) h0 h1]
      rfl
