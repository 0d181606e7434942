/-! TO LAB and TO XYZ, both sides. -/
def crl (n : Int) : Nat → Int → Int
  | 0, r => r
  | k + 1, r => if (r + p2 k) * (r + p2 k) * (r + p2 k) ≤ n then crl n k (r + p2 k) else crl n k r
def rootz (t w : Int) : Int := if 290 < nz (32768 * t) w then crl (134217728 * nz (32768 * t) w) 15 0 else nz (841 * nz (32768 * t) w) 216 + 2260
def cubez (f : Int) : Int := if 3389 < f then nz (f * f * f) 134217728 else nz ((f - 2260) * 216) 841
theorem cube_le {a B : Int} (h0 : 0 ≤ a) (h1 : a ≤ B) : 0 ≤ a * a * a ∧ a * a * a ≤ B * B * B := by
  have h2 : 0 ≤ a * a := Int.mul_nonneg h0 h0
  have h3 : a * a ≤ B * B := Int.mul_le_mul h1 h1 h0 (by omega)
  exact ⟨Int.mul_nonneg h2 h0, Int.mul_le_mul h3 h1 h0 (Int.le_trans h2 h3)⟩
theorem crl_R (n : Int) : ∀ (k : Nat) (r : Int), 0 ≤ r → r + p2 k ≤ 32768 → 0 ≤ crl n k r ∧ crl n k r ≤ 32767
  | 0, r, h0, h1 => ⟨h0, by unfold p2 at h1; unfold crl; omega⟩
  | k + 1, r, h0, h1 => by
    have := p2_pos k
    unfold p2 at h1
    unfold crl
    split
    · exact crl_R n k _ (by omega) (by omega)
    · exact crl_R n k _ h0 (by omega)
theorem lx_crL {μ : mM} {n : Int} (hn : jR n) (kx : Int64 → Option Int64) : ∀ (k fu : Nat) (r : Int), k < fu → 0 ≤ r → r + p2 k ≤ 32768 → f_LabXyz_cubeRoot_7 μ kx fu (jz n) (jz r) (iz (bt k)) = kx (jz (crl n k r)) := by
  intro k
  induction k with
  | zero =>
    intro fu r hf h0 h1
    obtain ⟨fu, rfl⟩ : ∃ m, fu = m + 1 := ⟨fu - 1, by omega⟩
    rw [f_LabXyz_cubeRoot_7, zi_0, if_pos (show iz (bt 0) ≤ iz 0 by decide)]
    rfl
  | succ k ih =>
    intro fu r hf h0 h1
    obtain ⟨fu, rfl⟩ : ∃ m, fu = m + 1 := ⟨fu - 1, by omega⟩
    have hp := p2_pos k
    have h1' : r + 2 * p2 k ≤ 32768 := h1
    have hb : bt (k + 1) = p2 k := rfl
    have hh := bt_half k
    rw [hb] at hh
    have hc := cube_le (a := r + p2 k) (B := 32768) (by omega) (by omega)
    rw [f_LabXyz_cubeRoot_7, hb, zi_0, if_neg (fun q => by have := (iz_le (iR_s (by omega) (by omega)) (iR_s (by omega) (by omega))).mp q; omega), iz_j (iR_s (by omega) (by omega)), jz_add, jz_mul, jz_mul]
    unfold f_LabXyz_cubeRoot_35 crl
    rw [zi_2, iz_div (iR_s (by omega) (by omega)) (iR_s (by omega) (by omega)) (by omega), hh]
    by_cases hq : (r + p2 k) * (r + p2 k) * (r + p2 k) ≤ n
    · rw [if_neg (fun q => by have := (jz_lt hn (jR_s (by omega) (by omega))).mp q; omega), if_pos hq, ih fu _ (by omega) (by omega) (by omega)]
    · rw [if_pos ((jz_lt hn (jR_s (by omega) (by omega))).mpr (by omega)), if_neg hq, ih fu _ (by omega) h0 (by omega)]
theorem mo_crL {μ : mM} {u : Int} (hn : jR (134217728 * u)) (kx : Int64 → Option Int64) : ∀ (k fu : Nat) (r : Int), k < fu → 0 ≤ r → r + p2 k ≤ 32768 → f_Mo_root_45 μ kx fu (jz u) (jz r) (jz (bt k)) = kx (jz (crl (134217728 * u) k r)) := by
  intro k
  induction k with
  | zero =>
    intro fu r hf h0 h1
    obtain ⟨fu, rfl⟩ : ∃ m, fu = m + 1 := ⟨fu - 1, by omega⟩
    rw [f_Mo_root_45, zj_0, if_pos (show jz (bt 0) ≤ jz 0 by decide)]
    rfl
  | succ k ih =>
    intro fu r hf h0 h1
    obtain ⟨fu, rfl⟩ : ∃ m, fu = m + 1 := ⟨fu - 1, by omega⟩
    have hp := p2_pos k
    have h1' : r + 2 * p2 k ≤ 32768 := h1
    have hb : bt (k + 1) = p2 k := rfl
    have hh := bt_half k
    rw [hb] at hh
    have hc := cube_le (a := r + p2 k) (B := 32768) (by omega) (by omega)
    rw [f_Mo_root_45, hb, zj_0, if_neg (fun q => by have := (jz_le (jR_s (by omega) (by omega)) (jR_s (by omega) (by omega))).mp q; omega), zj_134217728, jz_mul, jz_add, jz_mul, jz_mul]
    unfold f_Mo_root_84 crl
    rw [zj_2, jz_div (jR_s (by omega) (by omega)) (jR_s (by omega) (by omega)) (by omega), hh]
    by_cases hq : (r + p2 k) * (r + p2 k) * (r + p2 k) ≤ 134217728 * u
    · rw [if_neg (fun q => by have := (jz_lt hn (jR_s (by omega) (by omega))).mp q; omega), if_pos hq, ih fu _ (by omega) (by omega) (by omega)]
    · rw [if_pos ((jz_lt hn (jR_s (by omega) (by omega))).mpr (by omega)), if_neg hq, ih fu _ (by omega) h0 (by omega)]
theorem u_R {t w : Int} (h0 : 0 ≤ t) (h1 : t ≤ 65535) (hw : 27030 ≤ w) (hw2 : w ≤ 40000) : 0 ≤ nz (32768 * t) w ∧ nz (32768 * t) w ≤ 79500 := ⟨nz_ge (by omega) (by omega), nz_le (by omega) (by omega)⟩
theorem root_R {t w : Int} (h0 : 0 ≤ t) (h1 : t ≤ 65535) (hw : 27030 ≤ w) (hw2 : w ≤ 40000) : 0 ≤ rootz t w ∧ rootz t w ≤ 32767 := by
  have hu := u_R h0 h1 hw hw2
  unfold rootz
  split
  · exact crl_R _ 15 0 (by omega) (by decide)
  · rename_i h
    have a : 0 ≤ nz (841 * nz (32768 * t) w) 216 := nz_ge (by omega) (by omega)
    have b : nz (841 * nz (32768 * t) w) 216 ≤ 1200 := nz_le (by omega) (by omega)
    omega
theorem lx_root {μ : mM} {t w : Int} (h0 : 0 ≤ t) (h1 : t ≤ 65535) (hw : 27030 ≤ w) (hw2 : w ≤ 40000) : f_LabXyz_rootOf μ (jz t) (jz w) = some (jz (rootz t w)) := by
  have hu := u_R h0 h1 hw hw2
  unfold f_LabXyz_rootOf f_LabXyz_rootOf_48 f_LabXyz_cubeRoot rootz
  rw [zj_32768, jz_mul, cl_near ⟨by omega, by omega, by omega, by omega⟩, Option.bind_some, zj_290, zj_841, zj_134217728, jz_mul, jz_mul, zj_216]
  by_cases hc : 290 < nz (32768 * t) w
  · rw [if_neg (fun q => by have := (jz_le (jR_s (by omega) (by omega)) (jR_s (by omega) (by omega))).mp q; omega), if_pos hc, zj_0, show (16384 : Int32) = iz (bt 15) from rfl, lx_crL (jR_s (by omega) (by omega)) _ 15 4096 0 (by omega) (by omega) (by decide)]
    rfl
  · rw [if_pos ((jz_le (jR_s (by omega) (by omega)) (jR_s (by omega) (by omega))).mpr (by omega)), if_neg hc, cl_near ⟨by omega, by omega, by omega, by omega⟩, Option.bind_some, zj_2260, jz_add]
theorem mo_root {μ : mM} {t w : Int} (h0 : 0 ≤ t) (h1 : t ≤ 65535) (hw : 27030 ≤ w) (hw2 : w ≤ 40000) : f_Mo_root μ (jz t) (jz w) = some (jz (rootz t w)) := by
  have hu := u_R h0 h1 hw hw2
  unfold f_Mo_root rootz
  rw [zj_32768, jz_mul, mo_near ⟨by omega, by omega, by omega, by omega⟩, Option.bind_some, zj_290, zj_841, jz_mul, zj_216]
  by_cases hc : 290 < nz (32768 * t) w
  · rw [if_pos ((jz_lt (jR_s (by omega) (by omega)) (jR_s (by omega) (by omega))).mpr (by omega)), if_pos hc, zj_0, show (16384 : Int64) = jz (bt 15) from rfl, mo_crL (jR_s (by omega) (by omega)) _ 15 4096 0 (by omega) (by omega) (by decide)]
    rfl
  · rw [if_neg (fun q => by have := (jz_lt (jR_s (by omega) (by omega)) (jR_s (by omega) (by omega))).mp q; omega), if_neg hc, mo_near ⟨by omega, by omega, by omega, by omega⟩, Option.bind_some, zj_2260, jz_add]
theorem cube_n {f : Int} (h0 : -40000 ≤ f) (h1 : f ≤ 40000) : (3389 < f → nR (f * f * f) 134217728) ∧ nR ((f - 2260) * 216) 841 := by
  refine ⟨fun h => ?_, ⟨by omega, by omega, by omega, by omega⟩⟩
  have hc := cube_le (a := f) (B := 40000) (by omega) h1
  exact ⟨by omega, by omega, by omega, by omega⟩
theorem cubez_R {f : Int} (h0 : -40000 ≤ f) (h1 : f ≤ 40000) : -20000 ≤ cubez f ∧ cubez f ≤ 1000000 := by
  unfold cubez
  split
  · have hc := cube_le (a := f) (B := 40000) (by omega) h1
    exact ⟨nz_ge (by omega) (by omega), nz_le (by omega) (by omega)⟩
  · exact ⟨nz_ge (by omega) (by omega), nz_le (by omega) (by omega)⟩
theorem lx_cube {μ : mM} {f : Int} (h0 : -40000 ≤ f) (h1 : f ≤ 40000) : f_LabXyz_cubeOf μ (jz f) = some (jz (cubez f)) := by
  have hn := cube_n h0 h1
  unfold f_LabXyz_cubeOf f_LabXyz_cubeOf_37 cubez
  rw [zj_3389, zj_2260, zj_216, jz_sub, jz_mul, jz_mul, jz_mul, zj_841, zj_134217728]
  by_cases hc : 3389 < f
  · rw [if_neg (fun q => by have := (jz_le (jR_s (by omega) (by omega)) (jR_s (by omega) (by omega))).mp q; omega), if_pos hc, cl_near (hn.1 hc)]
    rfl
  · rw [if_pos ((jz_le (jR_s (by omega) (by omega)) (jR_s (by omega) (by omega))).mpr (by omega)), if_neg hc, cl_near hn.2]
    rfl
theorem mo_cube {μ : mM} {f : Int} (h0 : -40000 ≤ f) (h1 : f ≤ 40000) : f_Mo_cube μ (jz f) = some (jz (cubez f)) := by
  have hn := cube_n h0 h1
  unfold f_Mo_cube f_Mo_cube_37 cubez
  rw [zj_3389, zj_2260, zj_216, jz_sub, jz_mul, jz_mul, jz_mul, zj_841, zj_134217728]
  by_cases hc : 3389 < f
  · rw [if_neg (fun q => by have := (jz_le (jR_s (by omega) (by omega)) (jR_s (by omega) (by omega))).mp q; omega), if_pos hc, mo_near (hn.1 hc)]
    rfl
  · rw [if_pos ((jz_le (jR_s (by omega) (by omega)) (jR_s (by omega) (by omega))).mpr (by omega)), if_neg hc, mo_near hn.2]
    rfl
-- the class's colour
def CA (μ : mM) (a : Nat) (c0 c1 c2 : Int) : Prop := ∃ f : Nat → Int32, μ a = some (.inl (0, 3, .inl f)) ∧ f 0 = iz c0 ∧ f 1 = iz c1 ∧ f 2 = iz c2
def lvl (x : Int) : Prop := 0 ≤ x ∧ x ≤ 65535
theorem ca_g {μ : mM} {a : Nat} {c0 c1 c2 : Int} (h : CA μ a c0 c1 c2) : mgI μ (some a) (iz 0) = some (iz c0) ∧ mgI μ (some a) (iz 1) = some (iz c1) ∧ mgI μ (some a) (iz 2) = some (iz c2) := by
  obtain ⟨f, h1, e0, e1, e2⟩ := h
  exact ⟨by rw [mgI_z h1 (by omega) (by omega) (by decide)]; exact congrArg some e0, by rw [mgI_z h1 (by omega) (by omega) (by decide)]; exact congrArg some e1, by rw [mgI_z h1 (by omega) (by omega) (by decide)]; exact congrArg some e2⟩
theorem ca_s0 {μ : mM} {a : Nat} {c0 c1 c2 : Int} (h : CA μ a c0 c1 c2) (r : Int) : ∃ μ', msI μ (some a) (iz 0) (iz r) = some μ' ∧ CA μ' a r c1 c2 ∧ ∀ b, b ≠ a → μ' b = μ b := by
  obtain ⟨f, h1, e0, e1, e2⟩ := h
  exact ⟨_, msI_i (i := 0) h1 (by decide) (by decide), ⟨_, mup_self _ _ _, by simp [upd], by simp [upd, e1], by simp [upd, e2]⟩, fun b hb => mup_ne _ _ hb⟩
theorem ca_s1 {μ : mM} {a : Nat} {c0 c1 c2 : Int} (h : CA μ a c0 c1 c2) (r : Int) : ∃ μ', msI μ (some a) (iz 1) (iz r) = some μ' ∧ CA μ' a c0 r c2 ∧ ∀ b, b ≠ a → μ' b = μ b := by
  obtain ⟨f, h1, e0, e1, e2⟩ := h
  exact ⟨_, msI_i (i := 1) h1 (by decide) (by decide), ⟨_, mup_self _ _ _, by simp [upd, e0], by simp [upd], by simp [upd, e2]⟩, fun b hb => mup_ne _ _ hb⟩
theorem ca_s2 {μ : mM} {a : Nat} {c0 c1 c2 : Int} (h : CA μ a c0 c1 c2) (r : Int) : ∃ μ', msI μ (some a) (iz 2) (iz r) = some μ' ∧ CA μ' a c0 c1 r ∧ ∀ b, b ≠ a → μ' b = μ b := by
  obtain ⟨f, h1, e0, e1, e2⟩ := h
  exact ⟨_, msI_i (i := 2) h1 (by decide) (by decide), ⟨_, mup_self _ _ _, by simp [upd, e0], by simp [upd, e1], by simp [upd]⟩, fun b hb => mup_ne _ _ hb⟩
def lab0 (c1 : Int) : Int := cz (nz ((116 * rootz c1 32768 - 262144) * 65535) 1638400)
def lab1 (c0 c1 : Int) : Int := cz (32896 + nz (128500 * (rootz c0 31595 - rootz c1 32768)) 16384)
def lab2 (c1 c2 : Int) : Int := cz (32896 + nz (51400 * (rootz c1 32768 - rootz c2 27030)) 16384)
theorem mgD_0 : mgD (iz 0) = some (iz 31595) := by decide
theorem mgD_1 : mgD (iz 1) = some (iz 32768) := by decide
theorem mgD_2 : mgD (iz 2) = some (iz 27030) := by decide
theorem iR_l {x : Int} (h : lvl x) : iR x := ⟨by have := h.1; omega, by have := h.2; omega⟩
theorem lab_n {c0 c1 c2 : Int} (h0 : lvl c0) (h1 : lvl c1) (h2 : lvl c2) : nR ((116 * rootz c1 32768 - 262144) * 65535) 1638400 ∧ nR (128500 * (rootz c0 31595 - rootz c1 32768)) 16384 ∧ nR (51400 * (rootz c1 32768 - rootz c2 27030)) 16384 ∧ jR (32896 + nz (128500 * (rootz c0 31595 - rootz c1 32768)) 16384) ∧ jR (32896 + nz (51400 * (rootz c1 32768 - rootz c2 27030)) 16384) := by
  have a := root_R h0.1 h0.2 (w := 31595) (by omega) (by omega)
  have b := root_R h1.1 h1.2 (w := 32768) (by omega) (by omega)
  have c := root_R h2.1 h2.2 (w := 27030) (by omega) (by omega)
  have n1 : nz (128500 * (rootz c0 31595 - rootz c1 32768)) 16384 ≤ 1000000 := nz_le (by omega) (by omega)
  have n2 : -1000000 ≤ nz (128500 * (rootz c0 31595 - rootz c1 32768)) 16384 := nz_ge (by omega) (by omega)
  have n3 : nz (51400 * (rootz c1 32768 - rootz c2 27030)) 16384 ≤ 1000000 := nz_le (by omega) (by omega)
  have n4 : -1000000 ≤ nz (51400 * (rootz c1 32768 - rootz c2 27030)) 16384 := nz_ge (by omega) (by omega)
  exact ⟨⟨by omega, by omega, by omega, by omega⟩, ⟨by omega, by omega, by omega, by omega⟩, ⟨by omega, by omega, by omega, by omega⟩, jR_s (by omega) (by omega), jR_s (by omega) (by omega)⟩
theorem lx_lab {μ : mM} {a : Nat} {c0 c1 c2 : Int} (h : CA μ a c0 c1 c2) (h0 : lvl c0) (h1 : lvl c1) (h2 : lvl c2) : ∃ μ', f_LabXyz_turnToLab μ (some a) = some μ' ∧ CA μ' a (lab0 c1) (lab1 c0 c1) (lab2 c1 c2) ∧ ∀ b, b ≠ a → μ' b = μ b := by
  obtain ⟨g0, g1, g2⟩ := ca_g h
  obtain ⟨n1, n2, n3, n4, n5⟩ := lab_n h0 h1 h2
  obtain ⟨m1, s1, k1, o1⟩ := ca_s0 h (lab0 c1)
  obtain ⟨m2, s2, k2, o2⟩ := ca_s1 k1 (lab1 c0 c1)
  obtain ⟨m3, s3, k3, o3⟩ := ca_s2 k2 (lab2 c1 c2)
  refine ⟨m3, ?_, k3, fun b hb => (o3 b hb).trans ((o2 b hb).trans (o1 b hb))⟩
  have i1 := iz_j (iR_s (n := 31595) (by omega) (by omega))
  have i2 := iz_j (iR_s (n := 32768) (by omega) (by omega))
  have i3 := iz_j (iR_s (n := 27030) (by omega) (by omega))
  unfold f_LabXyz_turnToLab
  rw [zi_0, zi_1, zi_2, g0, Option.bind_some, mgD_0, Option.bind_some, iz_j (iR_l h0), i1, lx_root h0.1 h0.2 (by omega) (by omega), Option.bind_some]
  rw [g1, Option.bind_some, mgD_1, Option.bind_some, iz_j (iR_l h1), i2, lx_root h1.1 h1.2 (by omega) (by omega), Option.bind_some]
  rw [g2, Option.bind_some, mgD_2, Option.bind_some, iz_j (iR_l h2), i3, lx_root h2.1 h2.2 (by omega) (by omega), Option.bind_some]
  rw [zj_116, zj_262144, zj_65535, zj_1638400, zj_128500, zj_16384, zj_51400, zj_32896, jz_mul, jz_sub, jz_mul, jz_sub, jz_mul, jz_sub, jz_mul]
  rw [cl_near n1, Option.bind_some, cl_clip (nz_R n1), Option.bind_some]
  change (msI μ (some a) (iz 0) (iz (lab0 c1))).bind _ = _
  rw [s1, Option.bind_some, cl_near n2, Option.bind_some, jz_add, cl_clip n4, Option.bind_some]
  change (msI m1 (some a) (iz 1) (iz (lab1 c0 c1))).bind _ = _
  rw [s2, Option.bind_some, cl_near n3, Option.bind_some, jz_add, cl_clip n5, Option.bind_some]
  change (msI m2 (some a) (iz 2) (iz (lab2 c1 c2))).bind _ = _
  rw [s3, Option.bind_some]
def yz (c0 : Int) : Int := nz ((100 * c0 + 1048560) * 16384) 7602060
def xyz0 (c0 c1 : Int) : Int := cz (nz (31595 * cubez (yz c0 + nz ((c1 - 32896) * 16384) 128500)) 32768)
def xyz1 (c0 : Int) : Int := cz (cubez (yz c0))
def xyz2 (c0 c2 : Int) : Int := cz (nz (27030 * cubez (yz c0 - nz ((c2 - 32896) * 16384) 51400)) 32768)
theorem xyz_n {c0 c1 c2 : Int} (h0 : lvl c0) (h1 : lvl c1) (h2 : lvl c2) : nR ((100 * c0 + 1048560) * 16384) 7602060 ∧ nR ((c1 - 32896) * 16384) 128500 ∧ nR ((c2 - 32896) * 16384) 51400 ∧ (-40000 ≤ yz c0 ∧ yz c0 ≤ 40000) ∧ (-40000 ≤ yz c0 + nz ((c1 - 32896) * 16384) 128500 ∧ yz c0 + nz ((c1 - 32896) * 16384) 128500 ≤ 40000) ∧ (-40000 ≤ yz c0 - nz ((c2 - 32896) * 16384) 51400 ∧ yz c0 - nz ((c2 - 32896) * 16384) 51400 ≤ 40000) := by
  obtain ⟨a0, a1⟩ := h0
  obtain ⟨b0, b1⟩ := h1
  obtain ⟨d0, d1⟩ := h2
  have y0 : 0 ≤ yz c0 := nz_ge (by omega) (by omega)
  have y1 : yz c0 ≤ 16400 := nz_le (by omega) (by omega)
  have n1 : nz ((c1 - 32896) * 16384) 128500 ≤ 5000 := nz_le (by omega) (by omega)
  have n2 : -5000 ≤ nz ((c1 - 32896) * 16384) 128500 := nz_ge (by omega) (by omega)
  have n3 : nz ((c2 - 32896) * 16384) 51400 ≤ 11000 := nz_le (by omega) (by omega)
  have n4 : -11000 ≤ nz ((c2 - 32896) * 16384) 51400 := nz_ge (by omega) (by omega)
  exact ⟨⟨by omega, by omega, by omega, by omega⟩, ⟨by omega, by omega, by omega, by omega⟩, ⟨by omega, by omega, by omega, by omega⟩, ⟨by omega, by omega⟩, ⟨by omega, by omega⟩, ⟨by omega, by omega⟩⟩
theorem lx_xyz {μ : mM} {a : Nat} {c0 c1 c2 : Int} (h : CA μ a c0 c1 c2) (h0 : lvl c0) (h1 : lvl c1) (h2 : lvl c2) : ∃ μ', f_LabXyz_turnToXyz μ (some a) = some μ' ∧ CA μ' a (xyz0 c0 c1) (xyz1 c0) (xyz2 c0 c2) ∧ ∀ b, b ≠ a → μ' b = μ b := by
  obtain ⟨g0, g1, g2⟩ := ca_g h
  obtain ⟨n1, n2, n3, y, x, w⟩ := xyz_n h0 h1 h2
  have cx := cubez_R x.1 x.2
  have cy := cubez_R y.1 y.2
  have cw' := cubez_R w.1 w.2
  have n4 : nR (31595 * cubez (yz c0 + nz ((c1 - 32896) * 16384) 128500)) 32768 := ⟨by omega, by omega, by omega, by omega⟩
  have n5 : nR (27030 * cubez (yz c0 - nz ((c2 - 32896) * 16384) 51400)) 32768 := ⟨by omega, by omega, by omega, by omega⟩
  obtain ⟨m1, s1, k1, o1⟩ := ca_s0 h (xyz0 c0 c1)
  obtain ⟨m2, s2, k2, o2⟩ := ca_s1 k1 (xyz1 c0)
  obtain ⟨m3, s3, k3, o3⟩ := ca_s2 k2 (xyz2 c0 c2)
  refine ⟨m3, ?_, k3, fun b hb => (o3 b hb).trans ((o2 b hb).trans (o1 b hb))⟩
  have q1 : iR (c1 - 32896) := iR_s (by have := h1.1; omega) (by have := h1.2; omega)
  have q2 : iR (c2 - 32896) := iR_s (by have := h2.1; omega) (by have := h2.2; omega)
  have ey : nz ((100 * c0 + 1048560) * 16384) 7602060 = yz c0 := rfl
  have i1 := iz_j (iR_s (n := 31595) (by omega) (by omega))
  have i3 := iz_j (iR_s (n := 27030) (by omega) (by omega))
  have n6 : jR (cubez (yz c0)) := jR_s (by omega) (by omega)
  unfold f_LabXyz_turnToXyz
  rw [zi_0, zi_1, zi_2, zi_32896, zj_100, zj_1048560, zj_16384, zj_7602060, zj_128500, zj_51400, zj_32768]
  rw [g0, Option.bind_some, iz_j (iR_l h0), jz_mul, jz_add, jz_mul, cl_near n1, Option.bind_some, ey]
  rw [g1, Option.bind_some, iz_sub, iz_j q1, jz_mul, cl_near n2, Option.bind_some]
  rw [g2, Option.bind_some, iz_sub, iz_j q2, jz_mul, cl_near n3, Option.bind_some]
  rw [mgD_0, Option.bind_some, i1, jz_add, lx_cube x.1 x.2, Option.bind_some, jz_mul, cl_near n4, Option.bind_some, cl_clip (nz_R n4), Option.bind_some]
  change (msI μ (some a) (iz 0) (iz (xyz0 c0 c1))).bind _ = _
  rw [s1, Option.bind_some, lx_cube y.1 y.2, Option.bind_some, cl_clip n6, Option.bind_some]
  change (msI m1 (some a) (iz 1) (iz (xyz1 c0))).bind _ = _
  rw [s2, Option.bind_some, mgD_2, Option.bind_some, i3, jz_sub, lx_cube w.1 w.2, Option.bind_some, jz_mul, cl_near n5, Option.bind_some, cl_clip (nz_R n5), Option.bind_some]
  change (msI m2 (some a) (iz 2) (iz (xyz2 c0 c2))).bind _ = _
  rw [s3, Option.bind_some]
