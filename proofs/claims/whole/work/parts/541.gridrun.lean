/-! GRID of the class: its run. The row of rests is a scratch row: it is not among the frozen cells. -/
def GR (φ : mM) (a : Nat) (g : Int) (nb : Int → Int) (ra : Nat) : Prop := ∃ (pa n : Nat) (st : Int) (f : Nat → Int32), φ a = some (.inr (5, [.int (iz 3), .int 0, .ref pa, .int (iz st), .int (iz g), .ref ra])) ∧ φ pa = some (.inl (0, n, .inl f)) ∧ NB g nb ∧ 0 ≤ st ∧ st + 3 * (g * g * g) ≤ n ∧ n ≤ 256 ∧ ∀ j : Int, 0 ≤ j → j < 3 * (g * g * g) → f (st + j).toNat = iz (nb j)
theorem cf_tr {μ μ' : mM} {a : Nat} {c : Int → Int} (h : CF μ a c) (e : μ' a = μ a) : CF μ' a c := by
  obtain ⟨f, h1, h2⟩ := h
  exact ⟨f, e.trans h1, h2⟩
theorem gr_e {φ μ : mM} {a ra : Nat} {g : Int} {nb : Int → Int} (h : GR φ a g nb ra) (hF : Fr φ μ) : ∃ (pa : Nat) (st : Int), mrc μ (some a) 5 = some a ∧ mfA μ (some a) [5] 2 = some (some pa) ∧ mfI μ (some a) [5] 3 = some (iz st) ∧ mfI μ (some a) [5] 4 = some (iz g) ∧ mfA μ (some a) [5] 5 = some (some ra) ∧ ∀ j : Int, 0 ≤ j → j < 3 * (g * g * g) → mgI μ (some pa) (iz (st + j)) = some (iz (nb j)) := by
  obtain ⟨pa, n, st, f, h1, h2, h3, h4, h5, h6, h7⟩ := h
  have e := hF _ _ h1
  refine ⟨pa, st, mrc_i e, mfA_i (v := some pa) e rfl rfl, mfI_i e rfl rfl, mfI_i e rfl rfl, mfA_i (v := some ra) e rfl rfl, fun j j0 j1 => ?_⟩
  rw [mgI_z (hF _ _ h2) (by omega) (by omega) (by omega), h7 j j0 j1]
theorem gr_lev {φ μ : mM} {a ra : Nat} {g : Int} {nb : Int → Int} (h : GR φ a g nb ra) (hF : Fr φ μ) {q ch : Int} (h0 : 0 ≤ q) (h1 : q < g * g * g) (c0 : 0 ≤ ch) (c1 : ch < 3) : ((mrc μ (some a) 5).bind fun a => f_Grid_levelAt μ a (iz q) (iz ch)) = some (jz (lv g nb q ch)) := by
  obtain ⟨pa, st, e0, e1, e2, e3, e4, e5⟩ := gr_e h hF
  have hb : NB g nb := by
    obtain ⟨pa, n, st, f, h1, h2, h3, h4, h5, h6, h7⟩ := h
    exact h3
  have hj := hb.2 (3 * q + ch) (by omega) (by omega)
  rw [e0, Option.bind_some]
  unfold f_Grid_levelAt
  rw [e1, Option.bind_some, e2, Option.bind_some, zi_3, iz_mul, iz_add, iz_add, Int.add_assoc, e5 _ (by omega) (by omega), Option.bind_some, iz_j (iR_s (by omega) (by omega)), zj_257, jz_mul]
  rfl
theorem gr_str {φ μ : mM} {a ra : Nat} {g : Int} {nb : Int → Int} (h : GR φ a g nb ra) (hF : Fr φ μ) {x : Int} (h0 : 0 ≤ x) (h1 : x < 3) : ((mrc μ (some a) 5).bind fun a => f_Grid_stride μ a (iz x)) = some (iz (sg g x)) := by
  obtain ⟨pa, st, e0, e1, e2, e3, e4, e5⟩ := gr_e h hF
  rw [e0, Option.bind_some]
  unfold f_Grid_stride f_Grid_stride_29 sg
  have h : x = 0 ∨ x = 1 ∨ x = 2 := by omega
  rcases h with rfl | rfl | rfl
  · rw [if_pos (by decide), if_pos rfl, e3, Option.bind_some, Option.bind_some, iz_mul]
  · rw [if_neg (by decide), if_pos (by decide), if_neg (by decide), if_pos rfl, e3, Option.bind_some]
  · rw [if_neg (by decide), if_neg (by decide), if_neg (by decide), if_neg (by decide), zi_1]
theorem gr_gr {φ μ : mM} {a ra : Nat} {g : Int} {nb r : Int → Int} (h : GR φ a g nb ra) (hF : Fr φ μ) (hr : CF μ ra r) (hR : ∀ i, 0 ≤ i → i < 3 → 0 ≤ r i ∧ r i ≤ 65535) : ((mrc μ (some a) 5).bind fun a => f_Grid_axisOfGreatest μ a) = some (iz (fA r)) := by
  obtain ⟨pa, st, e0, e1, e2, e3, e4, e5⟩ := gr_e h hF
  have r0 := hR 0 (by omega) (by omega)
  have r1 := hR 1 (by omega) (by omega)
  have r2 := hR 2 (by omega) (by omega)
  have st1 : ∀ (kx : Int32 → Option Int32) (fu : Nat) (x k : Int), 0 ≤ x → x < 3 → 0 ≤ k → k < 3 → f_Grid_axisOfGreatest_4 μ a kx (fu + 1) (iz x) (iz k) = f_Grid_axisOfGreatest_4 μ a kx fu (iz (if r k ≤ r x then x else k)) (iz (k + 1)) := by
    intro kx fu x k x0 x1 k0 k1
    have a1 := hR x x0 x1
    have a2 := hR k k0 k1
    rw [f_Grid_axisOfGreatest_4]
    unfold f_Grid_axisOfGreatest_29
    rw [zi_3, if_neg (fun q => by have := (iz_le (iR_s (by omega) (by omega)) (iR_s (by omega) (by omega))).mp q; omega), e4, Option.bind_some, cf_g hr k0 k1, Option.bind_some, Option.bind_some, cf_g hr x0 x1, Option.bind_some, zi_1, iz_add]
    by_cases hh : r k ≤ r x
    · rw [if_pos ((iz_le (iR_s (by omega) (by omega)) (iR_s (by omega) (by omega))).mpr hh), if_pos hh]
    · rw [if_neg (fun q => hh ((iz_le (iR_s (by omega) (by omega)) (iR_s (by omega) (by omega))).mp q)), if_neg hh]
  rw [e0, Option.bind_some]
  unfold f_Grid_axisOfGreatest
  rw [zi_0, zi_1, st1 _ 4095 0 1 (by omega) (by omega) (by omega) (by omega), st1 _ 4094 _ _ (by split <;> omega) (by split <;> omega) (by omega) (by omega), f_Grid_axisOfGreatest_4, zi_3, if_pos (by decide)]
  rfl
theorem gr_ls {φ μ : mM} {a ra : Nat} {g : Int} {nb r : Int → Int} (h : GR φ a g nb ra) (hF : Fr φ μ) (hr : CF μ ra r) (hR : ∀ i, 0 ≤ i → i < 3 → 0 ≤ r i ∧ r i ≤ 65535) : ((mrc μ (some a) 5).bind fun a => f_Grid_axisOfLeast μ a) = some (iz (lA r)) := by
  obtain ⟨pa, st, e0, e1, e2, e3, e4, e5⟩ := gr_e h hF
  have st1 : ∀ (kx : Int32 → Option Int32) (fu : Nat) (x k : Int), 0 ≤ x → x < 3 → 0 ≤ k → k < 3 → f_Grid_axisOfLeast_4 μ a kx (fu + 1) (iz x) (iz k) = f_Grid_axisOfLeast_4 μ a kx fu (iz (if r x < r k then x else k)) (iz (k + 1)) := by
    intro kx fu x k x0 x1 k0 k1
    have a1 := hR x x0 x1
    have a2 := hR k k0 k1
    rw [f_Grid_axisOfLeast_4]
    unfold f_Grid_axisOfLeast_29
    rw [zi_3, if_neg (fun q => by have := (iz_le (iR_s (by omega) (by omega)) (iR_s (by omega) (by omega))).mp q; omega), e4, Option.bind_some, cf_g hr k0 k1, Option.bind_some, Option.bind_some, cf_g hr x0 x1, Option.bind_some, zi_1, iz_add]
    by_cases hh : r x < r k
    · rw [if_pos ((iz_lt (iR_s (by omega) (by omega)) (iR_s (by omega) (by omega))).mpr hh), if_pos hh]
    · rw [if_neg (fun q => hh ((iz_lt (iR_s (by omega) (by omega)) (iR_s (by omega) (by omega))).mp q)), if_neg hh]
  rw [e0, Option.bind_some]
  unfold f_Grid_axisOfLeast
  rw [zi_0, zi_1, st1 _ 4095 0 1 (by omega) (by omega) (by omega) (by omega), st1 _ 4094 _ _ (by split <;> omega) (by split <;> omega) (by omega) (by omega), f_Grid_axisOfLeast_4, zi_3, if_pos (by decide)]
  rfl
theorem gr_s1 {φ μ : mM} {a ca ra : Nat} {g : Int} {nb c w : Int → Int} (h : GR φ a g nb ra) (hF : Fr φ μ) (hC : CF μ ca c) (hw : CF μ ra w) (kx : mM → Option Nat → Int32 → Option mM) {fu : Nat} {q i : Int} (h0 : 0 ≤ i) (h1 : i < 3) (hl : lvl (c i)) (hra : φ ra = none) : ∃ μ', f_Grid_run_4 a kx (fu + 1) μ (some ca) (iz q) (iz i) = f_Grid_run_4 a kx fu μ' (some ca) (iz (q * g + gt g c i)) (iz (i + 1)) ∧ CF μ' ra (zu w i (gr g c i)) ∧ ∀ b, b ≠ ra → μ' b = μ b := by
  have hg : g = 2 ∨ g = 3 := by
    obtain ⟨pa, n, st, f, h1, h2, h3, h4, h5, h6, h7⟩ := h
    exact h3.1
  obtain ⟨pa, st, e0, e1, e2, e3, e4, e5⟩ := gr_e h hF
  obtain ⟨m1, s1, k1, o1⟩ := cf_s hw h0 h1 (gr g c i)
  obtain ⟨pa', st', e0', e1', e2', e3', e4', e5'⟩ := gr_e h (hF.put hra o1)
  refine ⟨m1, ?_, k1, o1⟩
  have x0 := hl.1
  have x1 := hl.2
  have hq : 0 ≤ c i * (g - 1) := Int.mul_nonneg x0 (by omega)
  have hq2 : c i * (g - 1) ≤ 65535 * (g - 1) := Int.mul_le_mul_of_nonneg_right x1 (by omega)
  have ed : (c i * (g - 1)).tdiv 65535 = c i * (g - 1) / 65535 := Int.tdiv_eq_ediv_of_nonneg hq
  have hi : jminI (iz g - (2 : Int32)) ((iz (c i) * (iz g - (1 : Int32))) / (65535 : Int32)) = iz (smi g (c i)) := by
    rw [zi_2, zi_1, zi_65535, iz_sub, iz_sub, iz_mul, iz_div (iR_s (by omega) (by omega)) (iR_s (by omega) (by omega)) (by omega), ed, jmin_z (iR_s (by omega) (by omega)) (iR_s (by omega) (by omega))]
    rfl
  rw [f_Grid_run_4]
  rw [zi_3, if_neg (fun q => by have := (iz_le (iR_s (by omega) (by omega)) (iR_s (by omega) (by omega))).mp q; omega), cf_g hC h0 h1, Option.bind_some, e3, Option.bind_some, Option.bind_some, e4, Option.bind_some, hi, zi_1, iz_sub, iz_mul, zi_65535, iz_mul, iz_sub]
  change (msI μ (some ra) (iz i) (iz (gr g c i))).bind _ = _
  rw [s1, Option.bind_some, e3', Option.bind_some, iz_mul, iz_add, iz_add]
  rfl
theorem gr_s2 {φ μ : mM} {a ca ra : Nat} {g : Int} {nb c w : Int → Int} (h : GR φ a g nb ra) (hF : Fr φ μ) (hC : CF μ ca w) (hr : CF μ ra (gr g c)) (kx : mM → Option mM) {fu : Nat} {i : Int} (h0 : 0 ≤ i) (h1 : i < 3) (hl : ∀ i : Nat, i < 3 → lvl (c i)) {q f m l : Int} (hq : q = nd g (gt g c)) (hf : f = fA (gr g c)) (hla : l = lA (gr g c)) (hm : m = 3 - f - l) : ∃ μ', f_Grid_run_120 a kx (fu + 1) μ (some ca) (iz q) (iz f) (iz l) (iz m) (iz (q + sg g f)) (iz (q + sg g f + sg g m)) (iz (q + sg g f + sg g m + sg g l)) (iz i) = f_Grid_run_120 a kx fu μ' (some ca) (iz q) (iz f) (iz l) (iz m) (iz (q + sg g f)) (iz (q + sg g f + sg g m)) (iz (q + sg g f + sg g m + sg g l)) (iz (i + 1)) ∧ CF μ' ca (zu w i (latz g nb c i)) ∧ ∀ b, b ≠ ca → μ' b = μ b := by
  have hb : NB g nb := by
    obtain ⟨pa, n, st, f, h1, h2, h3, h4, h5, h6, h7⟩ := h
    exact h3
  obtain ⟨r, f0, f1, l0, l1, m0, m1, rm, rl, q0, q1, s0, s1, s2⟩ := lat_R hb hl
  have SR := latS_R hb hl h0 h1
  have ez : latz g nb c i = nz (latS g nb (gr g c) f m l q i) 65535 := by
    rw [hm, hf, hla, hq]
    rfl
  rw [← hf, ← hla, ← hm, ← hq] at *
  obtain ⟨pa, st, e0, e1, e2, e3, e4, e5⟩ := gr_e h hF
  obtain ⟨m1, s1', k1, o1⟩ := cf_s hC h0 h1 (latz g nb c i)
  refine ⟨m1, ?_, k1, o1⟩
  have rf := r f f0 (by omega)
  have rmm := r m m0 (by omega)
  have rll := r l l0 (by omega)
  rw [f_Grid_run_120]
  rw [zi_3, if_neg (fun q => by have := (iz_le (iR_s (by omega) (by omega)) (iR_s (by omega) (by omega))).mp q; omega)]
  rw [gr_lev h hF q0 (by omega) h0 h1, Option.bind_some, gr_lev h hF (by omega) (by omega) h0 h1, Option.bind_some, gr_lev h hF (by omega) (by omega) h0 h1, Option.bind_some, gr_lev h hF (by omega) (by omega) h0 h1, Option.bind_some]
  rw [e4, Option.bind_some, cf_g hr f0 (by omega), Option.bind_some, Option.bind_some, cf_g hr m0 (by omega), Option.bind_some, Option.bind_some, cf_g hr l0 (by omega), Option.bind_some]
  rw [iz_j (iR_s (by omega) (by omega)), iz_j (iR_s (by omega) (by omega)), iz_j (iR_s (by omega) (by omega)), zj_65535, jz_mul, jz_sub, jz_sub, jz_sub, jz_mul, jz_mul, jz_mul, jz_add, jz_add, jz_add]
  change (f_CL_nearest μ (jz (latS g nb (gr g c) f m l q i)) (jz 65535)).bind _ = _
  rw [cl_near ⟨by omega, by omega, by omega, by omega⟩, Option.bind_some, jz_i]
  rw [← ez, s1', Option.bind_some, zi_1, iz_add]
theorem gr_run {φ μ : mM} {a ca ra : Nat} {g : Int} {nb c w : Int → Int} (h : GR φ a g nb ra) (hca : φ ca = none) (hra : φ ra = none) (hne : ca ≠ ra) (hF : Fr φ μ) (hC : CF μ ca c) (hw : CF μ ra w) (hl : ∀ i : Nat, i < 3 → lvl (c i)) : ∃ μ', f_Grid_run a μ (some ca) = some μ' ∧ CF μ' ca (latz g nb c) ∧ (∃ w', CF μ' ra w') ∧ ∀ b, b ≠ ca → b ≠ ra → μ' b = μ b := by
  have hb : NB g nb := by
    obtain ⟨pa, n, st, f, h1, h2, h3, h4, h5, h6, h7⟩ := h
    exact h3
  obtain ⟨r, f0, f1, l0, l1, m0, m1, rm, rl, q0, q1, sg0, sg1, sg2⟩ := lat_R hb hl
  obtain ⟨m1, s1, k1, o1⟩ := gr_s1 h hF hC hw (fun μ y1 y2 => f_Grid_run_67 a μ y1 y2) (fu := 4095) (q := 0) (i := 0) (by omega) (by omega) (hl 0 (by omega)) hra
  have F1 := hF.put hra o1
  have C1 := cf_tr hC (o1 _ hne)
  obtain ⟨m2, s2, k2, o2⟩ := gr_s1 h F1 C1 k1 (fun μ y1 y2 => f_Grid_run_67 a μ y1 y2) (fu := 4094) (q := 0 * g + gt g c 0) (i := 1) (by omega) (by omega) (hl 1 (by omega)) hra
  have F2 := F1.put hra o2
  have C2 := cf_tr C1 (o2 _ hne)
  obtain ⟨m3, s3, k3, o3⟩ := gr_s1 h F2 C2 k2 (fun μ y1 y2 => f_Grid_run_67 a μ y1 y2) (fu := 4093) (q := (0 * g + gt g c 0) * g + gt g c 1) (i := 2) (by omega) (by omega) (hl 2 (by omega)) hra
  have F3 := F2.put hra o3
  have C3 := cf_tr C2 (o3 _ hne)
  have R3 : CF m3 ra (gr g c) := cf_ext k3 (lt3 (by simp [zu]) (by simp [zu]) (by simp [zu]))
  have en : ((0 * g + gt g c 0) * g + gt g c 1) * g + gt g c 2 = nd g (gt g c) := by
    unfold nd
    rw [Int.zero_mul, Int.zero_add]
  obtain ⟨m4, s4, k4, o4⟩ := gr_s2 h F3 C3 R3 (fun μ => f_Grid_run_236 a μ) (fu := 4095) (i := 0) (by omega) (by omega) hl rfl rfl rfl rfl
  have F4 := F3.put hca o4
  have R4 := cf_tr R3 (o4 _ hne.symm)
  obtain ⟨m5, s5, k5, o5⟩ := gr_s2 h F4 k4 R4 (fun μ => f_Grid_run_236 a μ) (fu := 4094) (i := 1) (by omega) (by omega) hl rfl rfl rfl rfl
  have F5 := F4.put hca o5
  have R5 := cf_tr R4 (o5 _ hne.symm)
  obtain ⟨m6, s6, k6, o6⟩ := gr_s2 h F5 k5 R5 (fun μ => f_Grid_run_236 a μ) (fu := 4093) (i := 2) (by omega) (by omega) hl rfl rfl rfl rfl
  have R6 := cf_tr R5 (o6 _ hne.symm)
  refine ⟨m6, ?_, cf_ext k6 (lt3 (by simp [zu]) (by simp [zu]) (by simp [zu])), ⟨_, R6⟩, fun b h1 h2 => (o6 b h1).trans ((o5 b h1).trans ((o4 b h1).trans ((o3 b h2).trans ((o2 b h2).trans (o1 b h2)))))⟩
  unfold f_Grid_run
  rw [zi_0]
  refine s1.trans (s2.trans (s3.trans ?_))
  rw [f_Grid_run_4, zi_3, if_pos (by decide), en]
  unfold f_Grid_run_67
  rw [gr_gr h F3 R3 r, Option.bind_some, gr_ls h F3 R3 r, Option.bind_some, gr_str h F3 f0 (by omega), Option.bind_some, zi_3, iz_sub, iz_sub, gr_str h F3 m0 (by omega), Option.bind_some, gr_str h F3 l0 (by omega), Option.bind_some, iz_add, iz_add, iz_add]
  refine s4.trans (s5.trans (s6.trans ?_))
  rw [f_Grid_run_120, zi_3, if_pos (by decide)]
  rfl
