/-! Numbers: longs and ints as images of whole numbers. -/
def jz (n : Int) : Int64 := Int64.ofInt n
def iz (n : Int) : Int32 := Int32.ofInt n
def jR (n : Int) : Prop := -9223372036854775808 ≤ n ∧ n < 9223372036854775808
def iR (n : Int) : Prop := -2147483648 ≤ n ∧ n < 2147483648
theorem jz_add (a b : Int) : jz a + jz b = jz (a + b) := (Int64.ofInt_add a b).symm
theorem jz_sub (a b : Int) : jz a - jz b = jz (a - b) := (Int64.ofInt_sub a b).symm
theorem jz_mul (a b : Int) : jz a * jz b = jz (a * b) := (Int64.ofInt_mul a b).symm
theorem jz_neg (a : Int) : - jz a = jz (-a) := (Int64.ofInt_neg a).symm
theorem iz_add (a b : Int) : iz a + iz b = iz (a + b) := (Int32.ofInt_add a b).symm
theorem iz_sub (a b : Int) : iz a - iz b = iz (a - b) := (Int32.ofInt_sub a b).symm
theorem iz_mul (a b : Int) : iz a * iz b = iz (a * b) := (Int32.ofInt_mul a b).symm
theorem iz_neg (a : Int) : - iz a = iz (-a) := (Int32.ofInt_neg a).symm
theorem jz_toInt {n : Int} (h : jR n) : (jz n).toInt = n := Int64.toInt_ofInt_of_le h.1 h.2
theorem iz_toInt {n : Int} (h : iR n) : (iz n).toInt = n := Int32.toInt_ofInt_of_le h.1 h.2
theorem jz_of (x : Int64) : jz x.toInt = x := Int64.ofInt_toInt x
theorem iz_of (x : Int32) : iz x.toInt = x := Int32.ofInt_toInt x
theorem jR_of (x : Int64) : jR x.toInt := ⟨x.le_toInt, x.toInt_lt⟩
theorem iR_of (x : Int32) : iR x.toInt := ⟨x.le_toInt, x.toInt_lt⟩
theorem jz_le {a b : Int} (ha : jR a) (hb : jR b) : jz a ≤ jz b ↔ a ≤ b := by rw [Int64.le_iff_toInt_le, jz_toInt ha, jz_toInt hb]
theorem jz_lt {a b : Int} (ha : jR a) (hb : jR b) : jz a < jz b ↔ a < b := by rw [Int64.lt_iff_toInt_lt, jz_toInt ha, jz_toInt hb]
theorem jz_eq {a b : Int} (ha : jR a) (hb : jR b) : jz a = jz b ↔ a = b := by rw [← Int64.toInt_inj, jz_toInt ha, jz_toInt hb]
theorem iz_le {a b : Int} (ha : iR a) (hb : iR b) : iz a ≤ iz b ↔ a ≤ b := by rw [Int32.le_iff_toInt_le, iz_toInt ha, iz_toInt hb]
theorem iz_lt {a b : Int} (ha : iR a) (hb : iR b) : iz a < iz b ↔ a < b := by rw [Int32.lt_iff_toInt_lt, iz_toInt ha, iz_toInt hb]
theorem iz_eq {a b : Int} (ha : iR a) (hb : iR b) : iz a = iz b ↔ a = b := by rw [← Int32.toInt_inj, iz_toInt ha, iz_toInt hb]
theorem iz_j {n : Int} (h : iR n) : (iz n).toInt64 = jz n := by
  rw [← Int64.toInt_inj, Int32.toInt_toInt64, iz_toInt h, jz_toInt ⟨by have := h.1; omega, by have := h.2; omega⟩]
theorem jz_i (n : Int) : (jz n).toInt32 = iz n := Int64.toInt32_ofInt
theorem nI_iz (n : Nat) : nI n = iz n := (Int32.ofInt_eq_ofNat).symm
theorem lN_jz (n : Nat) : lN n = jz n := (Int64.ofInt_eq_ofNat).symm
theorem iz_nat {n : Int} (h : 0 ≤ n) : iz n = nI n.toNat := by rw [nI_iz, Int.toNat_of_nonneg h]
theorem tq_R {a b : Int} (h0 : 0 < b) : (0 ≤ a → 0 ≤ a.tdiv b ∧ a.tdiv b ≤ a) ∧ (a < 0 → a ≤ a.tdiv b ∧ a.tdiv b ≤ 0) := by
  refine ⟨fun h => ⟨Int.tdiv_nonneg h (by omega), Int.tdiv_le_self b h⟩, fun h => ?_⟩
  have h1 := Int.neg_tdiv a b
  have h2 := Int.tdiv_nonneg (a := -a) (b := b) (by omega) (by omega)
  have h3 := Int.tdiv_le_self (a := -a) b (by omega)
  omega
theorem jz_div {a b : Int} (ha : jR a) (hb : jR b) (h0 : 0 < b) : jz a / jz b = jz (a.tdiv b) := by
  have hb2 : jz b ≠ -1 := fun q => by
    have := (jz_eq hb (b := -1) ⟨by omega, by omega⟩).mp (q.trans rfl)
    omega
  rw [← Int64.toInt_inj, Int64.toInt_div_of_ne_right _ _ hb2, jz_toInt ha, jz_toInt hb, jz_toInt]
  have h1 := tq_R (a := a) h0
  have h3 := ha.1
  have h4 := ha.2
  by_cases h : 0 ≤ a
  · have := h1.1 h
    constructor <;> omega
  · have := h1.2 (by omega)
    constructor <;> omega
theorem iz_div {a b : Int} (ha : iR a) (hb : iR b) (h0 : 0 < b) : iz a / iz b = iz (a.tdiv b) := by
  have hb2 : iz b ≠ -1 := fun q => by
    have := (iz_eq hb (b := -1) ⟨by omega, by omega⟩).mp (q.trans rfl)
    omega
  rw [← Int32.toInt_inj, Int32.toInt_div_of_ne_right _ _ hb2, iz_toInt ha, iz_toInt hb, iz_toInt]
  have h1 := tq_R (a := a) h0
  have h3 := ha.1
  have h4 := ha.2
  by_cases h : 0 ≤ a
  · have := h1.1 h
    constructor <;> omega
  · have := h1.2 (by omega)
    constructor <;> omega
/-- the floor of a/b + 1/2 -/
def nz (a b : Int) : Int := (2 * a + b) / (2 * b)
def cz (x : Int) : Int := if x < 0 then 0 else if 65535 < x then 65535 else x
theorem ediv_t {x y : Int} (hy : 0 < y) : x / y = if 0 ≤ x.tmod y then x.tdiv y else x.tdiv y - 1 := by
  have h1 := Int.mul_tdiv_add_tmod x y
  have h2 := Int.tmod_lt_of_pos x hy
  have h3 : -y < x.tmod y := by
    have h := Int.tmod_lt_of_pos (-x) hy
    rw [Int.neg_tmod] at h
    omega
  split
  · rename_i h
    have := (Int.ediv_emod_unique (a := x) (r := x.tmod y) (q := x.tdiv y) hy).mpr ⟨by omega, h, h2⟩
    exact this.1
  · rename_i h
    have := (Int.ediv_emod_unique (a := x) (r := x.tmod y + y) (q := x.tdiv y - 1) hy).mpr ⟨by rw [Int.mul_sub]; omega, by omega, by omega⟩
    exact this.1
theorem t_rem (x y : Int) : x - x.tdiv y * y = x.tmod y := by
  have h := Int.mul_tdiv_add_tmod x y
  have h2 := Int.mul_comm y (x.tdiv y)
  omega
theorem jz_rem {x y : Int} (hx : jR x) (hy : jR y) (h0 : 0 < y) : jz x - jz x / jz y * jz y = jz (x.tmod y) := by
  rw [jz_div hx hy h0, jz_mul, jz_sub, t_rem]
theorem tmod_R {x y : Int} (hx : jR x) (h0 : 0 < y) : jR (x.tmod y) := by
  have h1 := Int.natAbs_tmod x y
  have h2 : x.natAbs % y.natAbs ≤ x.natAbs := Nat.mod_le _ _
  have h3 := hx.1
  have h4 := hx.2
  have h5 := Int.tmod_lt_of_pos x h0
  by_cases hz : x = -9223372036854775808
  · have h6 : x.tmod y ≤ 0 := by
      have h := Int.tmod_nonneg (b := y) (a := -x) (by omega)
      rw [Int.neg_tmod] at h
      omega
    constructor <;> omega
  · constructor <;> omega
def nR (a b : Int) : Prop := 0 < b ∧ b ≤ 2305843009213693952 ∧ -2305843009213693952 ≤ a ∧ a ≤ 2305843009213693952
theorem mo_near {μ : mM} {a b : Int} (h : nR a b) : f_Mo_near μ (jz a) (jz b) = some (jz (nz a b)) := by
  obtain ⟨h1, h2, h3, h4⟩ := h
  have e2 : (2 : Int64) = jz 2 := rfl
  have e0 : (0 : Int64) = jz 0 := rfl
  have e1 : (1 : Int64) = jz 1 := rfl
  have hx : jR (2 * a + b) := ⟨by omega, by omega⟩
  have hy : jR (2 * b) := ⟨by omega, by omega⟩
  have hn : ¬ jz (2 * b) = jz 0 := fun q => by
    have := (jz_eq hy ⟨by omega, by omega⟩).mp q
    omega
  unfold f_Mo_near f_Mo_near_41 nz
  rw [e2, e0, e1, jz_mul, jz_mul, jz_add, if_neg hn, if_neg hn, jz_rem hx hy (by omega), jz_div hx hy (by omega), jz_sub, ediv_t (by omega)]
  by_cases hc : 0 ≤ (2 * a + b).tmod (2 * b)
  · rw [if_pos ((jz_le ⟨by omega, by omega⟩ (tmod_R hx (by omega))).mpr hc), if_pos hc]
  · rw [if_neg (fun q => hc ((jz_le ⟨by omega, by omega⟩ (tmod_R hx (by omega))).mp q)), if_neg hc]
theorem xor_neg {x y : Int64} (hy : 0 < y) : (0 : Int64) ≤ (x ^^^ y) ↔ 0 ≤ x := by
  have hm : ∀ a : Int64, (0 : Int64) ≤ a ↔ a.toBitVec.msb = false := by
    intro a
    rw [Int64.le_iff_toInt_le]
    show (0 : Int) ≤ a.toBitVec.toInt ↔ _
    rw [BitVec.msb_eq_toInt]
    simp
  have hy2 : y.toBitVec.msb = false := (hm y).mp (Int64.le_of_lt hy)
  rw [hm, hm, Int64.toBitVec_xor, BitVec.msb_xor, hy2]
  simp
theorem jm_floor {μ : mM} {x y : Int} (hx : jR x) (hy : jR y) (h0 : 0 < y) : f_Math_floorDiv μ (jz x) (jz y) = some (jz (x / y)) := by
  have e0 : (0 : Int64) = jz 0 := rfl
  have e1 : (1 : Int64) = jz 1 := rfl
  have hn : ¬ jz y = 0 := fun q => by
    have := (jz_eq (b := 0) hy ⟨by omega, by omega⟩).mp q
    omega
  have hy0 : (0 : Int64) < jz y := (jz_lt (a := 0) ⟨by omega, by omega⟩ hy).mpr h0
  have hq : jz x / jz y = jz (x.tdiv y) := jz_div hx hy h0
  have hr := t_rem x y
  have h2 := Int.tmod_lt_of_pos x h0
  have hs : 0 ≤ x → 0 ≤ x.tmod y := fun h => Int.tmod_nonneg y h
  have hs2 : x < 0 → x.tmod y ≤ 0 := fun h => by
    have h := Int.tmod_nonneg (b := y) (a := -x) (by omega)
    rw [Int.neg_tmod] at h
    omega
  have hmul : jR (x.tdiv y * y) := by
    have h5 := tmod_R hx h0
    have h6 := hx.1
    have h7 := hx.2
    constructor
    · by_cases h : 0 ≤ x
      · have h9 := hs h
        have h8 := Int.tmod_lt_of_pos x h0
        have h10 : 0 ≤ x.tdiv y := Int.tdiv_nonneg h (by omega)
        have h11 := Int.mul_nonneg h10 (by omega : 0 ≤ y)
        omega
      · have h9 := hs2 (by omega)
        omega
    · by_cases h : 0 ≤ x
      · have h9 := hs h
        omega
      · have h10 : x.tdiv y ≤ 0 := ((tq_R h0).2 (by omega)).2
        have h11 := Int.mul_nonneg (by omega : 0 ≤ - x.tdiv y) (by omega : 0 ≤ y)
        have h12 : - x.tdiv y * y = - (x.tdiv y * y) := Int.neg_mul _ _
        omega
  unfold f_Math_floorDiv f_Math_floorDiv_27
  rw [if_neg hn, hq, ediv_t h0]
  by_cases hc : 0 ≤ x
  · rw [if_pos ((xor_neg hy0).mpr ((jz_le (a := 0) ⟨by omega, by omega⟩ hx).mpr hc)), if_pos (hs hc)]
  · rw [if_neg (fun q => hc ((jz_le (a := 0) ⟨by omega, by omega⟩ hx).mp ((xor_neg hy0).mp q))), jz_mul]
    by_cases hd : x.tdiv y * y = x
    · rw [if_pos (by rw [hd]), if_pos (by omega)]
    · rw [if_neg (fun q => hd ((jz_eq hmul hx).mp q)), if_neg (by have := hs2 (by omega); omega), e1, jz_sub]
theorem cl_near {μ : mM} {a b : Int} (h : nR a b) : f_CL_nearest μ (jz a) (jz b) = some (jz (nz a b)) := by
  obtain ⟨h1, h2, h3, h4⟩ := h
  have e2 : (2 : Int64) = jz 2 := rfl
  have e0 : (0 : Int64) = jz 0 := rfl
  have hb : jR b := ⟨by omega, by omega⟩
  have hn : ¬ jz b = jz 0 := fun q => by
    have := (jz_eq hb ⟨by omega, by omega⟩).mp q
    omega
  have hp : jz 0 ≤ jz b := (jz_le ⟨by omega, by omega⟩ hb).mpr (by omega)
  unfold f_CL_nearest f_CL_nearest_20 f_CL_nearest_34 nz
  rw [e0, if_neg hn, if_pos hp, if_pos hp, e2, jz_mul, jz_mul, jz_add, jm_floor ⟨by omega, by omega⟩ ⟨by omega, by omega⟩ (by omega)]
  rfl
theorem cl_nearN {μ : mM} {a b : Int} (h : nR (-a) (-b)) : f_CL_nearest μ (jz a) (jz b) = some (jz (nz (-a) (-b))) := by
  obtain ⟨h1, h2, h3, h4⟩ := h
  have e2 : (2 : Int64) = jz 2 := rfl
  have e0 : (0 : Int64) = jz 0 := rfl
  have hb : jR b := ⟨by omega, by omega⟩
  have hn : ¬ jz b = jz 0 := fun q => by
    have := (jz_eq hb ⟨by omega, by omega⟩).mp q
    omega
  have hp : ¬ jz 0 ≤ jz b := fun q => by
    have := (jz_le ⟨by omega, by omega⟩ hb).mp q
    omega
  unfold f_CL_nearest f_CL_nearest_20 f_CL_nearest_34 nz
  rw [e0, if_neg hn, if_neg hp, if_neg hp, e2, jz_neg, jz_neg, jz_mul, jz_mul, jz_add, jm_floor ⟨by omega, by omega⟩ ⟨by omega, by omega⟩ (by omega)]
  rfl
theorem cz_R (x : Int) : 0 ≤ cz x ∧ cz x ≤ 65535 := by
  unfold cz
  split
  · omega
  · split <;> omega
theorem mo_clip {μ : mM} {x : Int} (h : jR x) : f_Mo_clip μ (jz x) = some (jz (cz x)) := by
  have e0 : (0 : Int64) = jz 0 := rfl
  have e1 : (65535 : Int64) = jz 65535 := rfl
  unfold f_Mo_clip f_Mo_clip_25 cz
  rw [e0, e1]
  by_cases h1 : x < 0
  · rw [if_neg (fun q => by have := (jz_le ⟨by omega, by omega⟩ h).mp q; omega), if_pos h1]
  · rw [if_pos ((jz_le ⟨by omega, by omega⟩ h).mpr (by omega)), if_neg h1]
    by_cases h2 : 65535 < x
    · rw [if_neg (fun q => by have := (jz_le h ⟨by omega, by omega⟩).mp q; omega), if_pos h2]
    · rw [if_pos ((jz_le h ⟨by omega, by omega⟩).mpr (by omega)), if_neg h2]
theorem cl_clip {μ : mM} {x : Int} (h : jR x) : f_CL_clip μ (jz x) = some (iz (cz x)) := by
  have e0 : (0 : Int64) = jz 0 := rfl
  have e1 : (65535 : Int64) = jz 65535 := rfl
  have hn : ¬ jz 65535 < jz 0 := fun q => by
    have := (jz_lt (a := 65535) (b := 0) ⟨by omega, by omega⟩ ⟨by omega, by omega⟩).mp q
    omega
  unfold f_CL_clip jmaxJ jminJ cz
  rw [e0, e1]
  by_cases h2 : x < 65535
  · have hin : (if jz x < jz 65535 then jz x else jz 65535) = jz x := if_pos ((jz_lt h ⟨by omega, by omega⟩).mpr h2)
    rw [hin]
    by_cases h1 : x < 0
    · rw [if_pos ((jz_lt h ⟨by omega, by omega⟩).mpr h1), if_pos h1, jz_i]
    · rw [if_neg (fun q => h1 ((jz_lt h ⟨by omega, by omega⟩).mp q)), if_neg h1, if_neg (by omega), jz_i]
  · have hin : (if jz x < jz 65535 then jz x else jz 65535) = jz 65535 := if_neg (fun q => h2 ((jz_lt h ⟨by omega, by omega⟩).mp q))
    rw [hin, if_neg hn, if_neg (by omega), jz_i]
    by_cases h3 : 65535 < x
    · rw [if_pos h3]
    · rw [if_neg h3, show x = 65535 by omega]
theorem nz_R {a b : Int} (h : nR a b) : jR (nz a b) := by
  obtain ⟨h1, h2, h3, h4⟩ := h
  have e := Int.mul_ediv_add_emod (2 * a + b) (2 * b)
  have r1 := Int.emod_nonneg (2 * a + b) (b := 2 * b) (by omega)
  have r2 := Int.emod_lt_of_pos (2 * a + b) (b := 2 * b) (by omega)
  have e2 : nz a b = (2 * a + b) / (2 * b) := rfl
  rw [← e2] at e
  by_cases hq : 0 ≤ nz a b
  · have h5 : 2 * nz a b ≤ 2 * b * nz a b := Int.mul_le_mul_of_nonneg_right (by omega) hq
    constructor <;> omega
  · have h5 : 2 * b * nz a b ≤ 2 * nz a b := Int.mul_le_mul_of_nonpos_right (by omega) (by omega)
    constructor <;> omega
theorem mo_clipNear {μ : mM} {a b : Int} (h : nR a b) : f_Mo_clipNear μ (jz a) (jz b) = some (jz (cz (nz a b))) := by
  unfold f_Mo_clipNear
  rw [mo_near h, Option.bind_some, mo_clip (nz_R h)]
  rfl
