/-! A colour as one number. -/
theorem shl32 (x : Int64) : x <<< (((32 : Int32)).toInt64 &&& 63) = x * 4294967296 := by
  apply Int64.toBitVec_inj.mp
  rw [Int64.toBitVec_shiftLeft, Int64.toBitVec_mul]
  have e : (((32 : Int32)).toInt64 &&& 63).toBitVec.smod 64 = 32#64 := by decide
  rw [e, BitVec.shiftLeft_eq', show (32#64).toNat = 32 from rfl, BitVec.shiftLeft_eq_mul_twoPow]
  rfl
theorem shl16 (x : Int64) : x <<< (((16 : Int32)).toInt64 &&& 63) = x * 65536 := by
  apply Int64.toBitVec_inj.mp
  rw [Int64.toBitVec_shiftLeft, Int64.toBitVec_mul]
  have e : (((16 : Int32)).toInt64 &&& 63).toBitVec.smod 64 = 16#64 := by decide
  rw [e, BitVec.shiftLeft_eq', show (16#64).toNat = 16 from rfl, BitVec.shiftLeft_eq_mul_twoPow]
  rfl
theorem cl_packed {μ : mM} {ca : Nat} {c : Int → Int} (h : CF μ ca c) (hl : lv3 c) : f_CL_packed μ (some ca) = some (jz (pk c)) := by
  have h0 : lvl (c 0) := hl 0 (by omega)
  have h1 : lvl (c 1) := hl 1 (by omega)
  have h2 : lvl (c 2) := hl 2 (by omega)
  unfold f_CL_packed
  rw [zi_0, cf_g h (by omega) (by omega), Option.bind_some, zi_1, cf_g h (by omega) (by omega), Option.bind_some, zi_2, cf_g h (by omega) (by omega), Option.bind_some, shl32, shl16, iz_j (iR_l h0), iz_j (iR_l h1), iz_j (iR_l h2), zj_4294967296, zj_65536, jz_mul, jz_mul, jz_add, jz_add]
  rfl
theorem cl_level {μ : mM} {x : Int} (hx : iR x) : f_CL_isLevel μ (iz x) = some (iz (bI (lvb x))) := by
  unfold f_CL_isLevel f_CL_isLevel_14 f_CL_isLevel_15 lvb
  by_cases h0 : x < 0
  · rw [zi_0, if_pos ((iz_lt hx (iR_s (by omega) (by omega))).mpr h0), decide_eq_false (by omega)]
    rfl
  · rw [zi_0, if_neg (fun q => h0 ((iz_lt hx (iR_s (by omega) (by omega))).mp q)), zi_65535]
    by_cases h1 : 65535 < x
    · rw [if_pos ((iz_lt (iR_s (by omega) (by omega)) hx).mpr h1), decide_eq_false (by omega)]
      rfl
    · rw [if_neg (fun q => h1 ((iz_lt (iR_s (by omega) (by omega)) hx).mp q)), decide_eq_true (by omega)]
      rfl
theorem pk_inj {x y t x' y' t' : Int} (hx : lvl x) (hy : lvl y) (ht : lvl t) (hx' : lvl x') (hy' : lvl y') (ht' : lvl t') (h : pk (v3 x y t) = pk (v3 x' y' t')) : x = x' ∧ y = y' ∧ t = t' := by
  obtain ⟨a1, a2⟩ := hx
  obtain ⟨b1, b2⟩ := hy
  obtain ⟨c1, c2⟩ := ht
  obtain ⟨d1, d2⟩ := hx'
  obtain ⟨e1, e2⟩ := hy'
  obtain ⟨f1, f2⟩ := ht'
  have h' : x * 4294967296 + y * 65536 + t = x' * 4294967296 + y' * 65536 + t' := h
  omega
theorem pk_R {c : Int → Int} (h : lv3 c) : 0 ≤ pk c ∧ pk c < 281474976710656 := by
  have h0 : lvl (c 0) := h 0 (by omega)
  have h1 : lvl (c 1) := h 1 (by omega)
  have h2 : lvl (c 2) := h 2 (by omega)
  obtain ⟨a1, a2⟩ := h0
  obtain ⟨b1, b2⟩ := h1
  obtain ⟨c1, c2⟩ := h2
  unfold pk
  omega
section TAK
variable {φ μ : mM} {X : Nat} {kc mc cc pr : Int32}
theorem cl_take {lk P : Nat} {gy : Bool} {w : Int → Int} (hx : μ X = some (.inr (10, xF X kc mc cc pr))) (hw : CF μ (X + 8) w) (h5 : mfA μ (some lk) [7] 5 = some (some P)) (hc : ((mrc μ (some P) 9).bind fun a => f_Profile_channels μ a) = some (iz (if gy then 1 else 3))) {a b c : Int} (ha : iR a) (hb : iR b) (hc' : iR c) : ∃ μ' w', ((mrc μ (some X) 10).bind fun x => f_CL_take x μ (some lk) (iz a) (iz b) (iz c)) = some (iz (bI (tok gy a b c)), μ') ∧ CF μ' (X + 8) w' ∧ (tok gy a b c = true → w' = tcl gy a b c) ∧ ∀ d, d ≠ X + 8 → μ' d = μ d := by
  have E := xf_e hx
  have e16 : f_CL_take X μ (some lk) (iz a) (iz b) (iz c) = f_CL_take_16 X μ (iz a) (iz b) (iz c) (iz (bI gy)) := by
    unfold f_CL_take
    rw [h5, Option.bind_some, hc, Option.bind_some]
    cases gy
    · rw [if_neg (by decide)]
      rfl
    · rw [if_pos (by decide)]
      rfl
  rw [E.1, Option.bind_some, e16]
  unfold f_CL_take_16 f_CL_take_45
  rw [cl_level ha, Option.bind_some, cl_level hb, Option.bind_some, cl_level hc', Option.bind_some]
  have fin : ∃ μ' w', f_CL_take_47 X μ (iz a) (iz b) (iz c) (iz (bI gy)) = some (1, μ') ∧ CF μ' (X + 8) w' ∧ w' = tcl gy a b c ∧ ∀ d, d ≠ X + 8 → μ' d = μ d := by
    obtain ⟨m1, t1, k1, o1⟩ := cf_s hw (i := 0) (by omega) (by omega) a
    obtain ⟨m2, t2, k2, o2⟩ := cf_s k1 (i := 1) (by omega) (by omega) (if gy then 0 else b)
    obtain ⟨m3, t3, k3, o3⟩ := cf_s k2 (i := 2) (by omega) (by omega) (if gy then 0 else c)
    have x1 := xf_e ((o1 X (by omega)).trans hx)
    have x2 := xf_e ((o2 X (by omega)).trans ((o1 X (by omega)).trans hx))
    refine ⟨m3, tcl gy a b c, ?_, cf_ext k3 (lt3 (by simp [zu, tcl, v3]) (by simp [zu, tcl, v3]) (by simp [zu, tcl, v3])), rfl, fun d hd => (o3 d hd).trans ((o2 d hd).trans (o1 d hd))⟩
    unfold f_CL_take_47 f_CL_take_69 f_CL_take_86
    rw [E.2.2.2.2.2.2.2.2.2.2.1, Option.bind_some, zi_0, t1, Option.bind_some, x1.2.2.2.2.2.2.2.2.2.2.1, Option.bind_some]
    cases gy with
    | true =>
      rw [if_neg (by decide), zi_1]
      rw [if_pos rfl] at t2 t3
      rw [t2, Option.bind_some, x2.2.2.2.2.2.2.2.2.2.2.1, Option.bind_some, if_neg (by decide), zi_2, t3, Option.bind_some]
    | false =>
      rw [if_pos (by decide), zi_1]
      rw [if_neg (by decide)] at t2 t3
      rw [t2, Option.bind_some, x2.2.2.2.2.2.2.2.2.2.2.1, Option.bind_some, if_pos (by decide), zi_2, t3, Option.bind_some]
  obtain ⟨m1, w1, s1, k1, e1, o1⟩ := fin
  unfold tok
  cases hla : lvb a with
  | false =>
    refine ⟨μ, w, ?_, hw, fun q => by simp at q, fun _ _ => rfl⟩
    rw [if_pos (by decide)]
    rfl
  | true =>
    rw [if_neg (by decide), Bool.true_and]
    cases hgy : gy with
    | true =>
      rw [hgy] at s1 e1
      refine ⟨m1, w1, ?_, k1, fun _ => e1, o1⟩
      rw [if_neg (by decide)]
      exact s1
    | false =>
      rw [hgy] at s1 e1
      rw [if_pos (by decide), Bool.false_or]
      cases hlb : lvb b with
      | false =>
        refine ⟨μ, w, ?_, hw, fun q => by simp at q, fun _ _ => rfl⟩
        rw [if_pos (by decide)]
        rfl
      | true =>
        rw [if_neg (by decide), Bool.true_and]
        cases hlc : lvb c with
        | false =>
          refine ⟨μ, w, ?_, hw, fun q => by simp at q, fun _ _ => rfl⟩
          rw [if_pos (by decide)]
          rfl
        | true =>
          refine ⟨m1, w1, ?_, k1, fun _ => e1, o1⟩
          rw [if_neg (by decide)]
          exact s1
end TAK
