/-! The buffer of both sides: add, set, clear, size, at. -/
def BU (μ : mM) (X n : Nat) (b : Int → Int) : Prop := μ (X + 1) = some (.inr (1, [.ref (X + 2), .int (nI n)])) ∧ ∃ f : Nat → Int32, μ (X + 2) = some (.inl (0, 256, .inl f)) ∧ ∀ i : Nat, i < n → f i = iz (b i)
def BA (A : Nat → Nat → Int32) (S : Nat → Int32) (n : Nat) (b : Int → Int) : Prop := S 1 = nI n ∧ ∀ i : Nat, i < n → A 0 i = iz (b i)
def sX (A' A : Nat → Nat → Int32) : Prop := ∀ j, j ≠ 0 → A' j = A j
def sY (S' S : Nat → Int32) : Prop := ∀ j, j ≠ 1 → S' j = S j
def byt (x : Int32) (k : Nat) : Int := ((x >>> (((8 : Int32) * iz k) &&& 31)) &&& (255 : Int32)).toInt
def apb (x : Int32) : Nat → Nat → (Int → Int) → Int → Int
  | 0, _, b => b
  | k + 1, n, b => apb x k (n + 1) (zu b n (byt x k))
def Byt (b : Int → Int) : Prop := ∀ i, 0 ≤ b i ∧ b i < 256
theorem apb_R (x : Int32) : ∀ (k n : Nat) (b : Int → Int), Byt b → Byt (apb x k n b) := by
  intro k
  induction k with
  | zero => intro n b h; exact h
  | succ k ih =>
    intro n b h
    apply ih
    intro i
    unfold zu
    by_cases e : i = (n : Int)
    · rw [if_pos e]; exact and255 _
    · rw [if_neg e]; exact h i
section BUF
variable {μ : mM} {M X : Nat} {A : Nat → Nat → Int32} {S : Nat → Int32} {L : Nat → Int64}
theorem rb_mo (h : RB μ M A S L) : ∃ A' S' J, Mo μ M A' J S' ∧ A' 0 = A 0 ∧ A' 2 = A 2 ∧ S' 1 = S 1 ∧ S' 3 = S 3 := by
  obtain ⟨A2, v, l, b2, ⟨A', S', o, m, ⟨J, h1, -⟩, h3, h4, -⟩, -⟩ := h
  exact ⟨A', S', J, h1, h3.1.trans b2.1, h3.2.1.trans b2.2.1, h4.1, h4.2.1⟩
theorem rb_c0 (h : RB μ M A S L) : μ (M + 1) = some (.inl (0, 256, .inl (A 0))) ∧ μ (M + 2) = some (.inl (0, 1536, .inl (A 2))) := by
  obtain ⟨A', S', J, h1, e1, e2, -⟩ := rb_mo h
  rw [← e1, ← e2]
  exact ⟨h1.2.1, h1.2.2.1⟩
theorem rb_f0 (h : RB μ M A S L) : mfA μ (some M) [11] 0 = some (some (M + 1)) ∧ mfA μ (some M) [11] 2 = some (some (M + 2)) := by
  obtain ⟨A', S', J, h1, -⟩ := rb_mo h
  exact ⟨mo_f0 h1, mo_f2 h1⟩
theorem rb_u0 (h : RB μ M A S L) (g : Nat → Int32) : RB (mup μ (M + 1) (.inl (0, 256, .inl g))) M (va_up A 0 g) S L := by
  obtain ⟨A2, v, l, b2, ⟨A', S', o, m, ⟨J, h1, h2⟩, h3, h4, h5, h6⟩, hl⟩ := h
  refine ⟨va_up A2 0 g, v, l, ?_, ⟨va_up A' 0 g, S', o, m, ⟨J, mo_u0 h1 g, h2⟩, ?_, h4, h5, ?_⟩, hl⟩
  · obtain ⟨-, q2, q3, q4, q5, q6, q7⟩ := b2
    exact ⟨by simp [va_up], by simp [va_up, q2], by simp [va_up, q3], by simp [va_up, q4], by simp [va_up, q5], by simp [va_up, q6], by simp [va_up, q7]⟩
  · obtain ⟨-, q2, q3, q4, q5, q6, q7, q8⟩ := h3
    exact ⟨by simp [va_up], by simp [va_up, q2], by simp [va_up, q3], by simp [va_up, q4], by simp [va_up, q5], by simp [va_up, q6], by simp [va_up, q7], by simp [va_up, q8]⟩
  · intro k q hq
    simpa [va_up] using h6 k q hq
theorem rb_u2 (h : RB μ M A S L) (g : Nat → Int32) : RB (mup μ (M + 2) (.inl (0, 1536, .inl g))) M (va_up A 2 g) S L := by
  obtain ⟨A2, v, l, b2, ⟨A', S', o, m, ⟨J, h1, h2⟩, h3, h4, h5, h6⟩, hl⟩ := h
  refine ⟨va_up A2 2 g, v, l, ?_, ⟨va_up A' 2 g, S', o, m, ⟨J, mo_u2 h1 g, h2⟩, ?_, h4, h5, ?_⟩, hl⟩
  · obtain ⟨q1, -, q3, q4, q5, q6, q7⟩ := b2
    exact ⟨by simp [va_up, q1], by simp [va_up], by simp [va_up, q3], by simp [va_up, q4], by simp [va_up, q5], by simp [va_up, q6], by simp [va_up, q7]⟩
  · obtain ⟨q1, -, q3, q4, q5, q6, q7, q8⟩ := h3
    exact ⟨by simp [va_up, q1], by simp [va_up], by simp [va_up, q3], by simp [va_up, q4], by simp [va_up, q5], by simp [va_up, q6], by simp [va_up, q7], by simp [va_up, q8]⟩
  · intro k q hq
    simpa [va_up] using h6 k q hq
theorem rb_w1 (h : RB μ M A S L) (x : Int32) : ∃ μ', mpI μ (some M) [11] 1 x = some μ' ∧ RB μ' M A (va_up S 1 x) L ∧ Out M μ μ' := by
  obtain ⟨A2, v, l, b2, ⟨A', S', o, m, ⟨J, h1, h2⟩, h3, h4, h5, h6⟩, hl⟩ := h
  refine ⟨_, mo_p1 h1 x, ⟨A2, v, l, b2, ⟨A', va_up S' 1 x, o, m, ⟨J, mo_w1 h1 x, h2⟩, h3, ?_, ?_, h6⟩, hl⟩, fun c hc => mup_ne _ _ (by omega)⟩
  · obtain ⟨-, q2, q3, q4⟩ := h4
    exact ⟨by simp [va_up], by simp [va_up, q2], by simp [va_up, q3], by simp [va_up, q4]⟩
  · simpa [va_up] using h5
theorem rb_w3 (h : RB μ M A S L) (x : Int32) : ∃ μ', mpI μ (some M) [11] 3 x = some μ' ∧ RB μ' M A (va_up S 3 x) L ∧ Out M μ μ' := by
  obtain ⟨A2, v, l, b2, ⟨A', S', o, m, ⟨J, h1, h2⟩, h3, h4, h5, h6⟩, hl⟩ := h
  refine ⟨_, mo_p3 h1 x, ⟨A2, v, l, b2, ⟨A', va_up S' 3 x, o, m, ⟨J, mo_w3 h1 x, h2⟩, h3, ?_, ?_, h6⟩, hl⟩, fun c hc => mup_ne _ _ (by omega)⟩
  · obtain ⟨q1, -, q3, q4⟩ := h4
    exact ⟨by simp [va_up, q1], by simp [va_up], by simp [va_up, q3], by simp [va_up, q4]⟩
  · simpa [va_up] using h5
theorem rb_s0 (h : RB μ M A S L) {i : Nat} (hi : i < 256) (x : Int32) : ∃ μ', msI μ (some (M + 1)) (nI i) x = some μ' ∧ RB μ' M (va_up A 0 (upd (A 0) i x)) S L ∧ Out M μ μ' :=
  ⟨_, msI_i (rb_c0 h).1 hi (by decide), rb_u0 h _, fun c hc => mup_ne _ _ (by omega)⟩
theorem rb_s2 (h : RB μ M A S L) {i : Nat} (hi : i < 1536) (x : Int32) : ∃ μ', msI μ (some (M + 2)) (nI i) x = some μ' ∧ RB μ' M (va_up A 2 (upd (A 2) i x)) S L ∧ Out M μ μ' :=
  ⟨_, msI_i (rb_c0 h).2 hi (by decide), rb_u2 h _, fun c hc => mup_ne _ _ (by omega)⟩
theorem rb_g0 (h : RB μ M A S L) {n : Nat} {b : Int → Int} (hb : BA A S n b) {i : Int} (h0 : 0 ≤ i) (h1 : i < n) (hn : n ≤ 256) : mgI μ (some (M + 1)) (iz i) = some (iz (b i)) := by
  rw [iz_nat h0, mgI_i (rb_c0 h).1 (by omega) (by decide), hb.2 _ (by omega), Int.toNat_of_nonneg h0]
theorem sX.rf : sX A A := fun _ _ => rfl
theorem sX.tr {B C : Nat → Nat → Int32} (h : sX A B) (h2 : sX B C) : sX A C := fun j hj => (h j hj).trans (h2 j hj)
theorem sY.rf : sY S S := fun _ _ => rfl
theorem sY.tr {B C : Nat → Int32} (h : sY S B) (h2 : sY B C) : sY S C := fun j hj => (h j hj).trans (h2 j hj)
theorem sX.up (g : Nat → Int32) : sX (va_up A 0 g) A := fun j hj => by simp [va_up, hj]
theorem sY.up (x : Int32) : sY (va_up S 1 x) S := fun j hj => by simp [va_up, hj]
theorem sX_kp {A' : Nat → Nat → Int32} (h : sX A' A) : kp A' = kp A := by
  unfold kp
  rw [h 2 (by decide)]
theorem sX_KA {A' : Nat → Nat → Int32} (h : sX A' A) (hk : KA A) : KA A' := by
  unfold KA
  rw [h 2 (by decide)]
  exact hk
theorem sX_LT {A' : Nat → Nat → Int32} {nl : Nat} {G : Nat → Lz} (h : sX A' A) (hk : LT A nl G) : LT A' nl G := by
  unfold LT
  rw [h 4 (by decide), h 5 (by decide), h 6 (by decide), h 7 (by decide), h 8 (by decide)]
  exact hk
theorem bu_e {n : Nat} {b : Int → Int} (h : BU μ X n b) : mrc μ (some (X + 1)) 1 = some (X + 1) ∧ mfA μ (some (X + 1)) [1] 0 = some (some (X + 2)) ∧ mfI μ (some (X + 1)) [1] 1 = some (nI n) := ⟨mrc_i h.1, mfA_i h.1 rfl rfl, mfI_i h.1 rfl rfl⟩
theorem bu_g {n : Nat} {b : Int → Int} (h : BU μ X n b) (hn : n ≤ 256) {i : Int} (h0 : 0 ≤ i) (h1 : i < n) : mgI μ (some (X + 2)) (iz i) = some (iz (b i)) := by
  obtain ⟨-, f, h2, h3⟩ := h
  rw [iz_nat h0, mgI_i h2 (by omega) (by decide), h3 _ (by omega), Int.toNat_of_nonneg h0]
theorem bu_s {n : Nat} {b : Int → Int} (h : BU μ X n b) {i : Int} (h0 : 0 ≤ i) (h1 : i < 256) (x : Int) : ∃ μ', msI μ (some (X + 2)) (iz i) (iz x) = some μ' ∧ BU μ' X n (zu b i x) ∧ (i = (n : Int) → ∃ f : Nat → Int32, μ' (X + 2) = some (.inl (0, 256, .inl f)) ∧ ∀ j : Nat, j < n + 1 → f j = iz (zu b i x j)) ∧ ∀ c, c ≠ X + 2 → μ' c = μ c := by
  obtain ⟨h1', f, h2, h3⟩ := h
  refine ⟨_, by rw [iz_nat h0]; exact msI_i h2 (by omega) (by decide), ⟨(mup_ne _ _ (by omega)).trans h1', _, mup_self _ _ _, zu_rowI h0 x h3⟩, fun e => ⟨_, mup_self _ _ _, fun j hj => ?_⟩, fun c hc => mup_ne _ _ hc⟩
  unfold upd zu
  by_cases e2 : j = i.toNat
  · rw [if_pos e2, if_pos (by omega)]
  · rw [if_neg e2, if_neg (by omega), h3 j (by omega)]
theorem bu_n {n : Nat} {b : Int → Int} (h : BU μ X n b) {m : Nat} {b' : Int → Int} (hb : ∃ f : Nat → Int32, μ (X + 2) = some (.inl (0, 256, .inl f)) ∧ ∀ j : Nat, j < m → f j = iz (b' j)) : ∃ μ', mpI μ (some (X + 1)) [1] 1 (nI m) = some μ' ∧ BU μ' X m b' ∧ ∀ c, c ≠ X + 1 → μ' c = μ c := by
  obtain ⟨f, h2, h3⟩ := hb
  exact ⟨_, mpV_i h.1 rfl (show 1 < 2 by decide), ⟨mup_self _ _ _, f, (mup_ne _ _ (by omega)).trans h2, h3⟩, fun c hc => mup_ne _ _ hc⟩
theorem byt_e (x : Int32) {k : Nat} (hk : k ≤ 3) : ((x.toUInt32 >>> ((((8 : Int32) * iz k)).toUInt32 &&& Int32.toUInt32 31)).toInt32 &&& (255 : Int32)) = iz (byt x k) := by
  rw [shr_eq x (by omega) (by omega)]
  exact (iz_of _).symm
theorem cl_addL (x : Int32) (kx : mM → Option (Int32 × mM)) : ∀ (m fu n : Nat) (b : Int → Int) (μ : mM), m ≤ 4 → m < fu → n + m ≤ 256 → BU μ X n b → ∃ μ', f_Buffer_append_28 (X + 1) kx fu μ x (iz ((m : Int) - 1)) = kx μ' ∧ BU μ' X (n + m) (apb x m n b) ∧ ∀ c, c ≠ X + 1 → c ≠ X + 2 → μ' c = μ c := by
  intro m
  induction m with
  | zero =>
    intro fu n b μ h4 hf hn h
    obtain ⟨fu, rfl⟩ : ∃ k, fu = k + 1 := ⟨fu - 1, by omega⟩
    refine ⟨μ, ?_, h, fun _ _ _ => rfl⟩
    unfold f_Buffer_append_28
    rw [zi_0, if_pos ((iz_lt (iR_s (by omega) (by omega)) (iR_s (by omega) (by omega))).mpr (by omega))]
  | succ m ih =>
    intro fu n b μ h4 hf hn h
    obtain ⟨fu, rfl⟩ : ∃ k, fu = k + 1 := ⟨fu - 1, by omega⟩
    obtain ⟨e1, e2, e3⟩ := bu_e h
    obtain ⟨m1, s1, b1, r1, o1⟩ := bu_s h (i := n) (by omega) (by omega) (byt x m)
    obtain ⟨m2, s2, b2, o2⟩ := bu_n b1 (r1 rfl)
    obtain ⟨m3, s3, b3, o3⟩ := ih fu (n + 1) _ m2 (by omega) (by omega) (by omega) b2
    refine ⟨m3, ?_, by rw [show n + (m + 1) = n + 1 + m by omega]; exact b3, fun c c1 c2 => (o3 c c1 c2).trans ((o2 c c1).trans (o1 c c2))⟩
    have em : ((m + 1 : Nat) : Int) - 1 = m := by omega
    rw [em]
    unfold f_Buffer_append_28
    rw [zi_0, if_neg (fun q => by have := (iz_lt (iR_s (by omega) (by omega)) (iR_s (by omega) (by omega))).mp q; omega), e2, Option.bind_some, e3, Option.bind_some, byt_e x (by omega), nI_iz, s1, Option.bind_some, (bu_e b1).2.2, Option.bind_some, nI_s, s2, Option.bind_some, zi_m1, iz_add]
    exact s3
theorem rb_addL (x : Int32) (kx : mM → Option (Int32 × mM)) : ∀ (m fu n : Nat) (b : Int → Int) (μ : mM) (A : Nat → Nat → Int32) (S : Nat → Int32), m ≤ 4 → m < fu → n + m ≤ 256 → RB μ M A S L → BA A S n b → ∃ μ' A' S', f_Mo_add_28 M kx fu μ x (iz ((m : Int) - 1)) = kx μ' ∧ RB μ' M A' S' L ∧ BA A' S' (n + m) (apb x m n b) ∧ sX A' A ∧ sY S' S ∧ Out M μ μ' := by
  intro m
  induction m with
  | zero =>
    intro fu n b μ A S h4 hf hn h hb
    obtain ⟨fu, rfl⟩ : ∃ k, fu = k + 1 := ⟨fu - 1, by omega⟩
    refine ⟨μ, A, S, ?_, h, hb, sX.rf, sY.rf, Out.rf⟩
    unfold f_Mo_add_28
    rw [zi_0, if_pos ((iz_lt (iR_s (by omega) (by omega)) (iR_s (by omega) (by omega))).mpr (by omega))]
  | succ m ih =>
    intro fu n b μ A S h4 hf hn h hb
    obtain ⟨fu, rfl⟩ : ∃ k, fu = k + 1 := ⟨fu - 1, by omega⟩
    obtain ⟨m1, s1, r1, o1⟩ := rb_s0 h (i := n) (by omega) (iz (byt x m))
    obtain ⟨m2, s2, r2, o2⟩ := rb_w1 r1 (nI (n + 1))
    obtain ⟨m3, A3, S3, s3, r3, b3, x3, y3, o3⟩ := ih fu (n + 1) (zu b n (byt x m)) m2 _ _ (by omega) (by omega) (by omega) r2 ⟨by simp [va_up], fun i hi => by
      show va_up A 0 (upd (A 0) n (iz (byt x m))) 0 i = _
      unfold va_up upd zu
      rw [if_pos rfl]
      by_cases e : i = n
      · rw [if_pos e, if_pos (by omega)]
      · rw [if_neg e, if_neg (by omega), hb.2 i (by omega)]⟩
    refine ⟨m3, A3, S3, ?_, r3, by rw [show n + (m + 1) = n + 1 + m by omega]; exact b3, x3.tr (sX.up _), y3.tr (sY.up _), (o1.tr o2).tr o3⟩
    have em : ((m + 1 : Nat) : Int) - 1 = m := by omega
    have eb : ((x >>> (((8 : Int32) * iz m) &&& 31)) &&& (255 : Int32)) = iz (byt x m) := (iz_of _).symm
    rw [em]
    unfold f_Mo_add_28
    rw [zi_0, if_neg (fun q => by have := (iz_lt (iR_s (by omega) (by omega)) (iR_s (by omega) (by omega))).mp q; omega), (rb_f0 h).1, Option.bind_some, (rb_S h).2.2.2, Option.bind_some, eb, hb.1, s1, Option.bind_some, (rb_S r1).2.2.2, Option.bind_some, hb.1, nI_s, s2, Option.bind_some, zi_m1, iz_add]
    exact s3
/-- whether add takes the n bytes -/
abbrev adO (sz : Nat) (n : Int) : Prop := 1 ≤ n ∧ n ≤ 4 ∧ sz + n ≤ 256
theorem cl_add {kc mc cc pr : Int32} (hx : μ X = some (.inr (10, xF X kc mc cc pr))) {n : Nat} {b : Int → Int} (h : BU μ X n b) (hn : n ≤ 256) (x : Int32) {k : Int} (hk : iR k) : (adO n k → ∃ μ', f_CL_add X μ x (iz k) = some (1, μ') ∧ BU μ' X (n + k.toNat) (apb x k.toNat n b) ∧ ∀ c, c ≠ X + 1 → c ≠ X + 2 → μ' c = μ c) ∧ (¬ adO n k → f_CL_add X μ x (iz k) = some (0, μ)) := by
  obtain ⟨e1, e2, e3⟩ := bu_e h
  unfold f_CL_add
  rw [(xf_e hx).2.1, Option.bind_some, e1, Option.bind_some]
  unfold f_Buffer_append f_Buffer_append_22
  by_cases k1 : k < 1
  · refine ⟨fun q => absurd q.1 (by omega), fun q => ?_⟩
    rw [zi_1, if_pos ((iz_lt hk (iR_s (by omega) (by omega))).mpr k1), Option.bind_some, mz_0, Option.bind_some]
  · by_cases k4 : 4 < k
    · refine ⟨fun q => absurd q.2.1 (by omega), fun q => ?_⟩
      rw [zi_1, if_neg (fun q => k1 ((iz_lt hk (iR_s (by omega) (by omega))).mp q)), zi_4, if_pos ((iz_lt (iR_s (by omega) (by omega)) hk).mpr k4), Option.bind_some, mz_0, Option.bind_some]
    · have e5 : ∀ (p : Option (Int32 × mM)) (r : Option (Int32 × mM)), (if iz k < (1 : Int32) then p else if (4 : Int32) < iz k then p else r) = r := by
        intro p r
        rw [zi_1, if_neg (fun q => k1 ((iz_lt hk (iR_s (by omega) (by omega))).mp q)), zi_4, if_neg (fun q => k4 ((iz_lt (iR_s (by omega) (by omega)) hk).mp q))]
      rw [e5, e3, Option.bind_some, nI_iz, iz_add, zi_256]
      by_cases k6 : (n : Int) + k ≤ 256
      · refine ⟨fun q => ?_, fun q => absurd ⟨by omega, by omega, k6⟩ q⟩
        obtain ⟨m1, s1, b1, o1⟩ := cl_addL (X := X) x (fun μ => f_Buffer_append_67 (X + 1) μ) k.toNat 4096 n b μ (by omega) (by omega) (by omega) h
        rw [Int.toNat_of_nonneg (by omega)] at s1
        refine ⟨m1, ?_, b1, o1⟩
        rw [if_pos ((iz_le (iR_s (by omega) (by omega)) (iR_s (by omega) (by omega))).mpr k6), zi_1, iz_sub, s1]
        unfold f_Buffer_append_67
        rw [Option.bind_some, ← zi_1, mz_1, Option.bind_some]
      · refine ⟨fun q => absurd q.2.2 k6, fun q => ?_⟩
        rw [if_neg (fun q => k6 ((iz_le (iR_s (by omega) (by omega)) (iR_s (by omega) (by omega))).mp q)), Option.bind_some, mz_0, Option.bind_some]
theorem rb_add (h : RB μ M A S L) {n : Nat} {b : Int → Int} (hb : BA A S n b) (hn : n ≤ 256) (x : Int32) {k : Int} (hk : iR k) : (adO n k → ∃ μ' A' S', f_Mo_add M μ x (iz k) = some (1, μ') ∧ RB μ' M A' S' L ∧ BA A' S' (n + k.toNat) (apb x k.toNat n b) ∧ sX A' A ∧ sY S' S ∧ Out M μ μ') ∧ (¬ adO n k → f_Mo_add M μ x (iz k) = some (0, μ)) := by
  unfold f_Mo_add f_Mo_add_22
  by_cases k1 : k < 1
  · refine ⟨fun q => absurd q.1 (by omega), fun q => ?_⟩
    rw [zi_1, if_pos ((iz_lt hk (iR_s (by omega) (by omega))).mpr k1)]
  · by_cases k4 : 4 < k
    · refine ⟨fun q => absurd q.2.1 (by omega), fun q => ?_⟩
      rw [zi_1, if_neg (fun q => k1 ((iz_lt hk (iR_s (by omega) (by omega))).mp q)), zi_4, if_pos ((iz_lt (iR_s (by omega) (by omega)) hk).mpr k4)]
    · have e5 : ∀ (p : Option (Int32 × mM)) (r : Option (Int32 × mM)), (if iz k < (1 : Int32) then p else if (4 : Int32) < iz k then p else r) = r := by
        intro p r
        rw [zi_1, if_neg (fun q => k1 ((iz_lt hk (iR_s (by omega) (by omega))).mp q)), zi_4, if_neg (fun q => k4 ((iz_lt (iR_s (by omega) (by omega)) hk).mp q))]
      rw [e5, (rb_S h).2.2.2, Option.bind_some, hb.1, nI_iz, zi_256, iz_sub]
      by_cases k6 : (n : Int) + k ≤ 256
      · refine ⟨fun q => ?_, fun q => absurd ⟨by omega, by omega, k6⟩ q⟩
        obtain ⟨m1, A1, S1, s1, r1, b1, x1, y1, o1⟩ := rb_addL (M := M) (L := L) x (fun μ => f_Mo_add_67 M μ) k.toNat 4096 n b μ A S (by omega) (by omega) (by omega) h hb
        rw [Int.toNat_of_nonneg (by omega)] at s1
        refine ⟨m1, A1, S1, ?_, r1, b1, x1, y1, o1⟩
        rw [if_pos ((iz_le (iR_s (by omega) (by omega)) (iR_s (by omega) (by omega))).mpr (by omega)), zi_1, iz_sub, s1]
        unfold f_Mo_add_67
        rw [zi_1]
      · refine ⟨fun q => absurd q.2.2 k6, fun q => ?_⟩
        rw [if_neg (fun q => k6 (by have := (iz_le (iR_s (by omega) (by omega)) (iR_s (by omega) (by omega))).mp q; omega))]
end BUF
