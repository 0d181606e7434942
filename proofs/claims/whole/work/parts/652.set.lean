/-! set, clear, size, at: both sides. -/
abbrev seO (n : Nat) (p v : Int) : Prop := (0 ≤ p ∧ p < n) ∧ 0 ≤ v ∧ v ≤ 255
section SET
variable {μ : mM} {M X : Nat} {A : Nat → Nat → Int32} {S : Nat → Int32} {L : Nat → Int64}
theorem set_tree {α : Type} {n : Nat} (hn : n ≤ 256) {p v : Int} (hp : iR p) (hv : iR v) (e u : α) : (if iz p < 0 then e else if nI n ≤ iz p then e else if iz v < 0 then e else if iz v ≤ (255 : Int32) then u else e) = if seO n p v then u else e := by
  rw [zi_0, zi_255, nI_iz]
  by_cases h1 : p < 0
  · rw [if_pos ((iz_lt hp (iR_s (by omega) (by omega))).mpr h1), if_neg (show ¬ seO n p v by omega)]
  · rw [if_neg (fun q => h1 ((iz_lt hp (iR_s (by omega) (by omega))).mp q))]
    by_cases h2 : (n : Int) ≤ p
    · rw [if_pos ((iz_le (iR_s (by omega) (by omega)) hp).mpr h2), if_neg (show ¬ seO n p v by omega)]
    · rw [if_neg (fun q => h2 ((iz_le (iR_s (by omega) (by omega)) hp).mp q))]
      by_cases h3 : v < 0
      · rw [if_pos ((iz_lt hv (iR_s (by omega) (by omega))).mpr h3), if_neg (show ¬ seO n p v by omega)]
      · rw [if_neg (fun q => h3 ((iz_lt hv (iR_s (by omega) (by omega))).mp q))]
        by_cases h4 : v ≤ 255
        · rw [if_pos ((iz_le hv (iR_s (by omega) (by omega))).mpr h4), if_pos (show seO n p v by omega)]
        · rw [if_neg (fun q => h4 ((iz_le hv (iR_s (by omega) (by omega))).mp q)), if_neg (show ¬ seO n p v by omega)]
theorem cl_set {kc mc cc pr : Int32} (hx : μ X = some (.inr (10, xF X kc mc cc pr))) {n : Nat} {b : Int → Int} (h : BU μ X n b) (hn : n ≤ 256) {p v : Int} (hp : iR p) (hv : iR v) : (seO n p v → ∃ μ', f_CL_set X μ (iz p) (iz v) = some (1, μ') ∧ BU μ' X n (zu b p v) ∧ ∀ c, c ≠ X + 2 → μ' c = μ c) ∧ (¬ seO n p v → f_CL_set X μ (iz p) (iz v) = some (0, μ)) := by
  obtain ⟨e1, e2, e3⟩ := bu_e h
  unfold f_CL_set
  rw [(xf_e hx).2.1, Option.bind_some, e1, Option.bind_some]
  unfold f_Buffer_replace f_Buffer_replace_23
  rw [e3, Option.bind_some, set_tree hn hp hv]
  refine ⟨fun q => ?_, fun q => ?_⟩
  · obtain ⟨m1, s1, b1, -, o1⟩ := bu_s h (i := p) q.1.1 (by omega) v
    refine ⟨m1, ?_, b1, o1⟩
    rw [if_pos q, e2, Option.bind_some, s1, Option.bind_some, Option.bind_some, mz_1, Option.bind_some]
  · rw [if_neg q, Option.bind_some, mz_0, Option.bind_some]
theorem rb_set (h : RB μ M A S L) {n : Nat} {b : Int → Int} (hb : BA A S n b) (hn : n ≤ 256) {p v : Int} (hp : iR p) (hv : iR v) : (seO n p v → ∃ μ' A', f_Mo_set M μ (iz p) (iz v) = some (1, μ') ∧ RB μ' M A' S L ∧ BA A' S n (zu b p v) ∧ sX A' A ∧ Out M μ μ') ∧ (¬ seO n p v → f_Mo_set M μ (iz p) (iz v) = some (0, μ)) := by
  unfold f_Mo_set f_Mo_set_23
  rw [(rb_S h).2.2.2, Option.bind_some, hb.1, set_tree hn hp hv]
  refine ⟨fun q => ?_, fun q => ?_⟩
  · obtain ⟨m1, s1, r1, o1⟩ := rb_s0 h (i := p.toNat) (by omega) (iz v)
    refine ⟨m1, _, ?_, r1, ⟨hb.1, fun i hi => ?_⟩, sX.up _, o1⟩
    · rw [if_pos q, (rb_f0 h).1, Option.bind_some, iz_nat q.1.1, s1, Option.bind_some]
    · unfold va_up upd zu
      rw [if_pos rfl]
      by_cases e : i = p.toNat
      · rw [if_pos e, if_pos (by omega)]
      · rw [if_neg e, if_neg (by omega), hb.2 i hi]
  · rw [if_neg q]
theorem cl_clear {kc mc cc pr : Int32} (hx : μ X = some (.inr (10, xF X kc mc cc pr))) {n : Nat} {b : Int → Int} (h : BU μ X n b) : ∃ μ', f_CL_clear X μ = some μ' ∧ BU μ' X 0 b ∧ ∀ c, c ≠ X + 1 → μ' c = μ c := by
  obtain ⟨f, h2, -⟩ := h.2
  obtain ⟨m1, s1, b1, o1⟩ := bu_n h (m := 0) (b' := b) ⟨f, h2, fun j hj => absurd hj (by omega)⟩
  refine ⟨m1, ?_, b1, o1⟩
  unfold f_CL_clear
  rw [(xf_e hx).2.1, Option.bind_some]
  change (mpI μ (some (X + 1)) [1] 1 (nI 0)).bind _ = _
  rw [s1, Option.bind_some]
theorem rb_clear (h : RB μ M A S L) (b : Int → Int) : ∃ μ' S', f_Mo_clear M μ = some μ' ∧ RB μ' M A S' L ∧ BA A S' 0 b ∧ sY S' S ∧ Out M μ μ' := by
  obtain ⟨m1, s1, r1, o1⟩ := rb_w1 h (nI 0)
  refine ⟨m1, _, ?_, r1, ⟨by simp [va_up], fun i hi => absurd hi (by omega)⟩, sY.up _, o1⟩
  unfold f_Mo_clear
  change (mpI μ (some M) [11] 1 (nI 0)).bind _ = _
  rw [s1, Option.bind_some]
theorem cl_size {kc mc cc pr : Int32} (hx : μ X = some (.inr (10, xF X kc mc cc pr))) {n : Nat} {b : Int → Int} (h : BU μ X n b) : f_CL_size μ X = some (nI n) := by
  unfold f_CL_size
  rw [(xf_e hx).2.1, Option.bind_some, (bu_e h).2.2, Option.bind_some]
theorem rb_size (h : RB μ M A S L) {n : Nat} {b : Int → Int} (hb : BA A S n b) : f_Mo_size μ M = some (nI n) := by
  unfold f_Mo_size
  rw [(rb_S h).2.2.2, Option.bind_some, hb.1]
def atz (n : Nat) (b : Int → Int) (p : Int) : Int := if 0 ≤ p ∧ p < n then b p else -1
theorem cl_at {kc mc cc pr : Int32} (hx : μ X = some (.inr (10, xF X kc mc cc pr))) {n : Nat} {b : Int → Int} (h : BU μ X n b) (hn : n ≤ 256) {p : Int} (hp : iR p) : f_CL_at μ X (iz p) = some (iz (atz n b p)) := by
  obtain ⟨e1, e2, e3⟩ := bu_e h
  unfold f_CL_at
  rw [(xf_e hx).2.1, Option.bind_some, e1, Option.bind_some]
  unfold f_Buffer_byteAt f_Buffer_byteAt_21 f_Buffer_byteAt_22 atz
  by_cases h1 : p < 0
  · rw [zi_m1, zi_0, if_pos ((iz_lt hp (iR_s (by omega) (by omega))).mpr h1), if_neg (by omega), Option.bind_some]
  · rw [zi_m1, zi_0, if_neg (fun q => h1 ((iz_lt hp (iR_s (by omega) (by omega))).mp q)), e3, Option.bind_some, nI_iz]
    by_cases h2 : (n : Int) ≤ p
    · rw [if_pos ((iz_le (iR_s (by omega) (by omega)) hp).mpr h2), if_neg (by omega), Option.bind_some]
    · rw [if_neg (fun q => h2 ((iz_le (iR_s (by omega) (by omega)) hp).mp q)), e2, Option.bind_some, bu_g h hn (by omega) (by omega), Option.bind_some, if_pos (by omega), Option.bind_some]
theorem rb_at (h : RB μ M A S L) {n : Nat} {b : Int → Int} (hb : BA A S n b) (hn : n ≤ 256) {p : Int} (hp : iR p) : f_Mo_at μ M (iz p) = some (iz (atz n b p)) := by
  unfold f_Mo_at f_Mo_at_12 f_Mo_at_22 atz
  by_cases h1 : p < 0
  · rw [zi_m1, zi_0, if_pos ((iz_lt hp (iR_s (by omega) (by omega))).mpr h1), if_neg (by omega)]
  · rw [zi_m1, zi_0, if_neg (fun q => h1 ((iz_lt hp (iR_s (by omega) (by omega))).mp q)), (rb_S h).2.2.2, Option.bind_some, hb.1, nI_iz]
    by_cases h2 : p < n
    · rw [if_pos ((iz_lt hp (iR_s (by omega) (by omega))).mpr h2), (rb_f0 h).1, Option.bind_some, rb_g0 h hb (by omega) (by omega) hn, Option.bind_some, if_pos (by omega)]
    · rw [if_neg (fun q => h2 ((iz_lt hp (iR_s (by omega) (by omega))).mp q)), if_neg (by omega)]
end SET
