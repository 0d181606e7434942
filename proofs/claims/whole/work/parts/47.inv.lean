/-! Inverse and rising, of the class and of the reference. -/
def p2 : Nat → Int
  | 0 => 1
  | n + 1 => 2 * p2 n
def bt : Nat → Int
  | 0 => 0
  | n + 1 => p2 n
theorem p2_pos : ∀ n, 1 ≤ p2 n
  | 0 => by decide
  | n + 1 => by
    have := p2_pos n
    unfold p2
    omega
theorem bt_half (n : Nat) : (bt (n + 1)).tdiv 2 = bt n := by
  have h0 : 0 ≤ bt (n + 1) := by
    show 0 ≤ p2 n
    have := p2_pos n
    omega
  rw [Int.tdiv_eq_ediv_of_nonneg h0]
  cases n with
  | zero => decide
  | succ n =>
    show 2 * p2 n / 2 = p2 n
    omega
def ivz (f : Int → Int) (y : Int) : Nat → Int → Int
  | 0, x => x
  | n + 1, x => if f (x + p2 n - 1) < y then ivz f y n (x + p2 n) else ivz f y n x
theorem ivz_R (f : Int → Int) (y : Int) : ∀ (n : Nat) (x : Int), 0 ≤ x → x + p2 n ≤ 65536 → 0 ≤ ivz f y n x ∧ ivz f y n x ≤ 65535
  | 0, x, h0, h1 => ⟨h0, by unfold p2 at h1; unfold ivz; omega⟩
  | n + 1, x, h0, h1 => by
    have := p2_pos n
    unfold p2 at h1
    unfold ivz
    split
    · exact ivz_R f y n _ (by omega) (by omega)
    · exact ivz_R f y n _ h0 (by omega)
def cinv (g wn : Int) (wd : Int → Int) (y : Int) : Int := ivz (cval g wn wd) y 16 0
theorem cinv_R (g wn : Int) (wd : Int → Int) (y : Int) : 0 ≤ cinv g wn wd y ∧ cinv g wn wd y ≤ 65535 := ivz_R _ _ 16 0 (by omega) (by decide)
theorem cv_invL {μ : mM} {c : Nat} {g wn : Int} {wd : Int → Int} (h : CV μ c g wn wd) (hd : CD g wn wd) {y : Int} (hy : iR y) (kx : Int32 → Option Int32) : ∀ (n fu : Nat) (x : Int), n < fu → 0 ≤ x → x + p2 n ≤ 65536 → f_Curve_inverseAt_5 μ c kx fu (iz y) (iz x) (iz (bt n)) = kx (iz (ivz (cval g wn wd) y n x)) := by
  obtain ⟨ad, e1, e2, e3, e4, e5⟩ := cv_e h
  intro n
  induction n with
  | zero =>
    intro fu x hf hx0 hx
    obtain ⟨fu, rfl⟩ : ∃ m, fu = m + 1 := ⟨fu - 1, by omega⟩
    rw [f_Curve_inverseAt_5, zi_0, if_pos (show iz (bt 0) ≤ iz 0 by decide)]
    rfl
  | succ n ih =>
    intro fu x hf hx0 hx
    obtain ⟨fu, rfl⟩ : ∃ m, fu = m + 1 := ⟨fu - 1, by omega⟩
    have hp := p2_pos n
    have hx' : x + 2 * p2 n ≤ 65536 := hx
    have hb : bt (n + 1) = p2 n := rfl
    have hv := cval_R hd (x := x + p2 n - 1) (by omega) (by omega)
    have hh := bt_half n
    rw [hb] at hh
    rw [f_Curve_inverseAt_5, hb, zi_0, if_neg (fun q => by have := (iz_le (iR_s (by omega) (by omega)) (iR_s (by omega) (by omega))).mp q; omega), e1, Option.bind_some, zi_1, iz_add, iz_sub, cv_val h hd (by omega) (by omega), Option.bind_some]
    unfold f_Curve_inverseAt_26 ivz
    rw [zi_2, iz_div (iR_s (by omega) (by omega)) (iR_s (by omega) (by omega)) (by omega), hh]
    by_cases hc : cval g wn wd (x + p2 n - 1) < y
    · rw [if_neg (fun q => by have := (iz_le hy (iR_s (by omega) (by omega))).mp q; omega), if_pos hc, ih fu _ (by omega) (by omega) (by omega)]
    · rw [if_pos ((iz_le hy (iR_s (by omega) (by omega))).mpr (by omega)), if_neg hc, ih fu _ (by omega) hx0 (by omega)]
theorem cv_inv {μ : mM} {c : Nat} {g wn : Int} {wd : Int → Int} (h : CV μ c g wn wd) (hd : CD g wn wd) {y : Int} (hy : iR y) : f_Curve_inverseAt μ c (iz y) = some (iz (cinv g wn wd y)) := by
  unfold f_Curve_inverseAt
  rw [zi_0, show (32768 : Int32) = iz (bt 16) from rfl, cv_invL h hd hy _ 16 4096 0 (by omega) (by omega) (by decide)]
  rfl
def cib (b : Int → Int) (o y : Int) : Int := cinv (cg b o) (cn b o) (cw b o) y
theorem km_invL {μ : mM} {M : Nat} {K : Int → Int} (h : KR μ M K) {p s : Int} (hp : 0 ≤ p) (hp6 : p < 6) (hs : iR s) (h60 : bp K p 6 ≤ 60) (hE : EC (bp K p) (da (bp K p) s)) {y : Int} (hy : jR y) (kx : Int64 → Option Int64) : ∀ (n fu : Nat) (x : Int), n < fu → 0 ≤ x → x + p2 n ≤ 65536 → f_Mo_inverse_8 μ M kx fu (iz p) (iz s) (jz y) (jz x) (jz (bt n)) = kx (jz (ivz (cvb (bp K p) (da (bp K p) s)) y n x)) := by
  intro n
  induction n with
  | zero =>
    intro fu x hf hx0 hx
    obtain ⟨fu, rfl⟩ : ∃ m, fu = m + 1 := ⟨fu - 1, by omega⟩
    rw [f_Mo_inverse_8, zj_0, if_pos (show jz (bt 0) ≤ jz 0 by decide)]
    rfl
  | succ n ih =>
    intro fu x hf hx0 hx
    obtain ⟨fu, rfl⟩ : ∃ m, fu = m + 1 := ⟨fu - 1, by omega⟩
    have hp := p2_pos n
    have hx' : x + 2 * p2 n ≤ 65536 := hx
    have hb : bt (n + 1) = p2 n := rfl
    have hv := cvb_R hE (x := x + p2 n - 1) (by omega) (by omega)
    have hh := bt_half n
    rw [hb] at hh
    rw [f_Mo_inverse_8, hb, zj_0, if_neg (fun q => by have := (jz_le (jR_s (by omega) (by omega)) (jR_s (by omega) (by omega))).mp q; omega), h.1, Option.bind_some, zj_1, jz_add, jz_sub, km_val h (by assumption) hp6 hs h60 hE (by omega) (by omega), Option.bind_some]
    unfold f_Mo_inverse_47 ivz
    rw [zj_2, jz_div (jR_s (by omega) (by omega)) (jR_s (by omega) (by omega)) (by omega), hh]
    by_cases hc : cvb (bp K p) (da (bp K p) s) (x + p2 n - 1) < y
    · rw [if_neg (fun q => by have := (jz_le hy (jR_s (by omega) (by omega))).mp q; omega), if_pos hc, ih fu _ (by omega) (by omega) (by omega)]
    · rw [if_pos ((jz_le hy (jR_s (by omega) (by omega))).mpr (by omega)), if_neg hc, ih fu _ (by omega) hx0 (by omega)]
theorem km_inv {μ : mM} {M : Nat} {K : Int → Int} (h : KR μ M K) {p s : Int} (hp : 0 ≤ p) (hp6 : p < 6) (hs : iR s) (h60 : bp K p 6 ≤ 60) (hE : EC (bp K p) (da (bp K p) s)) {y : Int} (hy : jR y) : f_Mo_inverse μ M (iz p) (iz s) (jz y) = some (jz (cib (bp K p) (da (bp K p) s) y)) := by
  unfold f_Mo_inverse
  rw [zj_0, show (32768 : Int64) = jz (bt 16) from rfl, km_invL h hp hp6 hs h60 hE hy _ 16 4096 0 (by omega) (by omega) (by decide)]
  rfl
-- rising
def bI (b : Bool) : Int := if b then 1 else 0
def rsl (wd : Int → Int) : Nat → Int → Bool
  | 0, _ => true
  | n + 1, i => decide (wd (i - 1) < wd i) && rsl wd n (i + 1)
def rsz (g wn : Int) (wd : Int → Int) : Bool := if 0 < g then decide (wd 1 = 0 ∨ cz (nz (wd 0 * (wd 1 - 1)) 256) ≤ pwz (wd 1) (g - 1).toNat (wd 1)) else rsl wd (wn - 1).toNat 1
theorem mz_i {x : Int32} (h : x = 0 ∨ x = 1) : mz x = some x := by
  unfold mz
  rw [if_pos h]
theorem mz_0 : mz 0 = some 0 := mz_i (Or.inl rfl)
theorem mz_1 : mz 1 = some 1 := mz_i (Or.inr rfl)
theorem cv_risL {μ : mM} {c : Nat} {g wn : Int} {wd : Int → Int} (h : CV μ c g wn wd) (hd : CD g wn wd) : ∀ (n fu : Nat) (i : Int), n < fu → 1 ≤ i → (i + n = wn ∨ (n = 0 ∧ wn ≤ i ∧ i ≤ 100)) → f_Curve_isRising_49 μ c (fun (_ : Unit) => f_Curve_isRising_83 μ c) fu (iz i) = some (iz (bI (rsl wd n i))) := by
  obtain ⟨ad, e1, e2, e3, e4, e5⟩ := cv_e h
  have hw24 : 0 ≤ wn ∧ wn ≤ 24 := by
    obtain ⟨_, _, _, _, _, h4, h5⟩ := h
    exact ⟨h4, h5⟩
  intro n
  induction n with
  | zero =>
    intro fu i hf hi hw
    obtain ⟨fu, rfl⟩ : ∃ m, fu = m + 1 := ⟨fu - 1, by omega⟩
    rw [f_Curve_isRising_49, e3, Option.bind_some, e4, Option.bind_some, if_pos ((iz_le (iR_s (by omega) (by omega)) (iR_s (by omega) (by omega))).mpr (by omega))]
    rfl
  | succ n ih =>
    intro fu i hf hi hw
    obtain ⟨fu, rfl⟩ : ∃ m, fu = m + 1 := ⟨fu - 1, by omega⟩
    have w1 := hd.2.2.2.2 i (by omega) (by omega)
    have w2 := hd.2.2.2.2 (i - 1) (by omega) (by omega)
    rw [f_Curve_isRising_49]
    simp only [e3, Option.bind_some]
    rw [e4, Option.bind_some, if_neg (fun q => by have := (iz_le (iR_s (by omega) (by omega)) (iR_s (by omega) (by omega))).mp q; omega), e5 i (by omega) (by omega), Option.bind_some, zi_1, iz_sub, e5 (i - 1) (by omega) (by omega), Option.bind_some, iz_add]
    unfold rsl
    by_cases hc : wd (i - 1) < wd i
    · rw [if_pos ((iz_lt (iR_s (by omega) (by omega)) (iR_s (by omega) (by omega))).mpr hc), ih fu (i + 1) (by omega) (by omega) (by omega), decide_eq_true hc, Bool.true_and]
    · rw [if_neg (fun q => hc ((iz_lt (iR_s (by omega) (by omega)) (iR_s (by omega) (by omega))).mp q)), decide_eq_false hc, Bool.false_and]
      rfl
theorem cv_ris {μ : mM} {c : Nat} {g wn : Int} {wd : Int → Int} (h : CV μ c g wn wd) (hd : CD g wn wd) : f_Curve_isRising μ c = some (iz (bI (rsz g wn wd))) := by
  have hD := hd
  obtain ⟨ad, e1, e2, e3, e4, e5⟩ := cv_e h
  obtain ⟨d1, d2, d3, d4, d5⟩ := hd
  have hw24 : 0 ≤ wn ∧ wn ≤ 24 := by
    obtain ⟨_, _, _, _, _, h4, h5⟩ := h
    exact ⟨h4, h5⟩
  unfold f_Curve_isRising f_Curve_isRising_41 f_Curve_isRising_46 rsz
  simp only [e3, e1, Option.bind_some]
  rw [e2, Option.bind_some, zi_0, zi_1]
  by_cases hg : 0 < g
  · have hw := d3 hg
    have w1 := d5 1 (by omega) (by omega)
    rw [if_neg (fun q => by have := (iz_le (iR_s (by omega) (by omega)) (iR_s (by omega) (by omega))).mp q; omega), e5 1 (by omega) (by omega), if_pos hg]
    simp only [Option.bind_some]
    by_cases hz : wd 1 = 0
    · rw [hz, if_pos rfl, decide_eq_true (Or.inl rfl)]
      rfl
    · have hl := cz_R (nz (wd 0 * (wd 1 - 1)) 256)
      have hpw := pw_R w1.1 w1.2 (g - 1).toNat (wd 1) w1.1 w1.2
      rw [if_neg (fun q => hz ((iz_eq (iR_s (by omega) (by omega)) (iR_s (by omega) (by omega))).mp q)), iz_sub, cv_line h hD hg (by omega) (by omega), Option.bind_some, cv_pow h hg d2 w1.1 w1.2, Option.bind_some]
      by_cases hc : cz (nz (wd 0 * (wd 1 - 1)) 256) ≤ pwz (wd 1) (g - 1).toNat (wd 1)
      · rw [if_neg (fun q => by have := (iz_lt (iR_s (by omega) (by omega)) (iR_s (by omega) (by omega))).mp q; omega), decide_eq_true (Or.inr hc)]
        rfl
      · rw [if_pos ((iz_lt (iR_s (by omega) (by omega)) (iR_s (by omega) (by omega))).mpr (by omega)), decide_eq_false (by omega)]
        rfl
  · rw [if_pos ((iz_le (iR_s (by omega) (by omega)) (iR_s (by omega) (by omega))).mpr (by omega)), if_neg hg]
    exact cv_risL h hD (wn - 1).toNat 4096 1 (by omega) (by omega) (by omega)
def crb (b : Int → Int) (o : Int) : Bool := rsz (cg b o) (cn b o) (cw b o)
theorem km_risL {μ : mM} {M : Nat} {K : Int → Int} (h : KR μ M K) {p o : Int} (hp : 0 ≤ p) (hp6 : p < 6) (ho : 0 ≤ o) {N : Int} (hN : bp K p (o + 1) = N) (hN2 : N ≤ 24) (hb : o + 2 + 2 * N ≤ 256) : ∀ (n fu : Nat) (i : Int) (u : Bool), n < fu → 1 ≤ i → (i + n = N ∨ (n = 0 ∧ N ≤ i ∧ i ≤ 100)) → f_Mo_rising_23 μ M (fun y4 => f_Mo_rising_81 μ M y4) fu (iz p) (iz o) (iz (bI u)) (iz i) = some (iz (bI (u && rsl (cw (bp K p) o) n i))) := by
  have hN0 := bp_R h p (o + 1)
  intro n
  induction n with
  | zero =>
    intro fu i u hf hi hw
    obtain ⟨fu, rfl⟩ : ∃ m, fu = m + 1 := ⟨fu - 1, by omega⟩
    rw [f_Mo_rising_23, h.1, Option.bind_some, zi_1, iz_add, km_part h hp hp6 (by omega) (by omega), Option.bind_some, hN, if_pos ((iz_le (iR_s (by omega) (by omega)) (iR_s (by omega) (by omega))).mpr (by omega))]
    cases u <;> rfl
  | succ n ih =>
    intro fu i u hf hi hw
    obtain ⟨fu, rfl⟩ : ∃ m, fu = m + 1 := ⟨fu - 1, by omega⟩
    have w1 := wz_R h p (o + 2 + 2 * i)
    have w2 := wz_R h p (o + 2 * i)
    have e1 : wz (bp K p) (o + 2 + 2 * i) = cw (bp K p) o i := rfl
    have e2 : wz (bp K p) (o + 2 * i) = cw (bp K p) o (i - 1) := by unfold cw; congr 1; omega
    rw [f_Mo_rising_23]
    simp only [h.1, Option.bind_some]
    unfold f_Mo_rising_72 f_Mo_rising_73
    rw [zi_1, iz_add, km_part h hp hp6 (by omega) (by omega), Option.bind_some, hN, if_neg (fun q => by have := (iz_le (iR_s (by omega) (by omega)) (iR_s (by omega) (by omega))).mp q; omega), zi_2, zi_0, iz_mul, iz_add, iz_add, iz_add, iz_add]
    cases u with
    | false =>
      rw [if_pos (by decide)]
      exact ih fu (i + 1) false (by omega) (by omega) (by omega)
    | true =>
      rw [if_neg (by decide), km_word h hp hp6 (by omega) (by omega), Option.bind_some, km_word h hp hp6 (by omega) (by omega), Option.bind_some, Bool.true_and]
      unfold rsl
      rw [e1] at w1 ⊢
      rw [e2] at w2 ⊢
      by_cases hc : cw (bp K p) o (i - 1) < cw (bp K p) o i
      · rw [if_neg (fun q => by have := (iz_le (iR_s (by omega) (by omega)) (iR_s (by omega) (by omega))).mp q; omega), decide_eq_true hc]
        exact ih fu (i + 1) true (by omega) (by omega) (by omega)
      · rw [if_pos ((iz_le (iR_s (by omega) (by omega)) (iR_s (by omega) (by omega))).mpr (by omega)), decide_eq_false hc]
        exact ih fu (i + 1) false (by omega) (by omega) (by omega)
theorem km_ris {μ : mM} {M : Nat} {K : Int → Int} (h : KR μ M K) {p s : Int} (hp : 0 ≤ p) (hp6 : p < 6) (hs : iR s) (h60 : bp K p 6 ≤ 60) (hE : EC (bp K p) (da (bp K p) s)) : f_Mo_rising μ M (iz p) (iz s) = some (iz (bI (crb (bp K p) (da (bp K p) s)))) := by
  have hE' := hE
  unfold f_Mo_rising
  simp only [h.1, Option.bind_some]
  rw [km_data h hp hp6 hs h60, Option.bind_some]
  have hv := fun x h0 h1 => km_val h (x := x) hp hp6 hs h60 hE h0 h1
  have hvr := fun x h0 h1 => cvb_R (x := x) hE h0 h1
  generalize da (bp K p) s = o at hE hv hvr ⊢
  obtain ⟨o0, ty, ⟨d1, d2, d3, d4, d5⟩, ob⟩ := hE
  have hb1 := bp_R h p (o + 1)
  have hcn : 0 ≤ cn (bp K p) o := by
    unfold cn
    split <;> omega
  rw [km_part h hp hp6 o0 (by omega), Option.bind_some, zi_1]
  unfold crb rsz
  by_cases ht : bp K p o = 1
  · have eg : cg (bp K p) o = 0 := by unfold cg; rw [if_pos ht]
    have en' : cn (bp K p) o = bp K p (o + 1) := by unfold cn; rw [if_pos ht]
    rw [en'] at d4 d5 ob
    have := d4 eg
    rw [ht, if_pos rfl, eg, en', if_neg (by omega : ¬ (0 : Int) < 0)]
    exact km_risL h hp hp6 o0 rfl (by omega) ob (bp K p (o + 1) - 1).toNat 4096 1 true (by omega) (by omega) (by omega)
  · have ht2 : bp K p o = 2 := by omega
    have eg : cg (bp K p) o = bp K p (o + 1) := by unfold cg; rw [if_neg ht]
    have en' : cn (bp K p) o = 2 := by unfold cn; rw [if_neg ht]
    rw [en'] at d5 ob
    have hg : 0 < bp K p (o + 1) := by omega
    have w0 := d5 0 (by omega) (by omega)
    have w1 := d5 1 (by omega) (by omega)
    have e4 : wz (bp K p) (o + 4) = cw (bp K p) o 1 := by unfold cw; congr 1; omega
    unfold f_Mo_rising_124 f_Mo_rising_129
    rw [if_neg (fun q => by have := (iz_eq (iR_s (by omega) (by omega)) (iR_s (by omega) (by omega))).mp q; omega), zi_4, iz_add, km_word h hp hp6 (by omega) (by omega), Option.bind_some, e4, iz_j (iR_s (by omega) (by omega)), zj_0, zj_1, jz_sub, eg, if_pos hg]
    by_cases hz : cw (bp K p) o 1 = 0
    · rw [hz, if_pos rfl, decide_eq_true (Or.inl rfl)]
      rfl
    · have q1 := hv (cw (bp K p) o 1 - 1) (by omega) (by omega)
      have q2 := hv (cw (bp K p) o 1) w1.1 w1.2
      have r1 := hvr (cw (bp K p) o 1 - 1) (by omega) (by omega)
      have r2 := hvr (cw (bp K p) o 1) w1.1 w1.2
      have c1 : cvb (bp K p) o (cw (bp K p) o 1 - 1) = cz (nz (cw (bp K p) o 0 * (cw (bp K p) o 1 - 1)) 256) := by
        unfold cvb cval
        rw [eg, if_pos hg, if_pos (by omega)]
      have c2 : cvb (bp K p) o (cw (bp K p) o 1) = pwz (cw (bp K p) o 1) (bp K p (o + 1) - 1).toNat (cw (bp K p) o 1) := by
        unfold cvb cval
        rw [eg, if_pos hg, if_neg (by omega)]
      rw [if_neg (fun q => hz ((jz_eq (jR_s (by omega) (by omega)) (jR_s (by omega) (by omega))).mp q)), q1, Option.bind_some, q2, Option.bind_some, ← c1, ← c2]
      by_cases hc : cvb (bp K p) o (cw (bp K p) o 1 - 1) ≤ cvb (bp K p) o (cw (bp K p) o 1)
      · rw [if_neg (fun q => by have := (jz_lt (jR_s (by omega) (by omega)) (jR_s (by omega) (by omega))).mp q; omega), decide_eq_true (Or.inr hc)]
        rfl
      · rw [if_pos ((jz_lt (jR_s (by omega) (by omega)) (jR_s (by omega) (by omega))).mpr (by omega)), decide_eq_false (by omega)]
        rfl
