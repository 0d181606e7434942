/-! The reference's kept bytes, entries, curves. -/
def KR (μ : mM) (M : Nat) (K : Int → Int) : Prop := mrc μ (some M) 11 = some M ∧ mfA μ (some M) [11] 2 = some (some (M + 2)) ∧ (∀ i : Int, 0 ≤ i → i < 1536 → mgI μ (some (M + 2)) (iz i) = some (iz (K i))) ∧ ∀ i, 0 ≤ K i ∧ K i < 256
def bp (K : Int → Int) (p : Int) : Int → Int := fun i => if 0 ≤ i ∧ i < 256 then K (256 * p + i) else 0
theorem bp_i {K : Int → Int} {p i : Int} (h0 : 0 ≤ i) (h1 : i < 256) : bp K p i = K (256 * p + i) := if_pos ⟨h0, h1⟩
def wz (b : Int → Int) (i : Int) : Int := 256 * b i + b (i + 1)
theorem bp_R {μ : mM} {M : Nat} {K : Int → Int} (h : KR μ M K) (p i : Int) : 0 ≤ bp K p i ∧ bp K p i < 256 := by
  unfold bp
  split
  · exact h.2.2.2 _
  · omega
theorem wz_R {μ : mM} {M : Nat} {K : Int → Int} (h : KR μ M K) (p i : Int) : 0 ≤ wz (bp K p) i ∧ wz (bp K p) i ≤ 65535 := by
  have h1 := bp_R h p i
  have h2 := bp_R h p (i + 1)
  unfold wz
  omega
theorem km_part {μ : mM} {M : Nat} {K : Int → Int} (h : KR μ M K) {p a : Int} (hp : 0 ≤ p) (hp6 : p < 6) (ha : 0 ≤ a) (ha2 : a < 256) : f_Mo_part μ M (iz p) (iz a) = some (iz (bp K p a)) := by
  unfold f_Mo_part
  rw [h.2.1, Option.bind_some, zi_256, iz_mul, iz_add, h.2.2.1 _ (by omega) (by omega), bp_i ha ha2]
  rfl
theorem km_word {μ : mM} {M : Nat} {K : Int → Int} (h : KR μ M K) {p a : Int} (hp : 0 ≤ p) (hp6 : p < 6) (ha : 0 ≤ a) (ha2 : a + 1 < 256) : f_Mo_word μ M (iz p) (iz a) = some (iz (wz (bp K p) a)) := by
  unfold f_Mo_word
  rw [h.2.1, Option.bind_some, zi_256, iz_mul, iz_add, h.2.2.1 _ (by omega) (by omega), Option.bind_some, Option.bind_some, zi_1, iz_add, h.2.2.1 _ (by omega) (by omega), Option.bind_some, iz_mul, iz_add]
  unfold wz
  rw [bp_i ha (by omega), bp_i (by omega) ha2, Int.add_assoc]
def enz (b : Int → Int) (s : Int) : Nat → Int → Int
  | 0, _ => -1
  | n + 1, k => if b (8 + 4 * k) = s then 8 + 4 * k else enz b s n (k + 1)
def en (b : Int → Int) (s : Int) : Int := enz b s (b 6).toNat 0
def da (b : Int → Int) (s : Int) : Int := if en b s < 0 then -1 else b (en b s + 1)
theorem enz_R {b : Int → Int} {s : Int} : ∀ (n : Nat) (k : Int), 0 ≤ k → enz b s n k = -1 ∨ ∃ j, k ≤ j ∧ j < k + n ∧ enz b s n k = 8 + 4 * j ∧ b (8 + 4 * j) = s
  | 0, k, hk => Or.inl rfl
  | n + 1, k, hk => by
    unfold enz
    split
    · rename_i h
      exact Or.inr ⟨k, by omega, by omega, rfl, h⟩
    · rcases enz_R (b := b) (s := s) n (k + 1) (by omega) with h | ⟨j, h1, h2, h3, h4⟩
      · exact Or.inl h
      · exact Or.inr ⟨j, by omega, by omega, h3, h4⟩
theorem en_R {b : Int → Int} {s : Int} (h6 : 0 ≤ b 6) : en b s = -1 ∨ ∃ j, 0 ≤ j ∧ j < b 6 ∧ en b s = 8 + 4 * j ∧ b (8 + 4 * j) = s := by
  rcases enz_R (b := b) (s := s) (b 6).toNat 0 (by omega) with h | ⟨j, h1, h2, h3, h4⟩
  · exact Or.inl h
  · exact Or.inr ⟨j, h1, by omega, h3, h4⟩
theorem km_entL {μ : mM} {M : Nat} {K : Int → Int} (h : KR μ M K) {p s : Int} (hp : 0 ≤ p) (hp6 : p < 6) (hs : iR s) : ∀ (n fu : Nat) (k N : Int), n < fu → 0 ≤ k → k + n = N → N ≤ 60 → f_Mo_entry_11 μ M (fun (_ : Unit) => f_Mo_entry_53 μ M) fu (iz p) (iz s) (iz N) (iz k) = some (iz (enz (bp K p) s n k)) := by
  intro n
  induction n with
  | zero =>
    intro fu k N hf hk hN h60
    obtain ⟨fu, rfl⟩ : ∃ m, fu = m + 1 := ⟨fu - 1, by omega⟩
    rw [f_Mo_entry_11, if_pos ((iz_le (iR_s (by omega) (by omega)) (iR_s (by omega) (by omega))).mpr (by omega))]
    rfl
  | succ n ih =>
    intro fu k N hf hk hN h60
    obtain ⟨fu, rfl⟩ : ∃ m, fu = m + 1 := ⟨fu - 1, by omega⟩
    have hb := bp_R h p (8 + 4 * k)
    have e1 : K (256 * p + 8 + 4 * k) = bp K p (8 + 4 * k) := by rw [bp_i (by omega) (by omega)]; congr 1; omega
    rw [f_Mo_entry_11, if_neg (fun q => by have := (iz_le (iR_s (by omega) (by omega)) (iR_s (by omega) (by omega))).mp q; omega), h.2.1, Option.bind_some, zi_256, zi_8, zi_4, zi_1, iz_mul, iz_add, iz_mul, iz_add, h.2.2.1 _ (by omega) (by omega), Option.bind_some, iz_add, iz_add, e1]
    unfold enz
    by_cases hc : bp K p (8 + 4 * k) = s
    · rw [if_pos hc, if_pos (congrArg iz hc)]
    · rw [if_neg hc, if_neg (fun q => hc ((iz_eq (iR_s (by omega) (by omega)) hs).mp q)), ih fu (k + 1) N (by omega) (by omega) (by omega) h60]
theorem km_entry {μ : mM} {M : Nat} {K : Int → Int} (h : KR μ M K) {p s : Int} (hp : 0 ≤ p) (hp6 : p < 6) (hs : iR s) (h60 : bp K p 6 ≤ 60) : f_Mo_entry μ M (iz p) (iz s) = some (iz (en (bp K p) s)) := by
  have h6 := bp_R h p 6
  unfold f_Mo_entry
  rw [h.1, Option.bind_some, zi_6, km_part h hp hp6 (by omega) (by omega), Option.bind_some, zi_0, km_entL h hp hp6 hs (bp K p 6).toNat 4096 0 _ (by omega) (by omega) (by omega) h60]
  rfl
theorem en_256 {μ : mM} {M : Nat} {K : Int → Int} (h : KR μ M K) {p s : Int} (h60 : bp K p 6 ≤ 60) : en (bp K p) s = -1 ∨ (8 ≤ en (bp K p) s ∧ en (bp K p) s ≤ 244) := by
  rcases en_R (b := bp K p) (s := s) (bp_R h p 6).1 with h1 | ⟨j, h1, h2, h3, -⟩
  · exact Or.inl h1
  · exact Or.inr (by omega)
theorem km_data {μ : mM} {M : Nat} {K : Int → Int} (h : KR μ M K) {p s : Int} (hp : 0 ≤ p) (hp6 : p < 6) (hs : iR s) (h60 : bp K p 6 ≤ 60) : f_Mo_data μ M (iz p) (iz s) = some (iz (da (bp K p) s)) := by
  unfold f_Mo_data f_Mo_data_23 da
  simp only [h.1, Option.bind_some]
  rw [km_entry h hp hp6 hs h60, Option.bind_some, zi_0, zi_m1, zi_1, iz_add]
  rcases en_256 h (p := p) (s := s) h60 with h1 | h1
  · rw [if_neg (fun q => by have := (iz_le (iR_s (by omega) (by omega)) (iR_s (by omega) (by omega))).mp q; omega), if_pos (by omega)]
  · rw [if_pos ((iz_le (iR_s (by omega) (by omega)) (iR_s (by omega) (by omega))).mpr (by omega)), if_neg (by omega), km_part h hp hp6 (by omega) (by omega)]
    rfl
def cg (b : Int → Int) (o : Int) : Int := if b o = 1 then 0 else b (o + 1)
def cn (b : Int → Int) (o : Int) : Int := if b o = 1 then b (o + 1) else 2
def cw (b : Int → Int) (o : Int) : Int → Int := fun i => wz b (o + 2 + 2 * i)
def EC (b : Int → Int) (o : Int) : Prop := 0 ≤ o ∧ (b o = 1 ∨ (b o = 2 ∧ 1 ≤ b (o + 1))) ∧ CD (cg b o) (cn b o) (cw b o) ∧ o + 2 + 2 * cn b o ≤ 256
def cvb (b : Int → Int) (o x : Int) : Int := cval (cg b o) (cn b o) (cw b o) x
theorem cvb_R {b : Int → Int} {o x : Int} (h : EC b o) (h0 : 0 ≤ x) (h1 : x ≤ 65535) : 0 ≤ cvb b o x ∧ cvb b o x ≤ 65535 := cval_R h.2.2.1 h0 h1
theorem km_powL {μ : mM} {M : Nat} {x : Int} (h0 : 0 ≤ x) (h1 : x ≤ 65535) (kx : Int64 → Option Int64) : ∀ (n : Nat) (fu : Nat) (v k g : Int), n < fu → 0 ≤ v → v ≤ 65535 → 1 ≤ k → k + n = g → g ≤ 4 → f_Mo_value_177 μ M kx fu (jz x) (iz g) (jz v) (iz k) = kx (jz (pwz x n v)) := by
  intro n
  induction n with
  | zero =>
    intro fu v k g hf hv0 hv1 hk1 hk hg
    obtain ⟨fu, rfl⟩ : ∃ m, fu = m + 1 := ⟨fu - 1, by omega⟩
    rw [f_Mo_value_177, if_pos ((iz_le (iR_s (by omega) (by omega)) (iR_s (by omega) (by omega))).mpr (by omega))]
    rfl
  | succ n ih =>
    intro fu v k g hf hv0 hv1 hk1 hk hg
    obtain ⟨fu, rfl⟩ : ∃ m, fu = m + 1 := ⟨fu - 1, by omega⟩
    have hb := (nz_btw (d := v) h0 h1).1 hv0
    have hm : 0 ≤ v * x := Int.mul_nonneg hv0 h0
    have hm2 : v * x ≤ 65535 * 65535 := Int.mul_le_mul hv1 h1 h0 (by omega)
    rw [f_Mo_value_177, if_neg (fun q => by have := (iz_le (iR_s (by omega) (by omega)) (iR_s (by omega) (by omega))).mp q; omega), jz_mul, zj_65535, mo_near ⟨by omega, by omega, by omega, by omega⟩, Option.bind_some, zi_1, iz_add, ih fu _ (k + 1) g (by omega) hb.1 (by omega) (by omega) (by omega) hg]
    rfl
theorem km_val {μ : mM} {M : Nat} {K : Int → Int} (h : KR μ M K) {p s x : Int} (hp : 0 ≤ p) (hp6 : p < 6) (hs : iR s) (h60 : bp K p 6 ≤ 60) (hE : EC (bp K p) (da (bp K p) s)) (h0 : 0 ≤ x) (h1 : x ≤ 65535) : f_Mo_value μ M (iz p) (iz s) (jz x) = some (jz (cvb (bp K p) (da (bp K p) s) x)) := by
  generalize ho : da (bp K p) s = o at hE ⊢
  obtain ⟨o0, ty, hcd, ob⟩ := hE
  have hb0 := bp_R h p o
  have hb1 := bp_R h p (o + 1)
  obtain ⟨d1, d2, d3, d4, d5⟩ := hcd
  unfold f_Mo_value
  simp only [h.1, Option.bind_some]
  rw [km_data h hp hp6 hs h60, ho, Option.bind_some]
  unfold cvb cval
  by_cases ht : bp K p o = 1
  · have eg : cg (bp K p) o = 0 := by unfold cg; rw [if_pos ht]
    have en' : cn (bp K p) o = bp K p (o + 1) := by unfold cn; rw [if_pos ht]
    have d4' := d4 eg
    rw [en'] at d4' d5 ob
    rw [eg, en', zi_1, iz_add, km_part h hp hp6 (by omega) (by omega), Option.bind_some, km_part h hp hp6 o0 (by omega), Option.bind_some, ht, if_pos rfl, if_neg (by omega : ¬ (0 : Int) < 0)]
    generalize hN : bp K p (o + 1) = N at *
    by_cases hz : N = 0
    · rw [hz, zi_0, if_pos rfl, if_pos (by omega)]
    · have hN2 : 2 ≤ N ∧ N ≤ 24 := by omega
      obtain ⟨a, b, q1, q2⟩ := smi_R hN2.1 h0 h1
      have hq : 0 ≤ x * (N - 1) := Int.mul_nonneg h0 (by omega)
      have hq2 : x * (N - 1) ≤ 65535 * (N - 1) := Int.mul_le_mul_of_nonneg_right h1 (by omega)
      have ed : (x * (N - 1)).tdiv 65535 = x * (N - 1) / 65535 := Int.tdiv_eq_ediv_of_nonneg hq
      have w1 := d5 (smi N x) a (by omega)
      have w2 := d5 (smi N x + 1) (by omega) (by omega)
      have key : f_Mo_value_75 μ M (iz p) (iz o) (jz (x * (N - 1))) (iz (smi N x)) = some (jz (smp N (cw (bp K p) o) x)) := by
        have hp1 : -65535 * 65535 ≤ (cw (bp K p) o (smi N x + 1) - cw (bp K p) o (smi N x)) * (x * (N - 1) - 65535 * smi N x) ∧ (cw (bp K p) o (smi N x + 1) - cw (bp K p) o (smi N x)) * (x * (N - 1) - 65535 * smi N x) ≤ 65535 * 65535 := by
          generalize hD : cw (bp K p) o (smi N x + 1) - cw (bp K p) o (smi N x) = d
          generalize hF : x * (N - 1) - 65535 * smi N x = f at q1 q2 ⊢
          by_cases hs : 0 ≤ d
          · have g1 := Int.mul_nonneg hs q1
            have g2 : d * f ≤ 65535 * 65535 := Int.mul_le_mul (by omega) q2 q1 (by omega)
            omega
          · have g1 := Int.mul_nonneg (by omega : 0 ≤ -d) q1
            have g2 : -d * f ≤ 65535 * 65535 := Int.mul_le_mul (by omega) q2 q1 (by omega)
            rw [Int.neg_mul] at g1 g2
            omega
        have e4 : wz (bp K p) (o + 4 + 2 * smi N x) = cw (bp K p) o (smi N x + 1) := by unfold cw; congr 1; omega
        have e2 : wz (bp K p) (o + 2 + 2 * smi N x) = cw (bp K p) o (smi N x) := rfl
        unfold f_Mo_value_75
        simp only [h.1, Option.bind_some]
        rw [zi_2, zi_4, iz_add, iz_mul, iz_add, iz_add, iz_add, km_word h hp hp6 (by omega) (by omega), km_word h hp hp6 (by omega) (by omega), Option.bind_some, Option.bind_some, e2, e4, iz_j (iR_s (by omega) (by omega)), iz_j (iR_s (by omega) (by omega)), iz_j (iR_s (by omega) (by omega)), jz_sub, zj_65535, jz_mul, jz_sub, jz_mul, mo_near ⟨by omega, by omega, by omega, by omega⟩, Option.bind_some, jz_add]
        rfl
      rw [if_neg (by omega : ¬ N < 2), zi_0, if_neg (fun q => hz ((iz_eq (iR_s (by omega) (by omega)) (iR_s (by omega) (by omega))).mp q)), zi_2, iz_sub, iz_sub, iz_j (iR_s (by omega) (by omega)), iz_j (iR_s (by omega) (by omega)), jz_mul, zj_65535, jz_div (jR_s (by omega) (by omega)) (jR_s (by omega) (by omega)) (by omega), ed, jz_i]
      have hsm : smi N x = if x * (N - 1) / 65535 < N - 2 then x * (N - 1) / 65535 else N - 2 := rfl
      by_cases hc : x * (N - 1) / 65535 < N - 2
      · rw [if_pos hc] at hsm
        rw [if_neg (fun q => by have := (jz_le (jR_s (by omega) (by omega)) (jR_s (by omega) (by omega))).mp q; omega), ← hsm, key]
      · rw [if_neg hc] at hsm
        rw [if_pos ((jz_le (jR_s (by omega) (by omega)) (jR_s (by omega) (by omega))).mpr (by omega)), ← hsm, key]
  · have ht2 : bp K p o = 2 := by omega
    have eg : cg (bp K p) o = bp K p (o + 1) := by unfold cg; rw [if_neg ht]
    have en' : cn (bp K p) o = 2 := by unfold cn; rw [if_neg ht]
    rw [eg] at d1 d2 d3 d4
    rw [en'] at d4 d5 ob
    have hg : 0 < bp K p (o + 1) := by omega
    have w0 := d5 0 (by omega) (by omega)
    have w1 := d5 1 (by omega) (by omega)
    have e4 : wz (bp K p) (o + 4) = cw (bp K p) o 1 := by unfold cw; congr 1; omega
    have e2 : wz (bp K p) (o + 2) = cw (bp K p) o 0 := by unfold cw; congr 1; omega
    have hm : 0 ≤ cw (bp K p) o 0 * x := Int.mul_nonneg w0.1 h0
    have hm2 : cw (bp K p) o 0 * x ≤ 65535 * 65535 := Int.mul_le_mul w0.2 h1 h0 (by omega)
    rw [eg, en', zi_1, iz_add, km_part h hp hp6 (by omega) (by omega), Option.bind_some, km_part h hp hp6 o0 (by omega), Option.bind_some, if_neg (fun q => by have := (iz_eq (iR_s (by omega) (by omega)) (iR_s (by omega) (by omega))).mp q; omega), zi_4, zi_2, iz_add, iz_add, km_word h hp hp6 (by omega) (by omega), km_word h hp hp6 (by omega) (by omega), Option.bind_some, Option.bind_some, e2, e4, if_pos hg, iz_j (iR_s (by omega) (by omega)), iz_j (iR_s (by omega) (by omega)), jz_mul, zj_256, mo_clipNear ⟨by omega, by omega, by omega, by omega⟩, Option.bind_some]
    by_cases hx : x < cw (bp K p) o 1
    · rw [if_neg (fun q => by have := (jz_le (jR_s (by omega) (by omega)) (jR_s (by omega) (by omega))).mp q; omega), if_pos hx]
    · rw [if_pos ((jz_le (jR_s (by omega) (by omega)) (jR_s (by omega) (by omega))).mpr (by omega)), if_neg hx, km_powL h0 h1 _ (bp K p (o + 1) - 1).toNat 4096 x 1 _ (by omega) h0 h1 (by omega) (by omega) d2]
      rfl
