/-! The reference's write. -/
def alz (B B' : Int → Int) (t r : Int) : Bool := decide (B (t + 2) = B' (r + 2)) && eqB (fun j => B (B (t + 1) + j)) (fun j => B' (B' (r + 1) + j)) (B (t + 2)).toNat 0
section ALK
variable {μ : mM} {M : Nat} {K : Int → Int}
theorem rm_alkL (h : KR μ M K) {p q o u l : Int} (hp : 0 ≤ p) (hp6 : p < 6) (hq : 0 ≤ q) (hq6 : q < 6) (ho : 0 ≤ o) (hol : o + l ≤ 256) (hu : 0 ≤ u) : ∀ (m fu : Nat) (j : Int) (w : Bool), (w = true → u + l ≤ 256) → m < fu → 0 ≤ j → j + m = l → f_Mo_alike_55 μ M (fun y6 => f_Mo_alike_103 μ M y6) fu (iz p) (iz q) (iz l) (iz (bI w)) (iz o) (iz u) (iz j) = some (iz (bI (w && eqB (fun j => bp K p (o + j)) (fun j => bp K q (u + j)) m j))) := by
  intro m
  induction m with
  | zero =>
    intro fu j w hw hf hj hm
    obtain ⟨fu, rfl⟩ : ∃ m, fu = m + 1 := ⟨fu - 1, by omega⟩
    rw [f_Mo_alike_55, qle (iR_s (by omega) (by omega)) (iR_s (by omega) (by omega)), if_pos (by omega)]
    unfold eqB f_Mo_alike_103
    rw [Bool.and_true, mz_b, Option.bind_some]
  | succ m ih =>
    intro fu j w hw hf hj hm
    obtain ⟨fu, rfl⟩ : ∃ m, fu = m + 1 := ⟨fu - 1, by omega⟩
    rw [f_Mo_alike_55, qle (iR_s (by omega) (by omega)) (iR_s (by omega) (by omega)), if_neg (by omega), qbI]
    cases w
    · rw [if_neg (by decide), Bool.false_and]
      exact (congrArg (fun v => v.bind fun v7 => some v7) (mz_b false)).trans rfl
    · have hw' := hw rfl
      have q1 := bp_R h p (o + j)
      have q2 := bp_R h q (u + j)
      rw [if_pos rfl, h.1, Option.bind_some, iz_add, km_part h hp hp6 (by omega) (by omega), Option.bind_some, Option.bind_some, iz_add, km_part h hq hq6 (by omega) (by omega), Option.bind_some, qeq (iR_s (by omega) (by omega)) (iR_s (by omega) (by omega))]
      unfold f_Mo_alike_95
      rw [Bool.true_and]
      show _ = some (iz (bI (decide (bp K p (o + j) = bp K q (u + j)) && eqB (fun j => bp K p (o + j)) (fun j => bp K q (u + j)) m (j + 1))))
      rw [zi_1, iz_add]
      by_cases c : bp K p (o + j) = bp K q (u + j)
      · rw [if_pos c, decide_eq_true c]
        exact ih fu (j + 1) true (fun _ => hw') (by omega) (by omega) (by omega)
      · rw [if_neg c, decide_eq_false c]
        exact ih fu (j + 1) false (fun w => by cases w) (by omega) (by omega) (by omega)
theorem rm_alike (h : KR μ M K) {p q t r : Int} (hp : 0 ≤ p) (hp6 : p < 6) (hq : 0 ≤ q) (hq6 : q < 6) (ht : 0 ≤ t ∧ t < 200) (hr : 0 ≤ r ∧ r < 200) (h1 : bp K p (t + 1) + bp K p (t + 2) ≤ 256) (h2 : bp K q (r + 1) + bp K q (r + 2) ≤ 256) : ((mrc μ (some M) 11).bind fun a => f_Mo_alike μ a (iz p) (iz t) (iz q) (iz r)) = some (iz (bI (alz (bp K p) (bp K q) t r))) := by
  have a1 := bp_R h p (t + 1)
  have a2 := bp_R h p (t + 2)
  have a3 := bp_R h q (r + 1)
  have a4 := bp_R h q (r + 2)
  rw [h.1, Option.bind_some]
  unfold f_Mo_alike f_Mo_alike_29 alz
  rw [h.1, Option.bind_some, zi_2, iz_add, km_part h hp hp6 (by omega) (by omega), Option.bind_some, Option.bind_some, iz_add, km_part h hq hq6 (by omega) (by omega), Option.bind_some, Option.bind_some, zi_1, iz_add, km_part h hp hp6 (by omega) (by omega), Option.bind_some, Option.bind_some, iz_add, km_part h hq hq6 (by omega) (by omega), Option.bind_some, qeq (iR_s (by omega) (by omega)) (iR_s (by omega) (by omega))]
  have I := fun (w : Bool) (hw : w = true → bp K q (r + 1) + bp K p (t + 2) ≤ 256) => rm_alkL h hp hp6 hq hq6 (o := bp K p (t + 1)) (u := bp K q (r + 1)) (l := bp K p (t + 2)) (by omega) h1 (by omega) (bp K p (t + 2)).toNat 4096 0 w hw (by omega) (by omega) (by omega)
  by_cases c : bp K p (t + 2) = bp K q (r + 2)
  · rw [if_pos c, decide_eq_true c]
    exact I true (fun _ => by omega)
  · rw [if_neg c, decide_eq_false c]
    have I0 := I false (fun w => by cases w)
    rw [Option.bind_some, Option.bind_some]
    exact I0
end ALK
theorem alz_i {B B' : Int → Int} {t r : Int} (h : 0 ≤ B (t + 2)) : alz B B' t r = true ↔ B (t + 2) = B' (r + 2) ∧ ∀ j, 0 ≤ j → j < B (t + 2) → B (B (t + 1) + j) = B' (B' (r + 1) + j) := by
  unfold alz
  rw [Bool.and_eq_true, decide_eq_true_iff, eqB_i]
  constructor
  · rintro ⟨h1, h2⟩
    exact ⟨h1, fun j j0 j1 => h2 j j0 (by omega)⟩
  · rintro ⟨h1, h2⟩
    exact ⟨h1, fun j j0 j1 => h2 j j0 (by omega)⟩
def RO (A : Nat → Nat → Int32) (q : Int → Int) : Prop := ∀ i : Nat, 2 ≤ i → i < 256 → A 0 i = iz (q i)
def RW (μ : mM) (M : Nat) (A : Nat → Nat → Int32) (S : Nat → Int32) (L : Nat → Int64) (q : Int → Int) : Prop := ∃ A', RB μ M A' S L ∧ sX A' A ∧ RO A' q
section WRT
variable {μ : mM} {M : Nat} {A : Nat → Nat → Int32} {S : Nat → Int32} {L : Nat → Int64} {q : Int → Int}
theorem rw_rc (h : RW μ M A S L q) : mrc μ (some M) 11 = some M ∧ mfA μ (some M) [11] 0 = some (some (M + 1)) := by
  obtain ⟨A', h1, h2, h3⟩ := h
  exact ⟨rb_rc h1, (rb_f0 h1).1⟩
theorem rw_K (h : RW μ M A S L q) (hk : KA A) : KR μ M (kp A) := by
  obtain ⟨A', h1, h2, h3⟩ := h
  rw [← sX_kp h2]
  exact rb_KR h1 (sX_KA h2 hk)
theorem rw_g (h : RW μ M A S L q) {i : Int} (h0 : 2 ≤ i) (h1 : i < 256) : mgI μ (some (M + 1)) (iz i) = some (iz (q i)) := by
  obtain ⟨A', g1, g2, g3⟩ := h
  rw [iz_nat (by omega), mgI_i (rb_c0 g1).1 (by omega) (by decide), g3 _ (by omega) (by omega), Int.toNat_of_nonneg (by omega)]
theorem rw_s (h : RW μ M A S L q) {i : Int} (h0 : 2 ≤ i) (h1 : i < 256) (x : Int) : ∃ μ', msI μ (some (M + 1)) (iz i) (iz x) = some μ' ∧ RW μ' M A S L (zu q i x) ∧ Out M μ μ' := by
  obtain ⟨A', g1, g2, g3⟩ := h
  obtain ⟨m1, s1, r1, o1⟩ := rb_s0 g1 (i := i.toNat) (by omega) (iz x)
  refine ⟨m1, by rw [iz_nat (by omega)]; exact s1, ⟨_, r1, (sX.up _).tr g2, fun j j0 j1 => ?_⟩, o1⟩
  unfold va_up upd zu
  rw [if_pos rfl]
  by_cases e : j = i.toNat
  · rw [if_pos e, if_pos (by omega)]
  · rw [if_neg e, if_neg (by omega), g3 j j0 j1]
theorem rw_x (h : RW μ M A S L q) {q' : Int → Int} (he : ∀ i, 2 ≤ i → i < 256 → q i = q' i) : RW μ M A S L q' := by
  obtain ⟨A', g1, g2, g3⟩ := h
  exact ⟨A', g1, g2, fun i i0 i1 => by rw [g3 i i0 i1, he i (by omega) (by omega)]⟩
theorem rm_wrL (h : RW μ M A S L q) (hk : KA A) {p : Int} (hp : 0 ≤ p) (hp6 : p < 6) {n : Nat} (hn : n ≤ 256) (hO : OKB (bp (kp A) p) n) (hq : Byt q) {s : Int} (hs : 0 ≤ en (bp (kp A) p) s) {e : Int} : ∀ (m fu : Nat) (r t : Int), m < fu → 8 ≤ r → r + 4 * m = t → t ≤ 100 → (∀ k : Nat, k < m → ∃ s' : Nat, 0 ≤ en (bp (kp A) p) (s' : Int) ∧ r + 4 * (k : Int) = plT (bp (kp A) p) s' ∧ QS (bp (kp A) p) q e s') → f_Mo_written_4 μ M (fun (_ : Unit) => f_Mo_written_52 μ M) fu (iz p) (iz (en (bp (kp A) p) s)) (iz t) (iz r) = some (iz (if fdz (bp (kp A) p) q (da (bp (kp A) p) s) (ln (bp (kp A) p) s) m r = 0 then -1 else fdz (bp (kp A) p) q (da (bp (kp A) p) s) (ln (bp (kp A) p) s) m r)) := by
  have kr := rw_K h hk
  have hb : Byt (bp (kp A) p) := fun i => bp_R kr p i
  have h6 := hO.2.2.2.2.2.1
  obtain ⟨b, eb⟩ : ∃ b, bp (kp A) p = b := ⟨_, rfl⟩
  intro m
  induction m with
  | zero =>
    intro fu r t hf hr ht h100 he
    obtain ⟨fu, rfl⟩ : ∃ m, fu = m + 1 := ⟨fu - 1, by omega⟩
    rw [f_Mo_written_4, qle (iR_s (by omega) (by omega)) (iR_s (by omega) (by omega)), if_pos (by omega)]
    rfl
  | succ m ih =>
    intro fu r t hf hr ht h100 he
    obtain ⟨fu, rfl⟩ : ∃ m, fu = m + 1 := ⟨fu - 1, by omega⟩
    have i1 := ih fu (r + 4) t (by omega) (by omega) (by omega) h100 (fun k hk' => by
      obtain ⟨s', u1, u2, u3⟩ := he (k + 1) (by omega)
      exact ⟨s', u1, by omega, u3⟩)
    obtain ⟨s', u1, u2, g1, g2, g3, g4, g5⟩ := he 0 (by omega)
    rw [show r + 4 * ((0 : Nat) : Int) = r by omega] at u2
    rw [← u2] at g1 g2 g3 g4 g5
    have a1 := ok_s hO hs
    have a2 := ok_s hO u1
    obtain ⟨k, k0, k1, k2, k3⟩ := ok_at hO hs
    obtain ⟨k', k0', k1', k2', k3'⟩ := ok_at hO u1
    have d1 : da (bp (kp A) p) s = bp (kp A) p (en (bp (kp A) p) s + 1) := by
      unfold da
      rw [if_neg (by omega)]
    have d2 : da (bp (kp A) p) (s' : Int) = bp (kp A) p (en (bp (kp A) p) (s' : Int) + 1) := by
      unfold da
      rw [if_neg (by omega)]
    have l1 : ln (bp (kp A) p) s = bp (kp A) p (en (bp (kp A) p) s + 2) := rfl
    have l2 : ln (bp (kp A) p) (s' : Int) = bp (kp A) p (en (bp (kp A) p) (s' : Int) + 2) := rfl
    have qr := hq (r + 1)
    have eM : alz (bp (kp A) p) (bp (kp A) p) (en (bp (kp A) p) s) (en (bp (kp A) p) (s' : Int)) = true ↔ fdM (bp (kp A) p) q (da (bp (kp A) p) s) (ln (bp (kp A) p) s) r := by
      rw [alz_i (by omega), ← l1, ← l2, ← d1, ← d2]
      unfold fdM
      rw [eqB_i, g2]
      constructor
      · rintro ⟨w1, w2⟩
        exact ⟨w1.symm, fun j j0 j1 => by
          show q (q (r + 1) + j) = bp (kp A) p (da (bp (kp A) p) s + j)
          rw [g5 j j0 (by omega), w2 j j0 (by omega)]⟩
      · rintro ⟨w1, w2⟩
        exact ⟨w1.symm, fun j j0 j1 => by
          have := w2 j j0 (by omega)
          change q (q (r + 1) + j) = bp (kp A) p (da (bp (kp A) p) s + j) at this
          rw [← this, g5 j j0 (by omega)]⟩
    have eA := rm_alike kr hp hp6 hp hp6 (t := en (bp (kp A) p) s) (r := en (bp (kp A) p) (s' : Int)) (by omega) (by omega) (by omega) (by omega)
    rw [f_Mo_written_4, qle (iR_s (by omega) (by omega)) (iR_s (by omega) (by omega)), if_neg (by omega), (rw_rc h).2, Option.bind_some, rw_g h (by omega) (by omega), Option.bind_some, (rw_rc h).1, Option.bind_some, g1, km_entry kr hp hp6 (iR_s (by omega) (by omega)) (by omega), Option.bind_some]
    rw [kr.1] at eA
    rw [eA, Option.bind_some, qbI, zi_4, iz_add, i1, Option.bind_some, zi_1, iz_add, rw_g h (by omega) (by omega), Option.bind_some]
    show _ = some (iz (if (if fdM (bp (kp A) p) q (da (bp (kp A) p) s) (ln (bp (kp A) p) s) r then q (r + 1) else fdz (bp (kp A) p) q (da (bp (kp A) p) s) (ln (bp (kp A) p) s) m (r + 4)) = 0 then -1 else (if fdM (bp (kp A) p) q (da (bp (kp A) p) s) (ln (bp (kp A) p) s) r then q (r + 1) else fdz (bp (kp A) p) q (da (bp (kp A) p) s) (ln (bp (kp A) p) s) m (r + 4))))
    by_cases c : fdM (bp (kp A) p) q (da (bp (kp A) p) s) (ln (bp (kp A) p) s) r
    · rw [if_pos (eM.mpr c), if_pos c, if_neg (by omega)]
    · rw [if_neg (fun w => c (eM.mp w)), if_neg c]
theorem rm_fillL (hk : KA A) {p : Int} (hp : 0 ≤ p) (hp6 : p < 6) {x2 : Int32} (kx : mM → Int32 → Int32 → Option (Int32 × mM)) : ∀ (m fu : Nat) (i : Int) (μ : mM) (q : Int → Int), m < fu → 2 ≤ i → i + m = 256 → RW μ M A S L q → (∀ j, 2 ≤ j → j < i → q j = if 2 ≤ j ∧ j < 8 then bp (kp A) p j else 0) → ∃ μ', f_Mo_write_20 M kx fu μ (iz p) x2 (iz i) = kx μ' (iz p) x2 ∧ RW μ' M A S L (plE (bp (kp A) p) 0).2 ∧ Out M μ μ' := by
  intro m
  induction m with
  | zero =>
    intro fu i μ q hf hi hm h hq
    obtain ⟨fu, rfl⟩ : ∃ m, fu = m + 1 := ⟨fu - 1, by omega⟩
    refine ⟨μ, ?_, rw_x h (fun j j0 j1 => hq j j0 (by omega)), Out.rf⟩
    rw [f_Mo_write_20, zi_256, qle (iR_s (by omega) (by omega)) (iR_s (by omega) (by omega)), if_pos (by omega)]
  | succ m ih =>
    intro fu i μ q hf hi hm h hq
    obtain ⟨fu, rfl⟩ : ∃ m, fu = m + 1 := ⟨fu - 1, by omega⟩
    have kr := rw_K h hk
    obtain ⟨m1, s1, r1, o1⟩ := rw_s h (i := i) hi (by omega) (if 2 ≤ i ∧ i < 8 then bp (kp A) p i else 0)
    obtain ⟨m2, s2, r2, o2⟩ := ih fu (i + 1) m1 _ (by omega) (by omega) (by omega) r1 (fun j j0 j1 => by
      unfold zu
      by_cases c : j = i
      · rw [if_pos c, c]
      · rw [if_neg c]; exact hq j j0 (by omega))
    refine ⟨m2, ?_, r2, o1.tr o2⟩
    rw [f_Mo_write_20, zi_256, qle (iR_s (by omega) (by omega)) (iR_s (by omega) (by omega)), if_neg (by omega), (rw_rc h).2, Option.bind_some, zi_2, qlt (iR_s (by omega) (by omega)) (iR_s (by omega) (by omega)), if_neg (by omega), zi_8, qle (iR_s (by omega) (by omega)) (iR_s (by omega) (by omega))]
    unfold f_Mo_write_52 f_Mo_write_53
    by_cases c : 8 ≤ i
    · rw [if_neg (show ¬ (2 ≤ i ∧ i < 8) by omega)] at s1
      rw [if_pos c, zi_0, s1, Option.bind_some, zi_1, iz_add, s2]
    · rw [if_pos (show 2 ≤ i ∧ i < 8 by omega)] at s1
      rw [if_neg c, kr.1, Option.bind_some, km_part kr hp hp6 (by omega) (by omega), Option.bind_some, s1, Option.bind_some, zi_1, iz_add, s2]
theorem rm_cpL (hk : KA A) {p : Int} (hp : 0 ≤ p) (hp6 : p < 6) (kx : mM → Int32 → Int32 → Int32 → Int32 → Int32 → Int32 → Option (Int32 × mM)) {x3 x5 : Int32} {e l o en' : Int} (he : 2 ≤ e) (hel : e + l ≤ 256) (ho : 0 ≤ o) (hol : o + l ≤ 256) (hen : 0 ≤ en' ∧ en' < 200) (heo : bp (kp A) p (en' + 1) = o) : ∀ (m fu : Nat) (j : Int) (μ : mM) (q : Int → Int), m < fu → 0 ≤ j → j + m = l → RW μ M A S L q → ∃ μ', f_Mo_write_157 M kx fu μ (iz p) x3 (iz e) x5 (iz en') (iz (-1)) (iz l) (iz j) = kx μ' (iz p) x3 (iz e) x5 (iz (-1)) (iz l) ∧ RW μ' M A S L (fun i => if e + j ≤ i ∧ i < e + l then bp (kp A) p (o + (i - e)) else q i) ∧ Out M μ μ' := by
  intro m
  induction m with
  | zero =>
    intro fu j μ q hf hj hm h
    obtain ⟨fu, rfl⟩ : ∃ m, fu = m + 1 := ⟨fu - 1, by omega⟩
    refine ⟨μ, ?_, rw_x h (fun i i0 i1 => by rw [if_neg (by omega)]), Out.rf⟩
    rw [f_Mo_write_157, qle (iR_s (by omega) (by omega)) (iR_s (by omega) (by omega)), if_pos (by omega)]
  | succ m ih =>
    intro fu j μ q hf hj hm h
    obtain ⟨fu, rfl⟩ : ∃ m, fu = m + 1 := ⟨fu - 1, by omega⟩
    have kr := rw_K h hk
    obtain ⟨m1, s1, r1, o1⟩ := rw_s h (i := e + j) (by omega) (by omega) (bp (kp A) p (o + j))
    obtain ⟨m2, s2, r2, o2⟩ := ih fu (j + 1) m1 _ (by omega) (by omega) (by omega) r1
    refine ⟨m2, ?_, rw_x r2 (fun i i0 i1 => ?_), o1.tr o2⟩
    · rw [f_Mo_write_157, qle (iR_s (by omega) (by omega)) (iR_s (by omega) (by omega)), if_neg (by omega), zi_0, qle (iR_s (by omega) (by omega)) (iR_s (by omega) (by omega)), if_neg (by omega), (rw_rc h).2, Option.bind_some, kr.1, Option.bind_some, zi_1, iz_add, km_part kr hp hp6 (by omega) (by omega), Option.bind_some, heo, Option.bind_some, iz_add, km_part kr hp hp6 (by omega) (by omega), Option.bind_some, iz_add, s1, Option.bind_some, iz_add, s2]
    · unfold zu
      by_cases c1 : i = e + j
      · rw [if_neg (by omega), if_pos c1, if_pos (by omega)]
        congr 1
        omega
      · by_cases c2 : e + (j + 1) ≤ i ∧ i < e + l
        · rw [if_pos c2, if_pos (by omega)]
        · rw [if_neg c2, if_neg c1, if_neg (by omega)]
end WRT
