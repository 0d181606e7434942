/-! Counting, and what a profile without fault keeps. -/
def cnt (p : Nat → Bool) : Nat → Nat
  | 0 => 0
  | m + 1 => cnt p m + if p m then 1 else 0
theorem cnt_congr {p q : Nat → Bool} : ∀ (N : Nat), (∀ i, i < N → p i = q i) → cnt p N = cnt q N := by
  intro N
  induction N with
  | zero => intro _; rfl
  | succ N ih =>
    intro h
    unfold cnt
    rw [ih (fun i hi => h i (by omega)), h N (by omega)]
theorem cnt_le {p q : Nat → Bool} : ∀ (N : Nat), (∀ i, i < N → p i = true → q i = true) → cnt p N ≤ cnt q N := by
  intro N
  induction N with
  | zero => intro _; exact Nat.le_refl _
  | succ N ih =>
    intro h
    unfold cnt
    have h1 := ih (fun i hi => h i (by omega))
    have h2 := h N (by omega)
    cases e : p N
    · simp; omega
    · rw [h2 e]; simp; omega
theorem cnt_add {p q r : Nat → Bool} : ∀ (N : Nat), (∀ i, i < N → r i = (p i || q i)) → (∀ i, i < N → p i = true → q i = true → False) → cnt r N = cnt p N + cnt q N := by
  intro N
  induction N with
  | zero => intro _ _; rfl
  | succ N ih =>
    intro h h2
    unfold cnt
    rw [ih (fun i hi => h i (by omega)) (fun i hi => h2 i (by omega)), h N (by omega)]
    have h3 := h2 N (by omega)
    cases e : p N <;> cases e2 : q N <;> simp
    · omega
    · omega
    · exact absurd (h3 e e2) (by simp)
theorem cnt_zero {p : Nat → Bool} : ∀ (N : Nat), (∀ i, i < N → p i = false) → cnt p N = 0 := by
  intro N
  induction N with
  | zero => intro _; rfl
  | succ N ih =>
    intro h
    unfold cnt
    rw [ih (fun i hi => h i (by omega)), h N (by omega)]
    rfl
theorem cnt_int (a m : Nat) : ∀ (N : Nat), cnt (fun i => decide (a ≤ i ∧ i < a + m)) N = min (N - a) m := by
  intro N
  induction N with
  | zero => simp [cnt]
  | succ N ih =>
    unfold cnt
    rw [ih]
    by_cases h : a ≤ N ∧ N < a + m
    · rw [decide_eq_true h]
      simp
      omega
    · rw [decide_eq_false h]
      simp
      omega
theorem cnt_mono (p : Nat → Bool) {m N : Nat} (h : m ≤ N) : cnt p m ≤ cnt p N := by
  induction N with
  | zero => rw [show m = 0 by omega]; exact Nat.le_refl _
  | succ N ih =>
    by_cases e : m = N + 1
    · rw [e]; exact Nat.le_refl _
    · have := ih (by omega)
      show cnt p m ≤ cnt p N + _
      omega
theorem cnt_sur {p : Nat → Bool} : ∀ (N k : Nat), k < cnt p N → ∃ s, s < N ∧ p s = true ∧ cnt p s = k := by
  intro N
  induction N with
  | zero => intro k h; exact absurd h (by simp [cnt])
  | succ N ih =>
    intro k h
    by_cases h1 : k < cnt p N
    · obtain ⟨s, h2, h3, h4⟩ := ih k h1
      exact ⟨s, by omega, h3, h4⟩
    · cases e : p N
      · rw [cnt, e] at h
        simp at h
        omega
      · rw [cnt, e] at h
        simp at h
        exact ⟨N, by omega, e, by omega⟩
theorem cnt_inj {p : Nat → Bool} {s s' : Nat} (h : s < s') (hp : p s = true) : cnt p s < cnt p s' := by
  have h1 := cnt_mono p (m := s + 1) (N := s') h
  rw [cnt, hp] at h1
  simp at h1
  omega
theorem hsE_i (b : Int → Int) (s : Int) : ∀ (m : Nat) (i : Int), hsE b s m i = true ↔ ∃ j, i ≤ j ∧ j < i + m ∧ b (8 + 4 * j) = s := by
  intro m
  induction m with
  | zero =>
    intro i
    exact ⟨fun h => (by cases h), fun ⟨j, h1, h2, _⟩ => absurd h2 (by omega)⟩
  | succ m ih =>
    intro i
    unfold hsE
    rw [Bool.or_eq_true, decide_eq_true_iff, ih]
    constructor
    · rintro (h | ⟨j, h1, h2, h3⟩)
      · exact ⟨i, by omega, by omega, h⟩
      · exact ⟨j, by omega, by omega, h3⟩
    · rintro ⟨j, h1, h2, h3⟩
      by_cases e : j = i
      · exact Or.inl (e ▸ h3)
      · exact Or.inr ⟨j, by omega, by omega, h3⟩
theorem ovE_i (b : Int → Int) (o l : Int) : ∀ (m : Nat) (i : Int), ovE b o l m i = true ↔ ∃ j, i ≤ j ∧ j < i + m ∧ ovP b o l j := by
  intro m
  induction m with
  | zero =>
    intro i
    exact ⟨fun h => (by cases h), fun ⟨j, h1, h2, _⟩ => absurd h2 (by omega)⟩
  | succ m ih =>
    intro i
    unfold ovE
    rw [Bool.or_eq_true, decide_eq_true_iff, ih]
    constructor
    · rintro (h | ⟨j, h1, h2, h3⟩)
      · exact ⟨i, by omega, by omega, h⟩
      · exact ⟨j, by omega, by omega, h3⟩
    · rintro ⟨j, h1, h2, h3⟩
      by_cases e : j = i
      · exact Or.inl (e ▸ h3)
      · exact Or.inr ⟨j, by omega, by omega, h3⟩
/-- what entry k keeps -/
def ENT (b : Int → Int) (n k : Int) : Prop := (1 ≤ b (8 + 4 * k) ∧ b (8 + 4 * k) ≤ 12) ∧ (∀ j, 0 ≤ j → j < k → b (8 + 4 * j) ≠ b (8 + 4 * k)) ∧ b (9 + 4 * k) % 4 = 0 ∧ 8 + 4 * b 6 ≤ b (9 + 4 * k) ∧ 2 ≤ b (10 + 4 * k) ∧ b (9 + 4 * k) + b (10 + 4 * k) ≤ n ∧ b (11 + 4 * k) = 0 ∧ (∀ j, 0 ≤ j → j < k → ¬ ovP b (b (9 + 4 * k)) (b (10 + 4 * k)) j) ∧ fit (b (8 + 4 * k)) (b (b (9 + 4 * k))) ∧ lok (b (b (9 + 4 * k))) (b (b (9 + 4 * k) + 1)) (b (10 + 4 * k))
theorem efz_0 {b : Int → Int} {n k : Int} (hb : Byt b) (hk : 0 ≤ k) (h : efz b n k = 0) : ENT b n k := by
  have q9 := hb (9 + 4 * k)
  unfold efz at h
  by_cases c1 : b (8 + 4 * k) < 1 ∨ 12 < b (8 + 4 * k) ∨ hsE b (b (8 + 4 * k)) k.toNat 0 = true
  · rw [if_pos c1] at h; omega
  · rw [if_neg c1] at h
    by_cases c2 : b (9 + 4 * k) % 4 ≠ 0 ∨ b (9 + 4 * k) < 8 + 4 * b 6 ∨ b (10 + 4 * k) < 2 ∨ n < b (9 + 4 * k) + b (10 + 4 * k)
    · rw [if_pos c2] at h; omega
    · rw [if_neg c2] at h
      by_cases c3 : b (11 + 4 * k) ≠ 0
      · rw [if_pos c3] at h; omega
      · rw [if_neg c3] at h
        by_cases c4 : ovE b (b (9 + 4 * k)) (b (10 + 4 * k)) k.toNat 0 = true
        · rw [if_pos c4] at h; omega
        · rw [if_neg c4] at h
          by_cases c5 : fit (b (8 + 4 * k)) (b (b (9 + 4 * k)))
          · rw [if_neg (not_not_intro c5)] at h
            by_cases c6 : lok (b (b (9 + 4 * k))) (b (b (9 + 4 * k) + 1)) (b (10 + 4 * k))
            · refine ⟨⟨Int.not_lt.mp (fun q => c1 (Or.inl q)), Int.not_lt.mp (fun q => c1 (Or.inr (Or.inl q)))⟩, fun j j0 j1 e => c1 (Or.inr (Or.inr ((hsE_i _ _ _ _).mpr ⟨j, j0, by omega, e⟩))), by omega, by omega, by omega, by omega, by omega, fun j j0 j1 e => c4 ((ovE_i _ _ _ _ _).mpr ⟨j, j0, by omega, e⟩), c5, c6⟩
            · rw [if_pos c6] at h; omega
          · rw [if_pos c5] at h; omega
theorem efL_0 {b : Int → Int} {n : Int} (hb : Byt b) : ∀ (m : Nat) (i : Int), 0 ≤ i → efL b n m i = 0 → ∀ k, i ≤ k → k < i + m → ENT b n k := by
  intro m
  induction m with
  | zero => intro i _ _ k h1 h2; omega
  | succ m ih =>
    intro i hi h k h1 h2
    unfold efL at h
    by_cases c : efz b n i = 0
    · rw [if_pos c] at h
      by_cases e : k = i
      · exact e ▸ efz_0 hb hi c
      · exact ih (i + 1) (by omega) h k (by omega) (by omega)
    · rw [if_neg c] at h
      exact absurd h c
def OKB (b : Int → Int) (n : Int) : Prop := (12 ≤ n ∧ n % 4 = 0 ∧ 256 * b 0 + b 1 = n) ∧ (b 2 = 1 ∨ b 2 = 2) ∧ (b 3 = 1 ∨ b 3 = 3) ∧ (b 4 = 0 ∨ b 4 = 1) ∧ b 5 = 0 ∧ (1 ≤ b 6 ∧ b 6 ≤ 12 ∧ 8 + 4 * b 6 ≤ n) ∧ b 7 = 0 ∧ (∀ k, 0 ≤ k → k < b 6 → ENT b n k) ∧ wyz b = true
theorem ftz_0 {b : Int → Int} {n : Int} (hb : Byt b) (h : ftz b n = 0) : OKB b n := by
  unfold ftz at h
  by_cases c1 : n < 12 ∨ n % 4 ≠ 0 ∨ 256 * b 0 + b 1 ≠ n
  · rw [if_pos c1] at h; omega
  · rw [if_neg c1] at h
    by_cases d2 : b 2 = 1 ∨ b 2 = 2
    · rw [if_neg (not_not_intro d2)] at h
      by_cases d3 : b 3 = 1 ∨ b 3 = 3
      · rw [if_neg (not_not_intro d3)] at h
        by_cases d4 : b 4 = 0 ∨ b 4 = 1
        · rw [if_neg (not_not_intro d4)] at h
          by_cases d5 : b 5 ≠ 0
          · rw [if_pos d5] at h; omega
          · rw [if_neg d5] at h
            by_cases d6 : 1 ≤ b 6 ∧ b 6 ≤ 12 ∧ 8 + 4 * b 6 ≤ n
            · rw [if_neg (not_not_intro d6)] at h
              by_cases d7 : b 7 ≠ 0
              · rw [if_pos d7] at h; omega
              · rw [if_neg d7] at h
                by_cases d8 : efL b n (b 6).toNat 0 = 0
                · rw [if_neg (not_not_intro d8)] at h
                  by_cases d9 : wyz b = true
                  · exact ⟨⟨by omega, by omega, by omega⟩, d2, d3, d4, by omega, d6, by omega, fun k k0 k1 => efL_0 hb _ 0 (by omega) d8 k k0 (by omega), d9⟩
                  · rw [if_neg d9] at h; omega
                · rw [if_pos d8] at h
                  exact absurd h d8
            · rw [if_pos d6] at h; omega
        · rw [if_pos d4] at h; omega
      · rw [if_pos d3] at h; omega
    · rw [if_pos d2] at h; omega
theorem enz_none {b : Int → Int} {s : Int} : ∀ (m : Nat) (k : Int), 0 ≤ k → enz b s m k < 0 → ∀ j, k ≤ j → j < k + m → b (8 + 4 * j) ≠ s := by
  intro m
  induction m with
  | zero => intro k _ _ j h1 h2; omega
  | succ m ih =>
    intro k hk h j h1 h2
    unfold enz at h
    by_cases c : b (8 + 4 * k) = s
    · rw [if_pos c] at h; omega
    · rw [if_neg c] at h
      by_cases e : j = k
      · exact e ▸ c
      · exact ih (k + 1) (by omega) h j (by omega) (by omega)
section OKS
variable {b : Int → Int} {n : Int}
theorem ok_at (h : OKB b n) {s : Int} (hs : 0 ≤ en b s) : ∃ k, 0 ≤ k ∧ k < b 6 ∧ en b s = 8 + 4 * k ∧ b (8 + 4 * k) = s := by
  rcases en_R (b := b) (s := s) (by have := h.2.2.2.2.2.1; omega) with q | q
  · omega
  · exact q
theorem ok_k (h : OKB b n) {k : Int} (h0 : 0 ≤ k) (h1 : k < b 6) : en b (b (8 + 4 * k)) = 8 + 4 * k := by
  have h6 := h.2.2.2.2.2.1
  have hE := h.2.2.2.2.2.2.2.1
  by_cases c : 0 ≤ en b (b (8 + 4 * k))
  · obtain ⟨j, j0, j1, j2, j3⟩ := ok_at h c
    rcases Int.lt_trichotomy j k with e | e | e
    · exact absurd j3 ((hE k h0 h1).2.1 j j0 e)
    · rw [j2, e]
    · exact absurd j3.symm ((hE j j0 j1).2.1 k h0 e)
  · exact absurd rfl (enz_none (b := b) (s := b (8 + 4 * k)) (b 6).toNat 0 (by omega) (by unfold en at c; omega) k h0 (by omega))
theorem ok_en (h : OKB b n) {s : Int} : hsE b s (b 6).toNat 0 = true ↔ 0 ≤ en b s := by
  have h6 := h.2.2.2.2.2.1
  rw [hsE_i]
  constructor
  · rintro ⟨j, j0, j1, j2⟩
    rw [← j2, ok_k h j0 (by omega)]
    omega
  · intro q
    obtain ⟨j, j0, j1, j2, j3⟩ := ok_at h q
    exact ⟨j, j0, by omega, j3⟩
def ln (b : Int → Int) (s : Int) : Int := b (en b s + 2)
/-- what is kept of the data of signature s -/
theorem ok_s (h : OKB b n) {s : Int} (hs : 0 ≤ en b s) : (1 ≤ s ∧ s ≤ 12) ∧ da b s % 4 = 0 ∧ 8 + 4 * b 6 ≤ da b s ∧ 2 ≤ ln b s ∧ da b s + ln b s ≤ n ∧ fit s (b (da b s)) ∧ lok (b (da b s)) (b (da b s + 1)) (ln b s) := by
  obtain ⟨k, k0, k1, k2, k3⟩ := ok_at h hs
  obtain ⟨e1, -, e3, e4, e5, e6, -, -, e9, e10⟩ := h.2.2.2.2.2.2.2.1 k k0 k1
  have d : da b s = b (9 + 4 * k) := by
    unfold da
    rw [if_neg (by omega), k2, show 8 + 4 * k + 1 = 9 + 4 * k by omega]
  have l : ln b s = b (10 + 4 * k) := by
    unfold ln
    rw [k2, show 8 + 4 * k + 2 = 10 + 4 * k by omega]
  rw [d, l]
  rw [k3] at e1 e9
  exact ⟨e1, e3, e4, e5, e6, e9, e10⟩
theorem ok_ss (h : OKB b n) {s s' : Int} (hs : 0 ≤ en b s) (hs' : 0 ≤ en b s') : (da b s = da b s' ∧ ln b s = ln b s') ∨ da b s + ln b s ≤ da b s' ∨ da b s' + ln b s' ≤ da b s := by
  obtain ⟨k, k0, k1, k2, k3⟩ := ok_at h hs
  obtain ⟨j, j0, j1, j2, j3⟩ := ok_at h hs'
  have d : da b s = b (9 + 4 * k) := by
    unfold da
    rw [if_neg (by omega), k2, show 8 + 4 * k + 1 = 9 + 4 * k by omega]
  have l : ln b s = b (10 + 4 * k) := by
    unfold ln
    rw [k2, show 8 + 4 * k + 2 = 10 + 4 * k by omega]
  have d' : da b s' = b (9 + 4 * j) := by
    unfold da
    rw [if_neg (by omega), j2, show 8 + 4 * j + 1 = 9 + 4 * j by omega]
  have l' : ln b s' = b (10 + 4 * j) := by
    unfold ln
    rw [j2, show 8 + 4 * j + 2 = 10 + 4 * j by omega]
  rw [d, l, d', l']
  rcases Int.lt_trichotomy j k with e | e | e
  · have := (h.2.2.2.2.2.2.2.1 k k0 k1).2.2.2.2.2.2.2.1 j j0 e
    unfold ovP at this
    omega
  · rw [e]
    exact Or.inl ⟨rfl, rfl⟩
  · have := (h.2.2.2.2.2.2.2.1 j j0 j1).2.2.2.2.2.2.2.1 k k0 e
    unfold ovP at this
    omega
def pre (b : Int → Int) (i : Nat) : Bool := decide (0 ≤ en b i)
theorem pre_i {i : Nat} : pre b i = true ↔ 0 ≤ en b i := by
  unfold pre
  exact decide_eq_true_iff
theorem ok_cntL (h : OKB b n) : ∀ (k : Nat), (k : Int) ≤ b 6 → cnt (fun i => hsE b i k 0) 13 = k := by
  intro k
  induction k with
  | zero => intro _; exact cnt_zero _ (fun i hi => rfl)
  | succ k ih =>
    intro hk
    have e := h.2.2.2.2.2.2.2.1 k (by omega) (by omega)
    have h1 : cnt (fun i => hsE b i (k + 1) 0) 13 = cnt (fun i => hsE b i k 0) 13 + cnt (fun i => decide ((b (8 + 4 * (k : Int))).toNat ≤ i ∧ i < (b (8 + 4 * (k : Int))).toNat + 1)) 13 := by
      apply cnt_add
      · intro i hi
        rw [Bool.eq_iff_iff, Bool.or_eq_true, hsE_i, hsE_i, decide_eq_true_iff]
        constructor
        · rintro ⟨j, j0, j1, j2⟩
          by_cases c : j = k
          · right
            rw [c] at j2
            omega
          · exact Or.inl ⟨j, j0, by omega, j2⟩
        · rintro (⟨j, j0, j1, j2⟩ | c)
          · exact ⟨j, j0, by omega, j2⟩
          · exact ⟨k, by omega, by omega, by have := e.1; omega⟩
      · intro i hi q1 q2
        rw [hsE_i] at q1
        rw [decide_eq_true_iff] at q2
        obtain ⟨j, j0, j1, j2⟩ := q1
        exact e.2.1 j j0 (by omega) (by have := e.1; omega)
    rw [h1, ih (by omega), cnt_int]
    have := e.1
    omega
theorem ok_cnt (h : OKB b n) : cnt (pre b) 13 = (b 6).toNat := by
  have h6 := h.2.2.2.2.2.1
  rw [← ok_cntL h (b 6).toNat (by omega)]
  apply cnt_congr
  intro i _
  rw [Bool.eq_iff_iff, pre_i, ok_en h]
end OKS
