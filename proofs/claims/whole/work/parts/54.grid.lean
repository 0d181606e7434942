/-! GRID of the class. -/
def sg (g a : Int) : Int := if a = 0 then g * g else if a = 1 then g else 1
def nd (g : Int) (t : Int → Int) : Int := (t 0 * g + t 1) * g + t 2
def inc (t : Int → Int) (a : Int) : Int → Int := zu t a (t a + 1)
def lv (g : Int) (nb : Int → Int) (q ch : Int) : Int := 257 * nb (3 * q + ch)
def gt (g : Int) (c : Int → Int) : Int → Int := fun i => smi g (c i)
def gr (g : Int) (c : Int → Int) : Int → Int := fun i => c i * (g - 1) - 65535 * smi g (c i)
def fA (r : Int → Int) : Int := if r 2 ≤ r (if r 1 ≤ r 0 then 0 else 1) then (if r 1 ≤ r 0 then 0 else 1) else 2
def lA (r : Int → Int) : Int := if r (if r 0 < r 1 then 0 else 1) < r 2 then (if r 0 < r 1 then 0 else 1) else 2
theorem fl_cases (r : Int → Int) : (fA r = 0 ∧ lA r = 2 ∧ r 1 ≤ r 0 ∧ r 2 ≤ r 1) ∨ (fA r = 0 ∧ lA r = 1 ∧ r 2 ≤ r 0 ∧ r 1 < r 2) ∨ (fA r = 1 ∧ lA r = 2 ∧ r 0 < r 1 ∧ r 2 ≤ r 0) ∨ (fA r = 1 ∧ lA r = 0 ∧ r 2 ≤ r 1 ∧ r 0 < r 2) ∨ (fA r = 2 ∧ lA r = 1 ∧ r 0 < r 2 ∧ r 1 ≤ r 0) ∨ (fA r = 2 ∧ lA r = 0 ∧ r 1 < r 2 ∧ r 0 < r 1) := by
  unfold fA lA
  by_cases h1 : r 1 ≤ r 0
  · rw [if_pos h1, if_neg (by omega : ¬ r 0 < r 1)]
    by_cases h2 : r 2 ≤ r 0
    · rw [if_pos h2]
      by_cases h3 : r 1 < r 2
      · rw [if_pos h3]
        omega
      · rw [if_neg h3]
        omega
    · rw [if_neg h2, if_pos (by omega : r 1 < r 2)]
      omega
  · rw [if_neg h1, if_pos (by omega : r 0 < r 1)]
    by_cases h2 : r 2 ≤ r 1
    · rw [if_pos h2]
      by_cases h3 : r 0 < r 2
      · rw [if_pos h3]
        omega
      · rw [if_neg h3]
        omega
    · rw [if_neg h2, if_pos (by omega : r 0 < r 2)]
      omega
def latS (g : Int) (nb : Int → Int) (r : Int → Int) (f m l q ch : Int) : Int := 65535 * lv g nb q ch + ((r f * (lv g nb (q + sg g f) ch - lv g nb q ch) + r m * (lv g nb (q + sg g f + sg g m) ch - lv g nb (q + sg g f) ch)) + r l * (lv g nb (q + sg g f + sg g m + sg g l) ch - lv g nb (q + sg g f + sg g m) ch))
def latz (g : Int) (nb : Int → Int) (c : Int → Int) : Int → Int := fun ch => nz (latS g nb (gr g c) (fA (gr g c)) (3 - fA (gr g c) - lA (gr g c)) (lA (gr g c)) (nd g (gt g c)) ch) 65535
def NB (g : Int) (nb : Int → Int) : Prop := (g = 2 ∨ g = 3) ∧ ∀ j : Int, 0 ≤ j → j < 3 * (g * g * g) → 0 ≤ nb j ∧ nb j < 256
/-- the weights and the nodes of the way through a cell -/
theorem lat_R {g : Int} {nb c : Int → Int} (hb : NB g nb) (hl : ∀ i : Nat, i < 3 → lvl (c i)) : (∀ i, 0 ≤ i → i < 3 → 0 ≤ gr g c i ∧ gr g c i ≤ 65535) ∧ 0 ≤ fA (gr g c) ∧ fA (gr g c) ≤ 2 ∧ 0 ≤ lA (gr g c) ∧ lA (gr g c) ≤ 2 ∧ 0 ≤ 3 - fA (gr g c) - lA (gr g c) ∧ 3 - fA (gr g c) - lA (gr g c) ≤ 2 ∧ gr g c (3 - fA (gr g c) - lA (gr g c)) ≤ gr g c (fA (gr g c)) ∧ gr g c (lA (gr g c)) ≤ gr g c (3 - fA (gr g c) - lA (gr g c)) ∧ 0 ≤ nd g (gt g c) ∧ nd g (gt g c) + sg g (fA (gr g c)) + sg g (3 - fA (gr g c) - lA (gr g c)) + sg g (lA (gr g c)) < g * g * g ∧ 0 ≤ sg g (fA (gr g c)) ∧ 0 ≤ sg g (3 - fA (gr g c) - lA (gr g c)) ∧ 0 ≤ sg g (lA (gr g c)) := by
  have hg2 : 2 ≤ g := by have := hb.1; omega
  have S0 := smi_R hg2 (hl 0 (by omega)).1 (hl 0 (by omega)).2
  have S1 := smi_R hg2 (hl 1 (by omega)).1 (hl 1 (by omega)).2
  have S2 := smi_R hg2 (hl 2 (by omega)).1 (hl 2 (by omega)).2
  refine ⟨fun i h0 h1 => ?_, ?_⟩
  · have h : i = 0 ∨ i = 1 ∨ i = 2 := by omega
    rcases h with rfl | rfl | rfl
    · exact S0.2.2
    · exact S1.2.2
    · exact S2.2.2
  · have hn : 0 ≤ nd g (gt g c) ∧ nd g (gt g c) + g * g + g + 1 < g * g * g := by
      have e : nd g (gt g c) = (smi g (c 0) * g + smi g (c 1)) * g + smi g (c 2) := rfl
      rw [e]
      generalize smi g (c 0) = s0 at S0 ⊢
      generalize smi g (c 1) = s1 at S1 ⊢
      generalize smi g (c 2) = s2 at S2 ⊢
      rcases hb.1 with rfl | rfl <;> omega
    have hs : 0 ≤ g * g := Int.mul_nonneg (by omega) (by omega)
    generalize nd g (gt g c) = q at hn ⊢
    generalize gr g c = r
    generalize hgg : g * g = gg at hn hs ⊢
    generalize hgg3 : gg * g = ggg at hn ⊢
    rcases fl_cases r with ⟨a, b, h1, h2⟩ | ⟨a, b, h1, h2⟩ | ⟨a, b, h1, h2⟩ | ⟨a, b, h1, h2⟩ | ⟨a, b, h1, h2⟩ | ⟨a, b, h1, h2⟩ <;> rw [a, b] <;> simp [sg, hgg] <;> omega
theorem lv_R {g : Int} {nb : Int → Int} (hb : NB g nb) {q ch : Int} (h0 : 0 ≤ q) (h1 : q < g * g * g) (c0 : 0 ≤ ch) (c1 : ch < 3) : 0 ≤ lv g nb q ch ∧ lv g nb q ch ≤ 65535 := by
  have h := hb.2 (3 * q + ch) (by omega) (by omega)
  unfold lv
  omega
theorem wsum {a b c x0 x1 x2 x3 : Int} (h0 : 0 ≤ c) (h1 : c ≤ b) (h2 : b ≤ a) (h3 : a ≤ 65535) (p0 : 0 ≤ x0 ∧ x0 ≤ 65535) (p1 : 0 ≤ x1 ∧ x1 ≤ 65535) (p2 : 0 ≤ x2 ∧ x2 ≤ 65535) (p3 : 0 ≤ x3 ∧ x3 ≤ 65535) : 0 ≤ 65535 * x0 + ((a * (x1 - x0) + b * (x2 - x1)) + c * (x3 - x2)) ∧ 65535 * x0 + ((a * (x1 - x0) + b * (x2 - x1)) + c * (x3 - x2)) ≤ 65535 * 65535 := by
  have e : 65535 * x0 + ((a * (x1 - x0) + b * (x2 - x1)) + c * (x3 - x2)) = (65535 - a) * x0 + (a - b) * x1 + (b - c) * x2 + c * x3 := by grind
  rw [e]
  have n0 := Int.mul_nonneg (by omega : 0 ≤ 65535 - a) p0.1
  have n1 := Int.mul_nonneg (by omega : 0 ≤ a - b) p1.1
  have n2 := Int.mul_nonneg (by omega : 0 ≤ b - c) p2.1
  have n3 := Int.mul_nonneg h0 p3.1
  have m0 := Int.mul_le_mul_of_nonneg_left p0.2 (by omega : 0 ≤ 65535 - a)
  have m1 := Int.mul_le_mul_of_nonneg_left p1.2 (by omega : 0 ≤ a - b)
  have m2 := Int.mul_le_mul_of_nonneg_left p2.2 (by omega : 0 ≤ b - c)
  have m3 := Int.mul_le_mul_of_nonneg_left p3.2 h0
  omega
theorem latS_R {g : Int} {nb c : Int → Int} (hb : NB g nb) (hl : ∀ i : Nat, i < 3 → lvl (c i)) {ch : Int} (c0 : 0 ≤ ch) (c1 : ch < 3) : 0 ≤ latS g nb (gr g c) (fA (gr g c)) (3 - fA (gr g c) - lA (gr g c)) (lA (gr g c)) (nd g (gt g c)) ch ∧ latS g nb (gr g c) (fA (gr g c)) (3 - fA (gr g c) - lA (gr g c)) (lA (gr g c)) (nd g (gt g c)) ch ≤ 65535 * 65535 := by
  obtain ⟨r, f0, f1, l0, l1, m0, m1, rm, rl, q0, q1, s0, s1, s2⟩ := lat_R hb hl
  exact wsum (r _ l0 (by omega)).1 rl rm (r _ f0 (by omega)).2 (lv_R hb q0 (by omega) c0 c1) (lv_R hb (by omega) (by omega) c0 c1) (lv_R hb (by omega) (by omega) c0 c1) (lv_R hb (by omega) (by omega) c0 c1)
theorem latz_R {g : Int} {nb c : Int → Int} (hb : NB g nb) (hl : ∀ i : Nat, i < 3 → lvl (c i)) : ∀ i : Nat, i < 3 → lvl (latz g nb c i) := by
  intro i hi
  have h := latS_R hb hl (ch := i) (by omega) (by omega)
  exact ⟨nz_ge (by omega) (by omega), nz_le (by omega) (by omega)⟩
