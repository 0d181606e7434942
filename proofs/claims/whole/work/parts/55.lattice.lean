/-! GRID of the reference. -/
def nbz (b : Int → Int) (o : Int) : Int → Int := fun j => b (o + 2 + j)
def EG (b : Int → Int) (o : Int) : Prop := 0 ≤ o ∧ (b (o + 1) = 2 ∨ b (o + 1) = 3) ∧ o + 2 + 3 * (b (o + 1) * b (o + 1) * b (o + 1)) ≤ 256
def s4 (a : Int) : Int := if a = 0 then 16 else if a = 1 then 4 else 1
theorem bits {i j k : Int} (i0 : 0 ≤ i ∧ i ≤ 2) (j0 : 0 ≤ j ∧ j ≤ 2) (k0 : 0 ≤ k ∧ k ≤ 2) : ((iz (16 * i + 4 * j + k) >>> ((4 : Int32) &&& 31)) &&& (3 : Int32)) = iz i ∧ ((iz (16 * i + 4 * j + k) >>> ((2 : Int32) &&& 31)) &&& (3 : Int32)) = iz j ∧ (iz (16 * i + 4 * j + k) &&& (3 : Int32)) = iz k := by
  have hi : i = 0 ∨ i = 1 ∨ i = 2 := by omega
  have hj : j = 0 ∨ j = 1 ∨ j = 2 := by omega
  have hk : k = 0 ∨ k = 1 ∨ k = 2 := by omega
  rcases hi with rfl | rfl | rfl <;> rcases hj with rfl | rfl | rfl <;> rcases hk with rfl | rfl | rfl <;> exact ⟨by decide, by decide, by decide⟩
theorem km_node {μ : mM} {M : Nat} {K : Int → Int} (h : KR μ M K) {p o : Int} (hp : 0 ≤ p) (hp6 : p < 6) (hE : EG (bp K p) o) {g : Int} (hg : g = bp K p (o + 1)) {i j k ch : Int} (i0 : 0 ≤ i ∧ i < g) (j0 : 0 ≤ j ∧ j < g) (k0 : 0 ≤ k ∧ k < g) (c0 : 0 ≤ ch) (c1 : ch < 3) : ((mrc μ (some M) 11).bind fun a => f_Mo_node μ a (iz p) (iz o) (iz (16 * i + 4 * j + k)) (iz ch)) = some (jz (lv g (nbz (bp K p) o) ((i * g + j) * g + k) ch)) := by
  obtain ⟨a1, a2, a3⟩ := hE
  rw [← hg] at a2 a3
  obtain ⟨b1, b2, b3⟩ := bits (i := i) (j := j) (k := k) ⟨by omega, by omega⟩ ⟨by omega, by omega⟩ ⟨by omega, by omega⟩
  have hn : 0 ≤ (i * g + j) * g + k ∧ (i * g + j) * g + k < g * g * g := by
    rcases a2 with e | e <;> subst e <;> omega
  have hx := bp_R h p (o + 2 + 3 * ((i * g + j) * g + k) + ch)
  have h3 : 8 ≤ g * g * g := by
    rcases a2 with e | e <;> rw [e] <;> omega
  rw [h.1, Option.bind_some]
  unfold f_Mo_node
  rw [h.1, Option.bind_some, zi_1, iz_add, km_part h hp hp6 (by omega) (by omega), Option.bind_some, Option.bind_some, b1, b2, b3, ← hg, iz_mul, iz_add, iz_mul, iz_add, zi_2, iz_add, zi_3, iz_mul, iz_add, iz_add, km_part h hp hp6 (by omega) (by omega), Option.bind_some, iz_j (iR_s (by omega) (by omega)), zj_257, jz_mul]
  unfold lv nbz
  rw [Int.add_assoc (o + 2)]
/-- the nodes of the way through a cell -/
theorem km_nodes {μ : mM} {M : Nat} {K : Int → Int} (h : KR μ M K) {p o : Int} (hp : 0 ≤ p) (hp6 : p < 6) (hE : EG (bp K p) o) {g : Int} (hg : g = bp K p (o + 1)) {t : Int → Int} (ht : ∀ i : Nat, i < 3 → 0 ≤ t i ∧ t i ≤ g - 2) {f m ch : Int} (hf : 0 ≤ f ∧ f < 3) (hm : 0 ≤ m ∧ m < 3) (hne : f ≠ m) (c0 : 0 ≤ ch) (c1 : ch < 3) : ((mrc μ (some M) 11).bind fun a => f_Mo_node μ a (iz p) (iz o) (iz (16 * t 0 + 4 * t 1 + t 2)) (iz ch)) = some (jz (lv g (nbz (bp K p) o) (nd g t) ch)) ∧ ((mrc μ (some M) 11).bind fun a => f_Mo_node μ a (iz p) (iz o) (iz (16 * t 0 + 4 * t 1 + t 2 + s4 f)) (iz ch)) = some (jz (lv g (nbz (bp K p) o) (nd g t + sg g f) ch)) ∧ ((mrc μ (some M) 11).bind fun a => f_Mo_node μ a (iz p) (iz o) (iz (16 * t 0 + 4 * t 1 + t 2 + s4 f + s4 m)) (iz ch)) = some (jz (lv g (nbz (bp K p) o) (nd g t + sg g f + sg g m) ch)) ∧ ((mrc μ (some M) 11).bind fun a => f_Mo_node μ a (iz p) (iz o) (iz (16 * t 0 + 4 * t 1 + t 2 + 21)) (iz ch)) = some (jz (lv g (nbz (bp K p) o) (nd g t + g * g + g + 1) ch)) := by
  have t0 := ht 0 (by omega)
  have t1 := ht 1 (by omega)
  have t2 := ht 2 (by omega)
  unfold nd
  change 0 ≤ t 0 ∧ t 0 ≤ g - 2 at t0
  change 0 ≤ t 1 ∧ t 1 ≤ g - 2 at t1
  change 0 ≤ t 2 ∧ t 2 ≤ g - 2 at t2
  generalize t 0 = x at t0 ⊢
  generalize t 1 = y at t1 ⊢
  generalize t 2 = w at t2 ⊢
  have key : ∀ (i j k : Int) (at' q : Int), 0 ≤ i ∧ i ≤ 1 → 0 ≤ j ∧ j ≤ 1 → 0 ≤ k ∧ k ≤ 1 → at' = 16 * x + 4 * y + w + 16 * i + 4 * j + k → q = (x * g + y) * g + w + i * (g * g) + j * g + k → ((mrc μ (some M) 11).bind fun a => f_Mo_node μ a (iz p) (iz o) (iz at') (iz ch)) = some (jz (lv g (nbz (bp K p) o) q ch)) := by
    intro i j k at' q hi hj hk ea eq
    have e1 : at' = 16 * (x + i) + 4 * (y + j) + (w + k) := by omega
    have e2 : q = ((x + i) * g + (y + j)) * g + (w + k) := by
      rw [eq]
      grind
    rw [e1, e2]
    exact km_node h hp hp6 hE hg ⟨by omega, by omega⟩ ⟨by omega, by omega⟩ ⟨by omega, by omega⟩ c0 c1
  have hf' : f = 0 ∨ f = 1 ∨ f = 2 := by omega
  have hm' : m = 0 ∨ m = 1 ∨ m = 2 := by omega
  generalize hgg : g * g = gg at key
  refine ⟨key 0 0 0 _ _ (by omega) (by omega) (by omega) (by omega) (by omega), ?_, ?_, key 1 1 1 _ _ (by omega) (by omega) (by omega) (by omega) (by omega)⟩
  · rcases hf' with rfl | rfl | rfl
    · exact key 1 0 0 _ _ (by omega) (by omega) (by omega) (by simp [s4]) (by simp [sg, hgg])
    · exact key 0 1 0 _ _ (by omega) (by omega) (by omega) (by simp [s4]) (by simp [sg])
    · exact key 0 0 1 _ _ (by omega) (by omega) (by omega) (by simp [s4]) (by simp [sg])
  · rcases hf' with rfl | rfl | rfl <;> rcases hm' with rfl | rfl | rfl
    · omega
    · exact key 1 1 0 _ _ (by omega) (by omega) (by omega) (by simp [s4]) (by simp [sg, hgg])
    · exact key 1 0 1 _ _ (by omega) (by omega) (by omega) (by simp [s4]) (by simp [sg, hgg])
    · exact key 1 1 0 _ _ (by omega) (by omega) (by omega) (by simp [s4]; omega) (by simp [sg, hgg]; omega)
    · omega
    · exact key 0 1 1 _ _ (by omega) (by omega) (by omega) (by simp [s4]) (by simp [sg])
    · exact key 1 0 1 _ _ (by omega) (by omega) (by omega) (by simp [s4]; omega) (by simp [sg, hgg]; omega)
    · exact key 0 1 1 _ _ (by omega) (by omega) (by omega) (by simp [s4]; omega) (by simp [sg]; omega)
    · omega
def nA (r : Int → Int) : Int := if fA r = 2 then (if r 0 ≤ r 1 then 0 else 1) else if r 2 ≤ r (1 - fA r) then 2 else 1 - fA r
def refS (g : Int) (nb : Int → Int) (r : Int → Int) (f m n q ch : Int) : Int := ((65535 - r f) * lv g nb q ch + (r f - r m) * lv g nb (q + sg g f) ch) + ((r m - r n) * lv g nb (q + sg g f + sg g m) ch + r n * lv g nb (q + g * g + g + 1) ch)
theorem sg_all {g f n : Int} (hf : 0 ≤ f ∧ f < 3) (hn : 0 ≤ n ∧ n < 3) (hne : f ≠ n) : sg g f + sg g (3 - f - n) + sg g n = g * g + g + 1 := by
  have hf' : f = 0 ∨ f = 1 ∨ f = 2 := by omega
  have hn' : n = 0 ∨ n = 1 ∨ n = 2 := by omega
  generalize hgg : g * g = gg
  rcases hf' with rfl | rfl | rfl <;> rcases hn' with rfl | rfl | rfl <;> simp [sg, hgg] <;> omega
theorem ref_one {g : Int} {nb r : Int → Int} {f n q ch : Int} (hf : 0 ≤ f ∧ f < 3) (hn : 0 ≤ n ∧ n < 3) (hne : f ≠ n) : refS g nb r f (3 - f - n) n q ch = latS g nb r f (3 - f - n) n q ch := by
  have e : q + g * g + g + 1 = q + sg g f + sg g (3 - f - n) + sg g n := by
    have := sg_all (g := g) hf hn hne
    generalize g * g = gg at this ⊢
    omega
  unfold refS latS
  rw [e]
  grind
theorem nA_cases (r : Int → Int) : (nA r = lA r) ∨ (fA r = 2 ∧ nA r = 0 ∧ lA r = 1 ∧ r 0 = r 1) := by
  unfold nA
  rcases fl_cases r with ⟨a, b, h1, h2⟩ | ⟨a, b, h1, h2⟩ | ⟨a, b, h1, h2⟩ | ⟨a, b, h1, h2⟩ | ⟨a, b, h1, h2⟩ | ⟨a, b, h1, h2⟩ <;> rw [a, b]
  · rw [if_neg (by decide), if_pos (by change r 2 ≤ r 1; omega)]
    omega
  · rw [if_neg (by decide), if_neg (by change ¬ r 2 ≤ r 1; omega)]
    omega
  · rw [if_neg (by decide), if_pos (by change r 2 ≤ r 0; omega)]
    omega
  · rw [if_neg (by decide), if_neg (by change ¬ r 2 ≤ r 0; omega)]
    omega
  · rw [if_pos rfl]
    split <;> omega
  · rw [if_pos rfl, if_pos (by omega)]
    omega
theorem ref_lat (g : Int) (nb r : Int → Int) (q ch : Int) : refS g nb r (fA r) (3 - fA r - nA r) (nA r) q ch = latS g nb r (fA r) (3 - fA r - lA r) (lA r) q ch := by
  have hc := fl_cases r
  rcases nA_cases r with e | ⟨e1, e2, e3, e4⟩
  · rw [e]
    exact ref_one (by omega) (by omega) (by omega)
  · rw [e1, e2, e3, ref_one (by omega) (by omega) (by omega)]
    unfold latS
    have s : q + sg g 2 + sg g (3 - 2 - 0) + sg g 0 = q + sg g 2 + sg g (3 - 2 - 1) + sg g 1 := by
      simp [sg]
      omega
    rw [s]
    change 65535 * lv g nb q ch + ((r 2 * (lv g nb (q + sg g 2) ch - lv g nb q ch) + r 1 * (lv g nb (q + sg g 2 + sg g (3 - 2 - 0)) ch - lv g nb (q + sg g 2) ch)) + r 0 * (lv g nb (q + sg g 2 + sg g (3 - 2 - 1) + sg g 1) ch - lv g nb (q + sg g 2 + sg g (3 - 2 - 0)) ch)) = 65535 * lv g nb q ch + ((r 2 * (lv g nb (q + sg g 2) ch - lv g nb q ch) + r 0 * (lv g nb (q + sg g 2 + sg g (3 - 2 - 1)) ch - lv g nb (q + sg g 2) ch)) + r 1 * (lv g nb (q + sg g 2 + sg g (3 - 2 - 1) + sg g 1) ch - lv g nb (q + sg g 2 + sg g (3 - 2 - 1)) ch))
    rw [e4]
    grind
section LAT
variable {μ : mM} {M : Nat} {A : Nat → Nat → Int32} {S : Nat → Int32} {L : Nat → Int64} {v o m : Int → Int}
theorem nm_l1 (h : NM μ M A S L v o m) (kx : mM → Int32 → Int32 → Int32 → Option mM) {fu : Nat} {y1 y2 : Int32} {g at' i : Int} {c : Int → Int} (hg : g = 2 ∨ g = 3) (h0 : 0 ≤ i) (h1 : i < 3) (hc : o i = c i) (hl : lvl (c i)) : ∃ μ', f_Mo_lattice_15 M kx (fu + 1) μ y1 y2 (iz g) (iz at') (iz i) = f_Mo_lattice_15 M kx fu μ' y1 y2 (iz g) (iz (4 * at' + gt g c i)) (iz (i + 1)) ∧ NM μ' M A S L v (zu o i (gr g c i)) m ∧ Out M μ μ' := by
  obtain ⟨m1, s1, k1, o1⟩ := nm_so h h0 h1 (gr g c i)
  refine ⟨m1, ?_, k1, o1⟩
  have x0 := hl.1
  have x1 := hl.2
  have hq : 0 ≤ c i * (g - 1) := Int.mul_nonneg x0 (by omega)
  have hq2 : c i * (g - 1) ≤ 65535 * (g - 1) := Int.mul_le_mul_of_nonneg_right x1 (by omega)
  have ed : (c i * (g - 1)).tdiv 65535 = c i * (g - 1) / 65535 := Int.tdiv_eq_ediv_of_nonneg hq
  have sR := smi_R (by omega : 2 ≤ g) x0 x1
  have tl : ∀ s : Int, s = smi g (c i) → f_Mo_lattice_62 M (f_Mo_lattice_15 M kx fu) kx μ y1 y2 (iz g) (iz at') (iz i) (jz (c i * (g - 1))) (iz s) = f_Mo_lattice_15 M kx fu m1 y1 y2 (iz g) (iz (4 * at' + gt g c i)) (iz (i + 1)) := by
    intro s hs
    subst hs
    unfold f_Mo_lattice_62
    rw [nm_f19 h, Option.bind_some, iz_j (iR_s (by omega) (by omega)), zj_65535, jz_mul, jz_sub]
    change (msJ μ (some (M + 15)) (iz i) (jz (gr g c i))).bind _ = _
    rw [s1, Option.bind_some, zi_4, iz_mul, iz_add, zi_1, iz_add]
    rfl
  rw [f_Mo_lattice_15, zi_3, if_neg (fun q => by have := (iz_le (iR_s (by omega) (by omega)) (iR_s (by omega) (by omega))).mp q; omega), nm_f19 h, Option.bind_some, nm_go h h0 h1, Option.bind_some, hc, zi_2, zi_1, iz_sub, iz_sub, iz_j (iR_s (by omega) (by omega)), iz_j (iR_s (by omega) (by omega)), jz_mul, zj_65535, jz_div (jR_s (by omega) (by omega)) (jR_s (by omega) (by omega)) (by omega), ed]
  by_cases hh : g - 2 ≤ c i * (g - 1) / 65535
  · rw [if_pos ((jz_le (jR_s (by omega) (by omega)) (jR_s (by omega) (by omega))).mpr hh)]
    exact tl _ (by unfold smi; rw [if_neg (by omega)])
  · rw [if_neg (fun q => hh ((jz_le (jR_s (by omega) (by omega)) (jR_s (by omega) (by omega))).mp q)), jz_i]
    exact tl _ (by unfold smi; rw [if_pos (by omega)])
theorem nm_212 {x1 x2 : Int32} {at' f n : Int} (hf : 0 ≤ f ∧ f < 3) (hn : 0 ≤ n ∧ n < 3) (hne : f ≠ n) : f_Mo_lattice_212 M μ x1 x2 (iz at') (iz f) (iz n) = f_Mo_lattice_278 M (fun μ => f_Mo_lattice_409 M μ) 4096 μ x1 x2 (iz at') (iz f) (iz n) (iz (3 - f - n)) (iz (at' + s4 f)) (iz (at' + s4 f + s4 (3 - f - n))) (iz 0) := by
  have h246 : ∀ (s : Int), f_Mo_lattice_246 M μ x1 x2 (iz at') (iz f) (iz n) (iz (3 - f - n)) (iz at') (iz s) = f_Mo_lattice_278 M (fun μ => f_Mo_lattice_409 M μ) 4096 μ x1 x2 (iz at') (iz f) (iz n) (iz (3 - f - n)) (iz (at' + s)) (iz (at' + s + s4 (3 - f - n))) (iz 0) := by
    intro s
    unfold f_Mo_lattice_246 f_Mo_lattice_272
    have hm' : 3 - f - n = 0 ∨ 3 - f - n = 1 ∨ 3 - f - n = 2 := by omega
    rw [iz_add]
    generalize 3 - f - n = mm at hm' ⊢
    rcases hm' with rfl | rfl | rfl
    · rw [if_pos (by decide), zi_16, iz_add, zi_0]
      rfl
    · rw [if_neg (by decide), if_pos (by decide), zi_4, iz_add, zi_0]
      rfl
    · rw [if_neg (by decide), if_neg (by decide), zi_1, iz_add, zi_0]
      rfl
  unfold f_Mo_lattice_212
  rw [zi_3, iz_sub, iz_sub]
  have hf' : f = 0 ∨ f = 1 ∨ f = 2 := by omega
  rcases hf' with rfl | rfl | rfl
  · rw [if_pos (by decide), zi_16]
    exact h246 16
  · rw [if_neg (by decide), if_pos (by decide), zi_4]
    exact h246 4
  · rw [if_neg (by decide), if_neg (by decide), zi_1]
    exact h246 1
theorem nm_96 (h : NM μ M A S L v o m) (hR : ∀ i, 0 ≤ i → i < 3 → 0 ≤ o i ∧ o i ≤ 65535) {x1 x2 : Int32} {at' : Int} : f_Mo_lattice_96 M μ x1 x2 (iz at') = f_Mo_lattice_278 M (fun μ => f_Mo_lattice_409 M μ) 4096 μ x1 x2 (iz at') (iz (fA o)) (iz (nA o)) (iz (3 - fA o - nA o)) (iz (at' + s4 (fA o))) (iz (at' + s4 (fA o) + s4 (3 - fA o - nA o))) (iz 0) := by
  have r0 := hR 0 (by omega) (by omega)
  have r1 := hR 1 (by omega) (by omega)
  have r2 := hR 2 (by omega) (by omega)
  have g0 := nm_go h (i := 0) (by omega) (by omega)
  have g1 := nm_go h (i := 1) (by omega) (by omega)
  have g2 := nm_go h (i := 2) (by omega) (by omega)
  have J0 : jR (o 0) := jR_s (by omega) (by omega)
  have J1 : jR (o 1) := jR_s (by omega) (by omega)
  have J2 : jR (o 2) := jR_s (by omega) (by omega)
  have nc := nA_cases o
  have fc := fl_cases o
  have e153 : f_Mo_lattice_153 M μ x1 x2 (iz at') (iz (fA o)) = f_Mo_lattice_212 M μ x1 x2 (iz at') (iz (fA o)) (iz (nA o)) := by
    unfold f_Mo_lattice_153 nA
    have hf' : fA o = 0 ∨ fA o = 1 ∨ fA o = 2 := by omega
    generalize fA o = f at hf'
    rcases hf' with rfl | rfl | rfl
    · rw [if_neg (by decide), if_neg (by decide), nm_f19 h, Option.bind_some, zi_2, g2, Option.bind_some, Option.bind_some, zi_1, iz_sub, show (1 : Int) - 0 = 1 from rfl, g1, Option.bind_some]
      by_cases hh : o 1 < o 2
      · rw [if_pos ((jz_lt J1 J2).mpr hh), if_neg (by omega)]
      · rw [if_neg (fun q => hh ((jz_lt J1 J2).mp q)), if_pos (by omega)]
    · rw [if_neg (by decide), if_neg (by decide), nm_f19 h, Option.bind_some, zi_2, g2, Option.bind_some, Option.bind_some, zi_1, iz_sub, show (1 : Int) - 1 = 0 from rfl, g0, Option.bind_some]
      by_cases hh : o 0 < o 2
      · rw [if_pos ((jz_lt J0 J2).mpr hh), if_neg (by omega)]
      · rw [if_neg (fun q => hh ((jz_lt J0 J2).mp q)), if_pos (by omega)]
    · rw [if_pos (by decide), if_pos rfl, nm_f19 h, Option.bind_some, zi_0, g0, Option.bind_some, Option.bind_some, zi_1, g1, Option.bind_some]
      by_cases hh : o 1 < o 0
      · rw [if_pos ((jz_lt J1 J0).mpr hh), if_neg (by omega)]
      · rw [if_neg (fun q => hh ((jz_lt J1 J0).mp q)), if_pos (by omega)]
  have e132 : fA o ≠ 0 → f_Mo_lattice_132 M μ x1 x2 (iz at') = f_Mo_lattice_153 M μ x1 x2 (iz at') (iz (fA o)) := by
    intro hn0
    unfold f_Mo_lattice_132
    rw [nm_f19 h, Option.bind_some, zi_1, g1, Option.bind_some, Option.bind_some, zi_2, g2, Option.bind_some]
    by_cases hh : o 1 < o 2
    · rw [if_pos ((jz_lt J1 J2).mpr hh), show fA o = 2 by omega]
    · rw [if_neg (fun q => hh ((jz_lt J1 J2).mp q)), show fA o = 1 by omega]
  rw [← nm_212 (by omega) (by omega) (by omega), ← e153]
  unfold f_Mo_lattice_96
  rw [nm_f19 h, Option.bind_some, zi_0, g0, Option.bind_some, Option.bind_some, zi_1, g1, Option.bind_some]
  by_cases hh : o 0 < o 1
  · rw [if_pos ((jz_lt J0 J1).mpr hh)]
    exact e132 (by omega)
  · rw [if_neg (fun q => hh ((jz_lt J0 J1).mp q)), Option.bind_some, g0, Option.bind_some, Option.bind_some, zi_2, g2, Option.bind_some]
    by_cases h2 : o 0 < o 2
    · rw [if_pos ((jz_lt J0 J2).mpr h2)]
      exact e132 (by omega)
    · rw [if_neg (fun q => h2 ((jz_lt J0 J2).mp q)), show fA o = 0 by omega]
theorem nm_l2 (h : NM μ M A S L v o m) (hk : KA A) {p od : Int} (hp : 0 ≤ p) (hp6 : p < 6) (hE : EG (bp (kp A) p) od) {g : Int} (hg : g = bp (kp A) p (od + 1)) {c : Int → Int} (hl : ∀ i : Nat, i < 3 → lvl (c i)) (ho : o = gr g c) (kx : mM → Option mM) {fu : Nat} {ch : Int} (h0 : 0 ≤ ch) (h1 : ch < 3) {at' : Int} (ha : at' = 16 * gt g c 0 + 4 * gt g c 1 + gt g c 2) : ∃ μ', f_Mo_lattice_278 M kx (fu + 1) μ (iz p) (iz od) (iz at') (iz (fA o)) (iz (nA o)) (iz (3 - fA o - nA o)) (iz (at' + s4 (fA o))) (iz (at' + s4 (fA o) + s4 (3 - fA o - nA o))) (iz ch) = f_Mo_lattice_278 M kx fu μ' (iz p) (iz od) (iz at') (iz (fA o)) (iz (nA o)) (iz (3 - fA o - nA o)) (iz (at' + s4 (fA o))) (iz (at' + s4 (fA o) + s4 (3 - fA o - nA o))) (iz (ch + 1)) ∧ NM μ' M A S L (zu v ch (latz g (nbz (bp (kp A) p) od) c ch)) o m ∧ Out M μ μ' := by
  have nc := nA_cases o
  have fc := fl_cases o
  have kr := nm_KR h hk
  have hb : NB g (nbz (bp (kp A) p) od) := ⟨by rw [hg]; exact hE.2.1, fun j _ _ => bp_R kr p _⟩
  have SR := latS_R hb hl h0 h1
  have RL := ref_lat g (nbz (bp (kp A) p) od) o (nd g (gt g c)) ch
  obtain ⟨m1, s1, k1, o1⟩ := nm_sv h h0 h1 (latz g (nbz (bp (kp A) p) od) c ch)
  refine ⟨m1, ?_, k1, o1⟩
  have hg2 : 2 ≤ g := by have := hb.1; omega
  have ht : ∀ i : Nat, i < 3 → 0 ≤ gt g c i ∧ gt g c i ≤ g - 2 := fun i hi => by
    have := smi_R hg2 (hl i hi).1 (hl i hi).2
    exact ⟨this.1, this.2.1⟩
  obtain ⟨N0, N1, N2, N3⟩ := km_nodes kr hp hp6 hE hg ht (f := fA o) (m := 3 - fA o - nA o) (ch := ch) (by omega) (by omega) (by omega) h0 h1
  rw [← ha] at N0 N1 N2 N3
  have G0 := nm_go h (i := fA o) (by omega) (by omega)
  have G1 := nm_go h (i := 3 - fA o - nA o) (by omega) (by omega)
  have G2 := nm_go h (i := nA o) (by omega) (by omega)
  rw [f_Mo_lattice_278, zi_3, if_neg (fun q => by have := (iz_le (iR_s (by omega) (by omega)) (iR_s (by omega) (by omega))).mp q; omega)]
  rw [nm_f19 h, Option.bind_some, G0, Option.bind_some, N0, Option.bind_some, Option.bind_some, G0, Option.bind_some, Option.bind_some, G1, Option.bind_some, N1, Option.bind_some, Option.bind_some, G1, Option.bind_some, Option.bind_some, G2, Option.bind_some, N2, Option.bind_some, Option.bind_some, G2, Option.bind_some, zi_21, iz_add, N3, Option.bind_some, nm_f18 h, Option.bind_some]
  rw [zj_65535, jz_sub, jz_mul, jz_sub, jz_mul, jz_add, jz_sub, jz_mul, jz_mul, jz_add, jz_add]
  change (f_Mo_near μ (jz (refS g (nbz (bp (kp A) p) od) o (fA o) (3 - fA o - nA o) (nA o) (nd g (gt g c)) ch)) (jz 65535)).bind _ = _
  rw [RL]
  have ez : latz g (nbz (bp (kp A) p) od) c ch = nz (latS g (nbz (bp (kp A) p) od) o (fA o) (3 - fA o - lA o) (lA o) (nd g (gt g c)) ch) 65535 := by
    rw [ho]
    rfl
  rw [← ho] at SR
  rw [mo_near ⟨by omega, by omega, by omega, by omega⟩, Option.bind_some, ← ez, s1, Option.bind_some, zi_1, iz_add]
theorem nm_lat (h : NM μ M A S L v o m) (hk : KA A) {p od : Int} (hp : 0 ≤ p) (hp6 : p < 6) (hE : EG (bp (kp A) p) od) (hl : ∀ i : Nat, i < 3 → lvl (o i)) : ∃ μ' o', f_Mo_lattice M μ (iz p) (iz od) = some μ' ∧ NM μ' M A S L (latz (bp (kp A) p (od + 1)) (nbz (bp (kp A) p) od) o) o' m ∧ Out M μ μ' := by
  have kr := nm_KR h hk
  obtain ⟨g, hg⟩ : ∃ g, g = bp (kp A) p (od + 1) := ⟨_, rfl⟩
  rw [← hg]
  have hg2 : g = 2 ∨ g = 3 := by rw [hg]; exact hE.2.1
  have hb : NB g (nbz (bp (kp A) p) od) := ⟨hg2, fun j _ _ => bp_R kr p _⟩
  have hod : od + 1 < 256 := by
    have := hE.2.2
    rw [← hg] at this
    rcases hg2 with e | e <;> rw [e] at this <;> omega
  obtain ⟨r, -⟩ := lat_R hb hl
  obtain ⟨m1, s1, k1, o1⟩ := nm_l1 h (fun μ y1 y2 y4 => f_Mo_lattice_96 M μ y1 y2 y4) (fu := 4095) (y1 := iz p) (y2 := iz od) (at' := 0) (i := 0) (c := o) hg2 (by omega) (by omega) rfl (hl 0 (by omega))
  obtain ⟨m2, s2, k2, o2⟩ := nm_l1 k1 (fun μ y1 y2 y4 => f_Mo_lattice_96 M μ y1 y2 y4) (fu := 4094) (y1 := iz p) (y2 := iz od) (at' := 4 * 0 + gt g o 0) (i := 1) (c := o) hg2 (by omega) (by omega) (by simp [zu]) (hl 1 (by omega))
  obtain ⟨m3, s3, k3, o3⟩ := nm_l1 k2 (fun μ y1 y2 y4 => f_Mo_lattice_96 M μ y1 y2 y4) (fu := 4093) (y1 := iz p) (y2 := iz od) (at' := 4 * (4 * 0 + gt g o 0) + gt g o 1) (i := 2) (c := o) hg2 (by omega) (by omega) (by simp [zu]) (hl 2 (by omega))
  have K3 : NM m3 M A S L v (gr g o) m := nm_ext k3 (fun _ _ => rfl) (lt3 (by simp [zu]) (by simp [zu]) (by simp [zu])) (fun _ _ => rfl)
  have ea : 4 * (4 * (4 * 0 + gt g o 0) + gt g o 1) + gt g o 2 = 16 * gt g o 0 + 4 * gt g o 1 + gt g o 2 := by omega
  obtain ⟨m4, s4', k4, o4⟩ := nm_l2 K3 hk hp hp6 hE hg hl rfl (fun μ => f_Mo_lattice_409 M μ) (fu := 4095) (ch := 0) (by omega) (by omega) rfl
  obtain ⟨m5, s5, k5, o5⟩ := nm_l2 k4 hk hp hp6 hE hg hl rfl (fun μ => f_Mo_lattice_409 M μ) (fu := 4094) (ch := 1) (by omega) (by omega) rfl
  obtain ⟨m6, s6, k6, o6⟩ := nm_l2 k5 hk hp hp6 hE hg hl rfl (fun μ => f_Mo_lattice_409 M μ) (fu := 4093) (ch := 2) (by omega) (by omega) rfl
  refine ⟨m6, gr g o, ?_, nm_ext k6 (lt3 (by simp [zu]) (by simp [zu]) (by simp [zu])) (fun _ _ => rfl) (fun _ _ => rfl), ((((o1.tr o2).tr o3).tr o4).tr o5).tr o6⟩
  unfold f_Mo_lattice
  rw [nm_rc h, Option.bind_some, zi_1, iz_add, km_part kr hp hp6 (by have := hE.1; omega) (by omega), Option.bind_some, ← hg, zi_0]
  refine s1.trans (s2.trans (s3.trans ?_))
  rw [f_Mo_lattice_15, zi_3, if_pos (by decide), ea]
  rw [nm_96 K3 r]
  refine s4'.trans (s5.trans (s6.trans ?_))
  rw [f_Mo_lattice_278, zi_3, if_pos (by decide)]
  rfl
end LAT
