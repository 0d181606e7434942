/-! The number of elements: both sides. -/
def ofE (b : Int → Int) (o : Int) : Nat → Int → Bool
  | 0, _ => false
  | m + 1, i => decide (b (9 + 4 * i) = o) || ofE b o m (i + 1)
theorem ofE_i (b : Int → Int) (o : Int) : ∀ (m : Nat) (i : Int), ofE b o m i = true ↔ ∃ j, i ≤ j ∧ j < i + m ∧ b (9 + 4 * j) = o := by
  intro m
  induction m with
  | zero =>
    intro i
    exact ⟨fun h => (by cases h), fun ⟨j, h1, h2, _⟩ => absurd h2 (by omega)⟩
  | succ m ih =>
    intro i
    unfold ofE
    rw [Bool.or_eq_true, decide_eq_true_iff, ih]
    constructor
    · rintro (h | ⟨j, h1, h2, h3⟩)
      · exact ⟨i, by omega, by omega, h⟩
      · exact ⟨j, by omega, by omega, h3⟩
    · rintro ⟨j, h1, h2, h3⟩
      by_cases e : j = i
      · exact Or.inl (e ▸ h3)
      · exact Or.inr ⟨j, by omega, by omega, h3⟩
def elF (b : Int → Int) (k : Nat) (i : Nat) : Bool := ofE b (4 * (i : Int)) k 0
def oneF (a : Nat) (i : Nat) : Bool := decide (a ≤ i ∧ i < a + 1)
theorem cnt_one {a N : Nat} (h : a < N) : cnt (oneF a) N = 1 := by
  have e := cnt_int a 1 N
  have e2 : cnt (oneF a) N = cnt (fun i => decide (a ≤ i ∧ i < a + 1)) N := cnt_congr N (fun _ _ => rfl)
  rw [e2, e]
  omega
theorem elF_i (b : Int → Int) (k i : Nat) : elF b k i = true ↔ ∃ j, 0 ≤ j ∧ j < (k : Int) ∧ b (9 + 4 * j) = 4 * (i : Int) := by
  unfold elF
  rw [ofE_i, Int.zero_add]
def elS (b : Int → Int) (k : Nat) : Nat := cnt (elF b k) 64
def elz (b : Int → Int) : Int := (elS b (b 6).toNat : Int)
section ELS
variable {b : Int → Int} {n : Nat}
theorem elS_0 : elS b 0 = 0 := by
  have e : cnt (elF b 0) 64 = 0 := cnt_zero 64 (fun _ _ => rfl)
  unfold elS
  exact e
theorem elS_s (hk : OKB b n) (hn : n ≤ 256) (hb : Byt b) {k : Nat} (h : (k : Int) < b 6) : elS b (k + 1) = elS b k + if ofE b (b (9 + 4 * (k : Int))) k 0 = true then 0 else 1 := by
  have hE := hk.2.2.2.2.2.2.2.1 k (by omega) h
  have e3 := hE.2.2.1
  have e4 := hE.2.2.2.1
  have h6 := hk.2.2.2.2.2.1
  have q9 := hb (9 + 4 * (k : Int))
  by_cases c : ofE b (b (9 + 4 * (k : Int))) k 0 = true
  · rw [if_pos c, Nat.add_zero]
    have e : ∀ i, i < 64 → elF b (k + 1) i = elF b k i := by
      intro i _
      rw [Bool.eq_iff_iff, elF_i, elF_i]
      constructor
      · rintro ⟨j, j0, j1, j2⟩
        by_cases cj : j = k
        · rw [cj] at j2
          rw [ofE_i] at c
          obtain ⟨j', d0, d1, d2⟩ := c
          exact ⟨j', d0, by omega, d2.trans j2⟩
        · exact ⟨j, j0, by omega, j2⟩
      · rintro ⟨j, j0, j1, j2⟩
        exact ⟨j, j0, by omega, j2⟩
    have e' : cnt (elF b (k + 1)) 64 = cnt (elF b k) 64 := cnt_congr 64 e
    unfold elS
    exact e'
  · rw [if_neg c]
    have e1 : ∀ i, i < 64 → elF b (k + 1) i = (elF b k i || oneF (b (9 + 4 * (k : Int)) / 4).toNat i) := by
      intro i hi
      unfold oneF
      rw [Bool.eq_iff_iff, Bool.or_eq_true, elF_i, elF_i, decide_eq_true_iff]
      constructor
      · rintro ⟨j, j0, j1, j2⟩
        by_cases cj : j = k
        · right
          rw [cj] at j2
          omega
        · exact Or.inl ⟨j, j0, by omega, j2⟩
      · rintro (⟨j, j0, j1, j2⟩ | cc)
        · exact ⟨j, j0, by omega, j2⟩
        · exact ⟨k, by omega, by omega, by omega⟩
    have e2 : ∀ i, i < 64 → elF b k i = true → oneF (b (9 + 4 * (k : Int)) / 4).toNat i = true → False := by
      intro i hi q1 q2
      unfold oneF at q2
      rw [elF_i] at q1
      rw [decide_eq_true_iff] at q2
      obtain ⟨j, j0, j1, j2⟩ := q1
      exact c ((ofE_i _ _ _ _).mpr ⟨j, j0, by omega, by omega⟩)
    have e3 := cnt_add 64 e1 e2
    rw [cnt_one (by omega)] at e3
    unfold elS
    exact e3
theorem elS_le (k : Nat) : elS b k ≤ 64 := by
  have e := cnt_int 0 64 64
  have h : cnt (elF b k) 64 ≤ cnt (fun i => decide (0 ≤ i ∧ i < 0 + 64)) 64 := cnt_le 64 (fun i hi _ => by rw [decide_eq_true_iff]; omega)
  rw [e] at h
  unfold elS
  exact h
theorem cl_elI {μ : mM} {X : Nat} (h : BU μ X n b) (hn : n ≤ 256) (hb : Byt b) (kx : Int32 → Int32 → Int32 → Option Int32) {k : Int} {x1 : Int32} (hk : 12 + 4 * k ≤ n) (hk0 : 0 ≤ k) : ∀ (m fu : Nat) (j : Int) (u : Bool), m < fu → 0 ≤ j → j + m = k → f_Buffer_countElements_20 μ (X + 1) kx fu x1 (iz k) (iz (bI u)) (iz j) = kx x1 (iz k) (iz (bI (u || ofE b (b (9 + 4 * k)) m j))) := by
  intro m
  induction m with
  | zero =>
    intro fu j u hf hj hm
    obtain ⟨fu, rfl⟩ : ∃ m, fu = m + 1 := ⟨fu - 1, by omega⟩
    rw [f_Buffer_countElements_20, qle (iR_s (by omega) (by omega)) (iR_s (by omega) (by omega)), if_pos (by omega)]
    unfold ofE
    rw [Bool.or_false]
  | succ m ih =>
    intro fu j u hf hj hm
    obtain ⟨fu, rfl⟩ : ∃ m, fu = m + 1 := ⟨fu - 1, by omega⟩
    have q1 := hb (9 + 4 * j)
    have q2 := hb (9 + 4 * k)
    have i1 := ih fu (j + 1) (u || decide (b (9 + 4 * j) = b (9 + 4 * k))) (by omega) (by omega) (by omega)
    have e1 : (u || ofE b (b (9 + 4 * k)) (m + 1) j) = (u || decide (b (9 + 4 * j) = b (9 + 4 * k)) || ofE b (b (9 + 4 * k)) m (j + 1)) := by
      rw [Bool.or_assoc]
      rfl
    rw [e1, ← i1, f_Buffer_countElements_20, qle (iR_s (by omega) (by omega)) (iR_s (by omega) (by omega)), if_neg (by omega), qbI, (bu_e h).2.1, Option.bind_some, zi_9, zi_4, iz_mul, iz_add, bu_g h hn (by omega) (by omega), Option.bind_some, Option.bind_some, iz_mul, iz_add, bu_g h hn (by omega) (by omega), Option.bind_some, qeq (iR_s (by omega) (by omega)) (iR_s (by omega) (by omega))]
    unfold f_Buffer_countElements_56 f_Buffer_countElements_61
    rw [zi_1, iz_add, zi_0]
    cases u
    · rw [if_neg (by decide), Bool.false_or]
      by_cases c : b (9 + 4 * j) = b (9 + 4 * k)
      · rw [if_pos c, decide_eq_true c]
        rfl
      · rw [if_neg c, decide_eq_false c]
        rfl
    · rw [if_pos rfl]
      rfl
theorem cl_elL {μ : mM} {X : Nat} (h : BU μ X n b) (hk : OKB b n) (hn : n ≤ 256) (hb : Byt b) : ∀ (m fu k : Nat), m < fu → (k : Int) + m = b 6 → f_Buffer_countElements_4 μ (X + 1) (fun y1 => f_Buffer_countElements_86 μ (X + 1) y1) fu (iz (elS b k)) (iz k) = some (iz (elz b)) := by
  have h6 := hk.2.2.2.2.2.1
  intro m
  induction m with
  | zero =>
    intro fu k hf hm
    obtain ⟨fu, rfl⟩ : ∃ m, fu = m + 1 := ⟨fu - 1, by omega⟩
    rw [f_Buffer_countElements_4, (bu_e h).2.1, Option.bind_some, zi_6, bu_g h hn (by omega) (by omega), Option.bind_some, qle (iR_s (by omega) (by omega)) (iR_s (by omega) (by omega)), if_pos (by omega)]
    unfold f_Buffer_countElements_86 elz
    rw [show k = (b 6).toNat by omega]
  | succ m ih =>
    intro fu k hf hm
    obtain ⟨fu, rfl⟩ : ∃ m, fu = m + 1 := ⟨fu - 1, by omega⟩
    have I := cl_elI h hn hb (fun y1 y2 y3 => f_Buffer_countElements_68 μ (X + 1) (f_Buffer_countElements_4 μ (X + 1) (fun y1 => f_Buffer_countElements_86 μ (X + 1) y1) fu) (fun y1 => f_Buffer_countElements_86 μ (X + 1) y1) y1 y2 y3) (k := k) (x1 := iz (elS b k)) (by omega) (by omega) k 4096 0 false (by omega) (by omega) (by omega)
    rw [show iz (bI false) = iz 0 by rfl] at I
    rw [f_Buffer_countElements_4, (bu_e h).2.1, Option.bind_some, zi_6, bu_g h hn (by omega) (by omega), Option.bind_some, qle (iR_s (by omega) (by omega)) (iR_s (by omega) (by omega)), if_neg (by omega), zi_0, I, Bool.false_or]
    have i1 := ih fu (k + 1) (by omega) (by omega)
    rw [elS_s hk hn hb (by omega)] at i1
    unfold f_Buffer_countElements_68 f_Buffer_countElements_78
    rw [qbI, zi_1, zi_0, iz_add, iz_add, iz_add]
    rw [← i1]
    by_cases c : ofE b (b (9 + 4 * (k : Int))) k 0 = true
    · rw [if_pos c, if_pos c]
      rfl
    · rw [if_neg c, if_neg c]
      rfl
theorem cl_el {μ : mM} {X : Nat} (h : BU μ X n b) (hk : OKB b n) (hn : n ≤ 256) (hb : Byt b) : ((mrc μ (some (X + 1)) 1).bind fun a => f_Buffer_countElements μ a) = some (iz (elz b)) := by
  have h6 := hk.2.2.2.2.2.1
  rw [(bu_e h).1, Option.bind_some]
  unfold f_Buffer_countElements
  have e := cl_elL h hk hn hb (b 6).toNat 4096 0 (by omega) (by omega)
  rw [elS_0] at e
  exact e
/-! the reference -/
def dtE (b : Int → Int) (o : Int) : Nat → Int → Bool
  | 0, _ => false
  | m + 1, s => decide (da b s = o) || dtE b o m (s + 1)
theorem dtE_i (b : Int → Int) (o : Int) : ∀ (m : Nat) (i : Int), dtE b o m i = true ↔ ∃ j, i ≤ j ∧ j < i + m ∧ da b j = o := by
  intro m
  induction m with
  | zero =>
    intro i
    exact ⟨fun h => (by cases h), fun ⟨j, h1, h2, _⟩ => absurd h2 (by omega)⟩
  | succ m ih =>
    intro i
    unfold dtE
    rw [Bool.or_eq_true, decide_eq_true_iff, ih]
    constructor
    · rintro (h | ⟨j, h1, h2, h3⟩)
      · exact ⟨i, by omega, by omega, h⟩
      · exact ⟨j, by omega, by omega, h3⟩
    · rintro ⟨j, h1, h2, h3⟩
      by_cases e : j = i
      · exact Or.inl (e ▸ h3)
      · exact Or.inr ⟨j, by omega, by omega, h3⟩
def dtF (b : Int → Int) (i : Nat) : Bool := dtE b (4 * (i : Int)) 12 1
theorem el_dt1 (hk : OKB b n) (i : Nat) : dtF b i = elF b (b 6).toNat i := by
  have h6 := hk.2.2.2.2.2.1
  unfold dtF
  rw [Bool.eq_iff_iff, dtE_i, elF_i]
  constructor
  · rintro ⟨s, s0, s1, s2⟩
    have hp : 0 ≤ en b s := by
      unfold da at s2
      by_cases c : en b s < 0
      · rw [if_pos c] at s2; omega
      · omega
    obtain ⟨k, k0, k1, k2, k3⟩ := ok_at hk hp
    refine ⟨k, k0, by omega, ?_⟩
    rw [← s2]
    unfold da
    rw [if_neg (by omega), k2, show 8 + 4 * k + 1 = 9 + 4 * k by omega]
  · rintro ⟨k, k0, k1, k2⟩
    have hE := (hk.2.2.2.2.2.2.2.1 k k0 (by omega)).1
    refine ⟨b (8 + 4 * k), hE.1, by omega, ?_⟩
    have := ok_k hk k0 (show k < b 6 by omega)
    unfold da
    rw [this, if_neg (by omega), show 8 + 4 * k + 1 = 9 + 4 * k by omega, k2]
theorem el_dt (hk : OKB b n) : cnt (dtF b) 64 = elS b (b 6).toNat := by
  have h6 := hk.2.2.2.2.2.1
  have e : ∀ i, i < 64 → dtF b i = elF b (b 6).toNat i := by
    exact fun i _ => el_dt1 hk i
  have e' : cnt (dtF b) 64 = cnt (elF b (b 6).toNat) 64 := cnt_congr 64 e
  unfold elS
  exact e'
end ELS
section ELR
variable {μ : mM} {M : Nat} {K : Int → Int}
theorem da_R {b : Int → Int} (hb : Byt b) (s : Int) : -1 ≤ da b s ∧ da b s < 256 := by
  unfold da
  split
  · omega
  · have := hb (en b s + 1)
    omega
theorem rm_elI (h : KR μ M K) {p : Int} (hp : 0 ≤ p) (hp6 : p < 6) (h60 : bp K p 6 ≤ 60) (kx : Int32 → Int32 → Int32 → Int32 → Option Int32) {x2 : Int32} {o : Int} (ho : iR o) : ∀ (m fu : Nat) (s : Int) (u : Bool), m < fu → 1 ≤ s → s + m = 13 → f_Mo_elements_27 μ M kx fu (iz p) x2 (iz o) (iz (bI u)) (iz s) = kx (iz p) x2 (iz o) (iz (bI (u || dtE (bp K p) o m s))) := by
  intro m
  induction m with
  | zero =>
    intro fu s u hf hs hm
    obtain ⟨fu, rfl⟩ : ∃ m, fu = m + 1 := ⟨fu - 1, by omega⟩
    rw [f_Mo_elements_27, zi_12, qlt (iR_s (by omega) (by omega)) (iR_s (by omega) (by omega)), if_pos (by omega)]
    unfold dtE
    rw [Bool.or_false]
  | succ m ih =>
    intro fu s u hf hs hm
    obtain ⟨fu, rfl⟩ : ∃ m, fu = m + 1 := ⟨fu - 1, by omega⟩
    have i1 := ih fu (s + 1) (u || decide (da (bp K p) s = o)) (by omega) (by omega) (by omega)
    have e1 : (u || dtE (bp K p) o (m + 1) s) = (u || decide (da (bp K p) s = o) || dtE (bp K p) o m (s + 1)) := by
      rw [Bool.or_assoc]
      rfl
    have dR := da_R (fun i => bp_R h p i) s
    rw [e1, ← i1, f_Mo_elements_27, zi_12, qlt (iR_s (by omega) (by omega)) (iR_s (by omega) (by omega)), if_neg (by omega), h.1, Option.bind_some, km_data h hp hp6 (iR_s (by omega) (by omega)) h60, Option.bind_some, qbI, qeq (iR_s (by omega) (by omega)) ho]
    unfold f_Mo_elements_54 f_Mo_elements_59
    rw [zi_1, iz_add, zi_0]
    cases u
    · rw [if_neg (by decide), Bool.false_or]
      by_cases c : da (bp K p) s = o
      · rw [if_pos c, decide_eq_true c]
        rfl
      · rw [if_neg c, decide_eq_false c]
        rfl
    · rw [if_pos rfl]
      rfl
theorem rm_elL (h : KR μ M K) {p : Int} (hp : 0 ≤ p) (hp6 : p < 6) (h60 : bp K p 6 ≤ 60) : ∀ (m fu i : Nat), m < fu → i + m = 64 → f_Mo_elements_14 μ M (fun y2 => f_Mo_elements_86 μ M y2) fu (iz p) (iz (cnt (dtF (bp K p)) i)) (iz (4 * i)) = some (iz (cnt (dtF (bp K p)) 64)) := by
  intro m
  induction m with
  | zero =>
    intro fu i hf hm
    obtain ⟨fu, rfl⟩ : ∃ m, fu = m + 1 := ⟨fu - 1, by omega⟩
    obtain rfl : i = 64 := by omega
    rw [f_Mo_elements_14, zi_256, qle (iR_s (by omega) (by omega)) (iR_s (by omega) (by omega)), if_pos (by omega)]
    rfl
  | succ m ih =>
    intro fu i hf hm
    obtain ⟨fu, rfl⟩ : ∃ m, fu = m + 1 := ⟨fu - 1, by omega⟩
    have I := rm_elI h hp hp6 h60 (fun y1 y2 y3 y4 => f_Mo_elements_67 μ M (f_Mo_elements_14 μ M (fun y2 => f_Mo_elements_86 μ M y2) fu) (fun y2 => f_Mo_elements_86 μ M y2) y1 y2 y3 y4) (x2 := iz (cnt (dtF (bp K p)) i)) (o := 4 * (i : Int)) (iR_s (by omega) (by omega)) 12 4096 1 false (by omega) (by omega) (by omega)
    rw [show iz (bI false) = iz 0 by rfl] at I
    rw [f_Mo_elements_14, zi_256, qle (iR_s (by omega) (by omega)) (iR_s (by omega) (by omega)), if_neg (by omega), zi_0, zi_1, I, Bool.false_or]
    have i1 := ih fu (i + 1) (by omega) (by omega)
    have e1 : cnt (dtF (bp K p)) (i + 1) = cnt (dtF (bp K p)) i + if dtE (bp K p) (4 * (i : Int)) 12 1 = true then 1 else 0 := rfl
    rw [e1] at i1
    unfold f_Mo_elements_67 f_Mo_elements_79
    rw [qbI, zi_4, zi_1, iz_add, iz_add, ← i1, show 4 * (i : Int) + 4 = 4 * ((i + 1 : Nat) : Int) by omega]
    by_cases c : dtE (bp K p) (4 * (i : Int)) 12 1 = true
    · rw [if_pos c, if_pos c]
      rfl
    · rw [if_neg c, if_neg c]
      rfl
theorem rm_el {A : Nat → Nat → Int32} {S : Nat → Int32} {L : Nat → Int64} {np : Nat} (h : RB μ M A S L) (hk : KA A) (hS3 : S 3 = nI np) (hn : np ≤ 6) (hO : ∀ p : Nat, p < np → ∃ n : Nat, n ≤ 256 ∧ OKB (bp (kp A) p) n) {p : Int} (ip : iR p) : f_Mo_elements μ M (iz p) = some (iz (if 0 ≤ p ∧ p < np then elz (bp (kp A) p) else -1)) := by
  unfold f_Mo_elements
  rw [rb_there h hS3 hn ip, Option.bind_some, qbI, zi_m1]
  by_cases c : 0 ≤ p ∧ p < np
  · obtain ⟨n, n1, n2⟩ := hO p.toNat (by omega)
    rw [Int.toNat_of_nonneg c.1] at n2
    have h6 := n2.2.2.2.2.2.1
    rw [decide_eq_true c, if_pos rfl, if_pos c]
    have e := rm_elL (rb_KR h hk) c.1 (by omega) (by omega) 64 4096 0 (by omega) (by omega)
    rw [el_dt n2] at e
    exact e
  · rw [decide_eq_false c, if_neg (by decide), if_neg c]
end ELR
