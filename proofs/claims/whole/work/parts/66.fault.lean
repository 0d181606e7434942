/-! The rules of a profile: what is told, and the class's telling. -/
theorem qlt {α : Type} {a b : Int} (ha : iR a) (hb : iR b) (x y : α) : (if iz a < iz b then x else y) = if a < b then x else y := by
  by_cases h : a < b
  · rw [if_pos h, if_pos ((iz_lt ha hb).mpr h)]
  · rw [if_neg h, if_neg (fun q => h ((iz_lt ha hb).mp q))]
theorem qle {α : Type} {a b : Int} (ha : iR a) (hb : iR b) (x y : α) : (if iz a ≤ iz b then x else y) = if a ≤ b then x else y := by
  by_cases h : a ≤ b
  · rw [if_pos h, if_pos ((iz_le ha hb).mpr h)]
  · rw [if_neg h, if_neg (fun q => h ((iz_le ha hb).mp q))]
theorem qeq {α : Type} {a b : Int} (ha : iR a) (hb : iR b) (x y : α) : (if iz a = iz b then x else y) = if a = b then x else y := by
  by_cases h : a = b
  · rw [if_pos h, if_pos ((iz_eq ha hb).mpr h)]
  · rw [if_neg h, if_neg (fun q => h ((iz_eq ha hb).mp q))]
theorem ilt {a b : Int} (ha : iR a) (hb : iR b) : (iz a < iz b) = (a < b) := propext (iz_lt ha hb)
theorem ile {a b : Int} (ha : iR a) (hb : iR b) : (iz a ≤ iz b) = (a ≤ b) := propext (iz_le ha hb)
theorem ieq {a b : Int} (ha : iR a) (hb : iR b) : (iz a = iz b) = (a = b) := propext (iz_eq ha hb)
theorem one_ne {α : Type} (x y : α) : (if (1 : Int32) = 0 then x else y) = y := if_neg (by decide)
theorem zero_eq {α : Type} (x y : α) : (if (0 : Int32) = 0 then x else y) = x := if_pos rfl
def hsE (b : Int → Int) (s : Int) : Nat → Int → Bool
  | 0, _ => false
  | m + 1, i => decide (b (8 + 4 * i) = s) || hsE b s m (i + 1)
theorem hsE_s (b : Int → Int) (s : Int) (m : Nat) (i : Int) : hsE b s (m + 1) i = (decide (b (8 + 4 * i) = s) || hsE b s m (i + 1)) := rfl
abbrev ovP (b : Int → Int) (o l i : Int) : Prop := ¬ ((b (9 + 4 * i) = o ∧ b (10 + 4 * i) = l) ∨ b (9 + 4 * i) + b (10 + 4 * i) ≤ o ∨ o + l ≤ b (9 + 4 * i))
def ovE (b : Int → Int) (o l : Int) : Nat → Int → Bool
  | 0, _ => false
  | m + 1, i => decide (ovP b o l i) || ovE b o l m (i + 1)
theorem ovE_s (b : Int → Int) (o l : Int) (m : Nat) (i : Int) : ovE b o l (m + 1) i = (decide (ovP b o l i) || ovE b o l m (i + 1)) := rfl
abbrev fit (s t : Int) : Prop := (s ≤ 4 ∧ (t = 1 ∨ t = 2)) ∨ (s = 5 ∧ t = 3) ∨ ((6 ≤ s ∧ s ≤ 11) ∧ t = 4) ∨ (12 ≤ s ∧ t = 5)
abbrev lok (t c l : Int) : Prop := (t = 1 ∧ c ≤ 24 ∧ c ≠ 1 ∧ l = 2 + 2 * c) ∨ (t = 2 ∧ (1 ≤ c ∧ c ≤ 4) ∧ l = 6) ∨ (t = 3 ∧ c = 0 ∧ l = 20) ∨ (t = 4 ∧ ((c = 2 ∧ l = 26) ∨ (c = 3 ∧ l = 83))) ∨ (t = 5 ∧ c = 0 ∧ l = 8)
def efz (b : Int → Int) (n k : Int) : Int :=
  if b (8 + 4 * k) < 1 ∨ 12 < b (8 + 4 * k) ∨ hsE b (b (8 + 4 * k)) k.toNat 0 = true then 3000 + (8 + 4 * k)
  else if b (9 + 4 * k) % 4 ≠ 0 ∨ b (9 + 4 * k) < 8 + 4 * b 6 ∨ b (10 + 4 * k) < 2 ∨ n < b (9 + 4 * k) + b (10 + 4 * k) then 4001 + (8 + 4 * k)
  else if b (11 + 4 * k) ≠ 0 then 5003 + (8 + 4 * k)
  else if ovE b (b (9 + 4 * k)) (b (10 + 4 * k)) k.toNat 0 = true then 6001 + (8 + 4 * k)
  else if ¬ fit (b (8 + 4 * k)) (b (b (9 + 4 * k))) then 7000 + b (9 + 4 * k)
  else if ¬ lok (b (b (9 + 4 * k))) (b (b (9 + 4 * k) + 1)) (b (10 + 4 * k)) then 8001 + b (9 + 4 * k)
  else 0
def efL (b : Int → Int) (n : Int) : Nat → Int → Int
  | 0, _ => 0
  | m + 1, i => if efz b n i = 0 then efL b n m (i + 1) else efz b n i
def wyz (b : Int → Int) : Bool := if b 3 = 1 then hsE b 1 (b 6).toNat 0 else hsE b 6 (b 6).toNat 0 || (decide (b 4 = 0) && (hsE b 2 (b 6).toNat 0 && (hsE b 3 (b 6).toNat 0 && (hsE b 4 (b 6).toNat 0 && hsE b 5 (b 6).toNat 0))))
def ftz (b : Int → Int) (n : Int) : Int :=
  if n < 12 ∨ n % 4 ≠ 0 ∨ 256 * b 0 + b 1 ≠ n then 1000
  else if ¬ (b 2 = 1 ∨ b 2 = 2) then 2002
  else if ¬ (b 3 = 1 ∨ b 3 = 3) then 2003
  else if ¬ (b 4 = 0 ∨ b 4 = 1) then 2004
  else if b 5 ≠ 0 then 2005
  else if ¬ (1 ≤ b 6 ∧ b 6 ≤ 12 ∧ 8 + 4 * b 6 ≤ n) then 2006
  else if b 7 ≠ 0 then 2007
  else if efL b n (b 6).toNat 0 ≠ 0 then efL b n (b 6).toNat 0
  else if wyz b = true then 0 else 9003
theorem efz_R {b : Int → Int} (hb : Byt b) {n k : Int} (h0 : 0 ≤ k) (h1 : k ≤ 60) : 0 ≤ efz b n k ∧ efz b n k ≤ 10000 := by
  have h9 := hb (9 + 4 * k)
  unfold efz
  repeat' split
  all_goals omega
theorem efL_R {b : Int → Int} (hb : Byt b) {n : Int} : ∀ (m : Nat) (i : Int), 0 ≤ i → i + m ≤ 60 → 0 ≤ efL b n m i ∧ efL b n m i ≤ 10000 := by
  intro m
  induction m with
  | zero => intro i _ _; unfold efL; omega
  | succ m ih =>
    intro i h0 h1
    unfold efL
    split
    · exact ih (i + 1) (by omega) (by omega)
    · exact efz_R hb h0 (by omega)
section CFT
variable {μ : mM} {X : Nat} {n : Nat} {b : Int → Int}
theorem bI_0 (u : Bool) : (iz (bI u) = (0 : Int32)) ↔ u = false := by
  cases u
  · exact ⟨fun _ => rfl, fun _ => rfl⟩
  · exact ⟨fun q => absurd q (by decide), fun q => (by cases q)⟩
theorem qbI {α : Type} (u : Bool) (x y : α) : (if iz (bI u) = (0 : Int32) then x else y) = if u = true then y else x := by
  cases u
  · rw [if_pos ((bI_0 false).mpr rfl), if_neg (by decide)]
  · rw [if_neg (fun q => by have := (bI_0 true).mp q; cases this), if_pos rfl]
theorem mz_b (u : Bool) : mz (iz (bI u)) = some (iz (bI u)) := by
  cases u
  · exact mz_0
  · exact mz_1
theorem cl_hasL (h : BU μ X n b) (hn : n ≤ 256) (hb : Byt b) {s : Int} (hs : iR s) : ∀ (m fu : Nat) (k N : Int), m < fu → 0 ≤ k → k + m = N → 8 + 4 * N ≤ n → f_Buffer_hasEntry_2 μ (X + 1) (fun (_ : Unit) => f_Buffer_hasEntry_30 μ (X + 1)) fu (iz s) (iz N) (iz k) = some (iz (bI (hsE b s m k))) := by
  obtain ⟨e1, e2, e3⟩ := bu_e h
  intro m
  induction m with
  | zero =>
    intro fu k N hf hk hN h8
    obtain ⟨fu, rfl⟩ : ∃ m, fu = m + 1 := ⟨fu - 1, by omega⟩
    rw [f_Buffer_hasEntry_2, qle (iR_s (by omega) (by omega)) (iR_s (by omega) (by omega)), if_pos (by omega)]
    rfl
  | succ m ih =>
    intro fu k N hf hk hN h8
    obtain ⟨fu, rfl⟩ : ∃ m, fu = m + 1 := ⟨fu - 1, by omega⟩
    have hb2 := hb (8 + 4 * k)
    rw [f_Buffer_hasEntry_2, qle (iR_s (by omega) (by omega)) (iR_s (by omega) (by omega)), if_neg (by omega), e2, Option.bind_some, zi_8, zi_4, iz_mul, iz_add, bu_g h hn (by omega) (by omega), Option.bind_some, qeq (iR_s (by omega) (by omega)) hs, zi_1, iz_add, ih fu (k + 1) N (by omega) (by omega) (by omega) h8]
    rw [hsE_s]
    by_cases hc : b (8 + 4 * k) = s
    · rw [if_pos hc, decide_eq_true hc, Bool.true_or]
      rfl
    · rw [if_neg hc, decide_eq_false hc, Bool.false_or]
theorem cl_has (h : BU μ X n b) (hn : n ≤ 256) (hb : Byt b) {s N : Int} (hs : iR s) (h0 : 0 ≤ N) (h8 : 8 + 4 * N ≤ n) : ((mrc μ (some (X + 1)) 1).bind fun a => f_Buffer_hasEntry μ a (iz s) (iz N)) = some (iz (bI (hsE b s N.toNat 0))) := by
  rw [(bu_e h).1, Option.bind_some]
  unfold f_Buffer_hasEntry
  rw [zi_0, cl_hasL h hn hb hs N.toNat 4096 0 N (by omega) (by omega) (by omega) h8]
theorem cl_ovL (h : BU μ X n b) (hn : n ≤ 256) (hb : Byt b) {o l : Int} (ho : 0 ≤ o ∧ o < 256) (hl : 0 ≤ l ∧ l < 256) : ∀ (m fu : Nat) (k N : Int), m < fu → 0 ≤ k → k + m = N → 8 + 4 * N ≤ n → f_Buffer_overlapsEarlier_3 μ (X + 1) (fun (_ : Unit) => f_Buffer_overlapsEarlier_98 μ (X + 1)) fu (iz N) (iz o) (iz l) (iz k) = some (iz (bI (ovE b o l m k))) := by
  obtain ⟨e1, e2, e3⟩ := bu_e h
  intro m
  induction m with
  | zero =>
    intro fu k N hf hk hN h8
    obtain ⟨fu, rfl⟩ : ∃ m, fu = m + 1 := ⟨fu - 1, by omega⟩
    rw [f_Buffer_overlapsEarlier_3, qle (iR_s (by omega) (by omega)) (iR_s (by omega) (by omega)), if_pos (by omega)]
    rfl
  | succ m ih =>
    intro fu k N hf hk hN h8
    obtain ⟨fu, rfl⟩ : ∃ m, fu = m + 1 := ⟨fu - 1, by omega⟩
    have h9 := hb (9 + 4 * k)
    have h10 := hb (10 + 4 * k)
    have e5 := ih fu (k + 1) N (by omega) (by omega) (by omega) h8
    rw [f_Buffer_overlapsEarlier_3, qle (iR_s (by omega) (by omega)) (iR_s (by omega) (by omega)), if_neg (by omega), e2, Option.bind_some, zi_9, zi_10, zi_4, iz_mul, iz_add, bu_g h hn (by omega) (by omega), Option.bind_some, Option.bind_some, iz_add, bu_g h hn (by omega) (by omega), Option.bind_some]
    unfold f_Buffer_overlapsEarlier_53 f_Buffer_overlapsEarlier_54 f_Buffer_overlapsEarlier_73 f_Buffer_overlapsEarlier_78 f_Buffer_overlapsEarlier_92
    simp only [one_ne, zero_eq, if_true]
    rw [ovE_s, zi_1, iz_add k 1, e5, iz_add o l, iz_add (b (9 + 4 * k)) (b (10 + 4 * k))]
    simp only [ieq (a := b (9 + 4 * k)) (b := o) (iR_s (by omega) (by omega)) (iR_s (by omega) (by omega)), ieq (a := b (10 + 4 * k)) (b := l) (iR_s (by omega) (by omega)) (iR_s (by omega) (by omega)), ile (a := b (9 + 4 * k) + b (10 + 4 * k)) (b := o) (iR_s (by omega) (by omega)) (iR_s (by omega) (by omega)), ilt (a := b (9 + 4 * k)) (b := o + l) (iR_s (by omega) (by omega)) (iR_s (by omega) (by omega))]
    by_cases hc : ovP b o l k
    · rw [decide_eq_true hc, Bool.true_or]
      repeat' split
      all_goals first | rfl | (exfalso; unfold ovP at hc; omega)
    · rw [decide_eq_false hc, Bool.false_or]
      repeat' split
      all_goals first | rfl | (exfalso; unfold ovP at hc; omega)
theorem cl_ov (h : BU μ X n b) (hn : n ≤ 256) (hb : Byt b) {o l N : Int} (ho : 0 ≤ o ∧ o < 256) (hl : 0 ≤ l ∧ l < 256) (h0 : 0 ≤ N) (h8 : 8 + 4 * N ≤ n) : ((mrc μ (some (X + 1)) 1).bind fun a => f_Buffer_overlapsEarlier μ a (iz N) (iz o) (iz l)) = some (iz (bI (ovE b o l N.toNat 0))) := by
  rw [(bu_e h).1, Option.bind_some]
  unfold f_Buffer_overlapsEarlier
  rw [zi_0, cl_ovL h hn hb ho hl N.toNat 4096 0 N (by omega) (by omega) (by omega) h8]
theorem cl_type {s t : Int} (hs : 1 ≤ s ∧ s ≤ 12) (ht : 0 ≤ t ∧ t < 256) : f_Buffer_isTypeFor μ (iz s) (iz t) = some (iz (bI (decide (fit s t)))) := by
  unfold f_Buffer_isTypeFor f_Buffer_isTypeFor_15 f_Buffer_isTypeFor_20 f_Buffer_isTypeFor_36 f_Buffer_isTypeFor_49 f_Buffer_isTypeFor_57
  rw [mz_0, mz_1, Option.bind_some, Option.bind_some, zi_4, zi_5, zi_3, zi_11, zi_2, zi_1, zi_0]
  simp only [ilt (a := 4) (b := s) (iR_s (by omega) (by omega)) (iR_s (by omega) (by omega)), ieq (a := s) (b := 5) (iR_s (by omega) (by omega)) (iR_s (by omega) (by omega)), ieq (a := t) (b := 3) (iR_s (by omega) (by omega)) (iR_s (by omega) (by omega)), ilt (a := 11) (b := s) (iR_s (by omega) (by omega)) (iR_s (by omega) (by omega)), ieq (a := t) (b := 5) (iR_s (by omega) (by omega)) (iR_s (by omega) (by omega)), ieq (a := t) (b := 4) (iR_s (by omega) (by omega)) (iR_s (by omega) (by omega)), ieq (a := t) (b := 1) (iR_s (by omega) (by omega)) (iR_s (by omega) (by omega)), ieq (a := t) (b := 2) (iR_s (by omega) (by omega)) (iR_s (by omega) (by omega))]
  by_cases hc : fit s t
  · rw [decide_eq_true hc]
    repeat' split
    all_goals first | rfl | (exfalso; unfold fit at hc; omega)
  · rw [decide_eq_false hc]
    repeat' split
    all_goals first | rfl | (exfalso; unfold fit at hc; omega)
theorem cl_len {t c l : Int} (ht : 1 ≤ t ∧ t ≤ 5) (hc : 0 ≤ c ∧ c < 256) (hl : 0 ≤ l ∧ l < 256) : f_Buffer_isLengthFor μ (iz t) (iz c) (iz l) = some (iz (bI (decide (lok t c l)))) := by
  have e3 : c = 2 ∨ c = 3 ∨ ¬ (c = 2 ∨ c = 3) := by omega
  unfold f_Buffer_isLengthFor f_Buffer_isLengthFor_139 f_Buffer_isLengthFor_106 f_Buffer_isLengthFor_123 f_Buffer_isLengthFor_94 f_Buffer_isLengthFor_78 f_Buffer_isLengthFor_56
  unfold f_Buffer_isLengthFor_140 f_Buffer_isLengthFor_124 f_Buffer_isLengthFor_95 f_Buffer_isLengthFor_79 f_Buffer_isLengthFor_57
  rw [mz_0, mz_1, Option.bind_some, Option.bind_some, zi_24, zi_2, zi_6, zi_3, zi_20, zi_4, zi_8, zi_1, zi_0, iz_mul, iz_add, iz_mul, iz_mul, iz_mul, iz_add]
  simp only [ieq (a := t) (b := 1) (iR_s (by omega) (by omega)) (iR_s (by omega) (by omega)), ilt (a := 24) (b := c) (iR_s (by omega) (by omega)) (iR_s (by omega) (by omega)), ieq (a := c) (b := 1) (iR_s (by omega) (by omega)) (iR_s (by omega) (by omega)), ieq (a := l) (b := 2 + 2 * c) (iR_s (by omega) (by omega)) (iR_s (by omega) (by omega)), ieq (a := t) (b := 2) (iR_s (by omega) (by omega)) (iR_s (by omega) (by omega)), ilt (a := c) (b := 1) (iR_s (by omega) (by omega)) (iR_s (by omega) (by omega)), ilt (a := 4) (b := c) (iR_s (by omega) (by omega)) (iR_s (by omega) (by omega)), ieq (a := l) (b := 6) (iR_s (by omega) (by omega)) (iR_s (by omega) (by omega)), ieq (a := t) (b := 3) (iR_s (by omega) (by omega)) (iR_s (by omega) (by omega)), ieq (a := c) (b := 0) (iR_s (by omega) (by omega)) (iR_s (by omega) (by omega)), ieq (a := l) (b := 20) (iR_s (by omega) (by omega)) (iR_s (by omega) (by omega)), ieq (a := t) (b := 4) (iR_s (by omega) (by omega)) (iR_s (by omega) (by omega)), ieq (a := c) (b := 2) (iR_s (by omega) (by omega)) (iR_s (by omega) (by omega)), ieq (a := c) (b := 3) (iR_s (by omega) (by omega)) (iR_s (by omega) (by omega)), ieq (a := l) (b := 8) (iR_s (by omega) (by omega)) (iR_s (by omega) (by omega))]
  rcases e3 with rfl | rfl | e3
  · rw [qeq (a := l) (b := 2 + 3 * 2 * 2 * 2) (iR_s (by omega) (by omega)) (iR_s (by omega) (by omega))]
    by_cases hk : lok t 2 l
    · rw [decide_eq_true hk]
      repeat' split
      all_goals first | rfl | (exfalso; unfold lok at hk; omega)
    · rw [decide_eq_false hk]
      repeat' split
      all_goals first | rfl | (exfalso; unfold lok at hk; omega)
  · rw [qeq (a := l) (b := 2 + 3 * 3 * 3 * 3) (iR_s (by omega) (by omega)) (iR_s (by omega) (by omega))]
    by_cases hk : lok t 3 l
    · rw [decide_eq_true hk]
      repeat' split
      all_goals first | rfl | (exfalso; unfold lok at hk; omega)
    · rw [decide_eq_false hk]
      repeat' split
      all_goals first | rfl | (exfalso; unfold lok at hk; omega)
  · rw [if_neg (show ¬ c = 2 by omega), if_neg (show ¬ c = 3 by omega)]
    by_cases hk : lok t c l
    · rw [decide_eq_true hk]
      repeat' split
      all_goals first | rfl | (exfalso; unfold lok at hk; omega)
    · rw [decide_eq_false hk]
      repeat' split
      all_goals first | rfl | (exfalso; unfold lok at hk; omega)
theorem iz_rem {a : Int} (h0 : 0 ≤ a) (h1 : a < 100000) : iz a - iz a / iz 4 * iz 4 = iz (a % 4) := by
  rw [iz_div (iR_s (by omega) (by omega)) (iR_s (by omega) (by omega)) (by omega), iz_mul, iz_sub, Int.tdiv_eq_ediv_of_nonneg h0]
  congr 1
  omega
end CFT
