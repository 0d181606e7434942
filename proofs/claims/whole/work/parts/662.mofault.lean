/-! The reference's fault. -/
section RFU
variable {μ : mM} {M : Nat} {A : Nat → Nat → Int32} {S : Nat → Int32} {L : Nat → Int64} {n : Nat} {b : Int → Int}
theorem rm_hasL (h : RB μ M A S L) (hA : BA A S n b) (hn : n ≤ 256) (hb : Byt b) (h6 : b 6 ≤ 12) (h8 : 8 + 4 * b 6 ≤ n) {s : Int} (hs : iR s) (kx : Int32 → Option Int32) : ∀ (m fu : Nat) (k : Int) (u : Bool), m < fu → 0 ≤ k → k + m = b 6 → f_Mo_has_4 μ M kx fu (iz s) (iz (bI u)) (iz k) = kx (iz (bI (u || hsE b s m k))) := by
  have q6 := hb 6
  intro m
  induction m with
  | zero =>
    intro fu k u hf hk hm
    obtain ⟨fu, rfl⟩ : ∃ m, fu = m + 1 := ⟨fu - 1, by omega⟩
    rw [f_Mo_has_4, (rb_f0 h).1, Option.bind_some, zi_6, rb_g0 h hA (by omega) (by omega) hn, Option.bind_some, qle (iR_s (by omega) (by omega)) (iR_s (by omega) (by omega)), if_pos (by omega)]
    unfold hsE
    rw [Bool.or_false]
  | succ m ih =>
    intro fu k u hf hk hm
    obtain ⟨fu, rfl⟩ : ∃ m, fu = m + 1 := ⟨fu - 1, by omega⟩
    have q8 := hb (8 + 4 * k)
    have i1 := ih fu (k + 1) (u || decide (b (8 + 4 * k) = s)) (by omega) (by omega) (by omega)
    rw [f_Mo_has_4, (rb_f0 h).1, Option.bind_some, zi_6, rb_g0 h hA (by omega) (by omega) hn, Option.bind_some, qle (iR_s (by omega) (by omega)) (iR_s (by omega) (by omega)), if_neg (by omega), qbI, Option.bind_some, zi_8, zi_4, iz_mul, iz_add, rb_g0 h hA (by omega) (by omega) hn, Option.bind_some, qeq (iR_s (by omega) (by omega)) hs]
    unfold f_Mo_has_34 f_Mo_has_39 hsE
    rw [← Bool.or_assoc, ← i1, zi_1, iz_add, zi_0]
    cases u
    · by_cases hc : b (8 + 4 * k) = s
      · rw [if_neg (by decide), if_pos hc, decide_eq_true hc]
        rfl
      · rw [if_neg (by decide), if_neg hc, decide_eq_false hc]
        rfl
    · rw [if_pos rfl]
      rfl
theorem rm_has (h : RB μ M A S L) (hA : BA A S n b) (hn : n ≤ 256) (hb : Byt b) (h6 : b 6 ≤ 12) (h8 : 8 + 4 * b 6 ≤ n) {s : Int} (hs : iR s) : ((mrc μ (some M) 11).bind fun a => f_Mo_has μ a (iz s)) = some (iz (bI (hsE b s (b 6).toNat 0))) := by
  have q6 := hb 6
  rw [rb_rc h, Option.bind_some]
  unfold f_Mo_has
  rw [zi_0]
  have e := rm_hasL h hA hn hb h6 h8 hs (fun y2 => f_Mo_has_46 μ M y2) (b 6).toNat 4096 0 false (by omega) (by omega) (by omega)
  rw [show iz (bI false) = iz 0 by rfl] at e
  rw [e, Bool.false_or]
  unfold f_Mo_has_46
  rw [mz_b, Option.bind_some]
theorem rm_efL (h : RB μ M A S L) (hA : BA A S n b) (hn : n ≤ 256) (hb : Byt b) {s o l k : Int} {x2 : Int32} (hs : iR s) (ho : 0 ≤ o ∧ o < 256) (hl : 0 ≤ l ∧ l < 256) (hk : 8 + 4 * k ≤ n) (kx : Int32 → Int32 → Int32 → Int32 → Int32 → Int32 → Int32 → Option Int32) : ∀ (m fu : Nat) (i : Int) (u w : Bool), m < fu → 0 ≤ i → i + m = k → f_Mo_entryFault_45 μ M kx fu x2 (iz (8 + 4 * k)) (iz s) (iz o) (iz l) (iz (bI u)) (iz (bI w)) (iz (8 + 4 * i)) = kx x2 (iz (8 + 4 * k)) (iz s) (iz o) (iz l) (iz (bI (u || hsE b s m i))) (iz (bI (w && !ovE b o l m i))) := by
  intro m
  induction m with
  | zero =>
    intro fu i u w hf hi hm
    obtain ⟨fu, rfl⟩ : ∃ m, fu = m + 1 := ⟨fu - 1, by omega⟩
    rw [f_Mo_entryFault_45, qle (iR_s (by omega) (by omega)) (iR_s (by omega) (by omega)), if_pos (by omega)]
    unfold hsE ovE
    rw [Bool.or_false, Bool.not_false, Bool.and_true]
  | succ m ih =>
    intro fu i u w hf hi hm
    obtain ⟨fu, rfl⟩ : ∃ m, fu = m + 1 := ⟨fu - 1, by omega⟩
    have q8 := hb (8 + 4 * i)
    have q9 := hb (9 + 4 * i)
    have q10 := hb (10 + 4 * i)
    have i1 := ih fu (i + 1) (u || decide (b (8 + 4 * i) = s)) (w && !decide (ovP b o l i)) (by omega) (by omega) (by omega)
    have p1 : 8 + 4 * i + 1 = 9 + 4 * i := by omega
    have p2 : 8 + 4 * i + 2 = 10 + 4 * i := by omega
    have p4 : 8 + 4 * i + 4 = 8 + 4 * (i + 1) := by omega
    have e1 : (u || hsE b s (m + 1) i) = (u || decide (b (8 + 4 * i) = s) || hsE b s m (i + 1)) := by
      rw [Bool.or_assoc]
      rfl
    have e2 : (w && !ovE b o l (m + 1) i) = (w && !decide (ovP b o l i) && !ovE b o l m (i + 1)) := by
      rw [Bool.and_assoc, ← Bool.not_or]
      rfl
    rw [e1, e2, ← i1]
    rw [f_Mo_entryFault_45, qle (iR_s (by omega) (by omega)) (iR_s (by omega) (by omega)), if_neg (by omega), (rb_f0 h).1, Option.bind_some, zi_1, iz_add, p1, rb_g0 h hA (by omega) (by omega) hn, Option.bind_some, Option.bind_some, zi_2, iz_add, p2, rb_g0 h hA (by omega) (by omega) hn, Option.bind_some, qbI, Option.bind_some, rb_g0 h hA (by omega) (by omega) hn, Option.bind_some, qeq (iR_s (by omega) (by omega)) hs]
    unfold f_Mo_entryFault_90 f_Mo_entryFault_95 f_Mo_entryFault_116 f_Mo_entryFault_136 f_Mo_entryFault_140 f_Mo_entryFault_141
    simp only [qbI]
    rw [zi_4, iz_add (8 + 4 * i) 4, p4, iz_add o l, iz_add (b (9 + 4 * i)) (b (10 + 4 * i)), zi_1, zi_0]
    simp only [ieq (a := b (9 + 4 * i)) (b := o) (iR_s (by omega) (by omega)) (iR_s (by omega) (by omega)), ieq (a := b (10 + 4 * i)) (b := l) (iR_s (by omega) (by omega)) (iR_s (by omega) (by omega)), ile (a := b (9 + 4 * i) + b (10 + 4 * i)) (b := o) (iR_s (by omega) (by omega)) (iR_s (by omega) (by omega)), ilt (a := b (9 + 4 * i)) (b := o + l) (iR_s (by omega) (by omega)) (iR_s (by omega) (by omega))]
    have hv : ∀ (x : Int32), (if w = true then (if b (9 + 4 * i) = o then (if b (10 + 4 * i) = l then f_Mo_entryFault_45 μ M kx fu x2 (iz (8 + 4 * k)) (iz s) (iz o) (iz l) x (iz 1) (iz (8 + 4 * (i + 1))) else if b (9 + 4 * i) + b (10 + 4 * i) ≤ o then f_Mo_entryFault_45 μ M kx fu x2 (iz (8 + 4 * k)) (iz s) (iz o) (iz l) x (iz 1) (iz (8 + 4 * (i + 1))) else if b (9 + 4 * i) < o + l then f_Mo_entryFault_45 μ M kx fu x2 (iz (8 + 4 * k)) (iz s) (iz o) (iz l) x (iz 0) (iz (8 + 4 * (i + 1))) else f_Mo_entryFault_45 μ M kx fu x2 (iz (8 + 4 * k)) (iz s) (iz o) (iz l) x (iz 1) (iz (8 + 4 * (i + 1)))) else if b (9 + 4 * i) + b (10 + 4 * i) ≤ o then f_Mo_entryFault_45 μ M kx fu x2 (iz (8 + 4 * k)) (iz s) (iz o) (iz l) x (iz 1) (iz (8 + 4 * (i + 1))) else if b (9 + 4 * i) < o + l then f_Mo_entryFault_45 μ M kx fu x2 (iz (8 + 4 * k)) (iz s) (iz o) (iz l) x (iz 0) (iz (8 + 4 * (i + 1))) else f_Mo_entryFault_45 μ M kx fu x2 (iz (8 + 4 * k)) (iz s) (iz o) (iz l) x (iz 1) (iz (8 + 4 * (i + 1)))) else f_Mo_entryFault_45 μ M kx fu x2 (iz (8 + 4 * k)) (iz s) (iz o) (iz l) x (iz 0) (iz (8 + 4 * (i + 1)))) = f_Mo_entryFault_45 μ M kx fu x2 (iz (8 + 4 * k)) (iz s) (iz o) (iz l) x (iz (bI (w && !decide (ovP b o l i)))) (iz (8 + 4 * (i + 1))) := by
      intro x
      cases w
      · rw [if_neg (by decide)]
        rfl
      · rw [if_pos rfl, Bool.true_and]
        by_cases hc : ovP b o l i
        · rw [decide_eq_true hc]
          repeat' split
          all_goals first | rfl | (exfalso; unfold ovP at hc; omega)
        · rw [decide_eq_false hc]
          repeat' split
          all_goals first | rfl | (exfalso; unfold ovP at hc; omega)
    rw [hv, hv]
    cases u
    · rw [if_neg (by decide), Bool.false_or]
      by_cases hc : b (8 + 4 * i) = s
      · rw [if_pos hc, decide_eq_true hc]
        rfl
      · rw [if_neg hc, decide_eq_false hc]
        rfl
    · rw [if_pos rfl]
      rfl
theorem rm_506 {o l d : Int} (hl : iR l) (hd : iR d) (u : Bool) : f_Mo_entryFault_506 μ M (iz o) (iz l) (iz (bI u)) (iz d) = some (iz (if u = true ∧ l = d then 0 else 8001 + o)) := by
  unfold f_Mo_entryFault_506 f_Mo_entryFault_524 f_Mo_entryFault_530
  rw [qbI, qeq hl hd, zi_8001, iz_add, zi_0]
  cases u
  · rw [if_neg (by decide), if_neg (fun q => by cases q.1)]
  · rw [if_pos rfl]
    by_cases hc : l = d
    · rw [if_pos hc, if_pos ⟨rfl, hc⟩]
    · rw [if_neg hc, if_neg (fun q => hc q.2)]
theorem rm_444 {o l t c : Int} (ht : 1 ≤ t ∧ t ≤ 5) (hc : 0 ≤ c ∧ c < 256) (hl : 0 ≤ l ∧ l < 256) (u : Bool) : f_Mo_entryFault_444 μ M (iz o) (iz l) (iz t) (iz c) (iz (bI u)) = some (iz (if u = true ∧ l = (if t = 1 then 2 + 2 * c else if t = 2 then 6 else if t = 3 then 20 else if t = 4 then 2 + 3 * c * c * c else 8) then 0 else 8001 + o)) := by
  have hcc : iR (2 + 3 * c * c * c) := by
    have h1 : 0 ≤ c * c := Int.mul_nonneg hc.1 hc.1
    have h2 : c * c ≤ 256 * 256 := Int.mul_le_mul (by omega) (by omega) hc.1 (by omega)
    have h3 : 0 ≤ c * c * c := Int.mul_nonneg h1 hc.1
    have h4 : c * c * c ≤ 256 * 256 * 256 := Int.mul_le_mul (by omega) (by omega) hc.1 (by omega)
    have h5 : 3 * c * c * c = 3 * (c * c * c) := by rw [Int.mul_assoc 3 c c, Int.mul_assoc 3 (c * c) c]
    rw [h5]
    exact iR_s (by omega) (by omega)
  unfold f_Mo_entryFault_444
  rw [zi_2, zi_6, zi_3, zi_20, zi_4, zi_8, zi_1, iz_mul, iz_add, iz_mul, iz_mul, iz_mul, iz_add, rm_506 (iR_s (by omega) (by omega)) (iR_s (by omega) (by omega)), rm_506 (iR_s (by omega) (by omega)) (iR_s (by omega) (by omega)), rm_506 (iR_s (by omega) (by omega)) (iR_s (by omega) (by omega)), rm_506 (iR_s (by omega) (by omega)) hcc, rm_506 (iR_s (by omega) (by omega)) (iR_s (by omega) (by omega))]
  rw [qeq (b := 1) (iR_s (by omega) (by omega)) (iR_s (by omega) (by omega)), qeq (b := 2) (iR_s (by omega) (by omega)) (iR_s (by omega) (by omega)), qeq (b := 3) (iR_s (by omega) (by omega)) (iR_s (by omega) (by omega)), qeq (b := 4) (iR_s (by omega) (by omega)) (iR_s (by omega) (by omega))]
  by_cases t1 : t = 1
  · rw [if_pos t1, if_pos t1]
  · rw [if_neg t1, if_neg t1]
    by_cases t2 : t = 2
    · rw [if_pos t2, if_pos t2]
    · rw [if_neg t2, if_neg t2]
      by_cases t3 : t = 3
      · rw [if_pos t3, if_pos t3]
      · rw [if_neg t3, if_neg t3]
        by_cases t4 : t = 4
        · rw [if_pos t4, if_pos t4]
        · rw [if_neg t4, if_neg t4]
theorem rm_336 {o l t c : Int} (ht : 1 ≤ t ∧ t ≤ 5) (hc : 0 ≤ c ∧ c < 256) (hl : 0 ≤ l ∧ l < 256) : f_Mo_entryFault_336 μ M (iz o) (iz l) (iz t) (iz c) (1 : Int32) = some (iz (if lok t c l then 0 else 8001 + o)) := by
  have h1 := rm_444 (μ := μ) (M := M) (o := o) ht hc hl true
  have h0 := rm_444 (μ := μ) (M := M) (o := o) ht hc hl false
  rw [show iz (bI true) = (1 : Int32) by rfl] at h1
  simp only [eq_self, true_and] at h1
  rw [show iz (bI false) = (0 : Int32) by rfl, if_neg (fun q => by cases q.1)] at h0
  unfold f_Mo_entryFault_336 f_Mo_entryFault_374 f_Mo_entryFault_378 f_Mo_entryFault_404 f_Mo_entryFault_426
  rw [h1, h0, if_neg (show ¬ ((1 : Int32) = 0) by decide), zi_2, zi_24, zi_4, zi_3, zi_1, zi_0]
  simp only [ieq (a := t) (b := 1) (iR_s (by omega) (by omega)) (iR_s (by omega) (by omega)), ieq (a := c) (b := 0) (iR_s (by omega) (by omega)) (iR_s (by omega) (by omega)), ilt (a := c) (b := 2) (iR_s (by omega) (by omega)) (iR_s (by omega) (by omega)), ilt (a := 24) (b := c) (iR_s (by omega) (by omega)) (iR_s (by omega) (by omega)), ieq (a := t) (b := 2) (iR_s (by omega) (by omega)) (iR_s (by omega) (by omega)), ilt (a := c) (b := 1) (iR_s (by omega) (by omega)) (iR_s (by omega) (by omega)), ilt (a := 4) (b := c) (iR_s (by omega) (by omega)) (iR_s (by omega) (by omega)), ieq (a := t) (b := 4) (iR_s (by omega) (by omega)) (iR_s (by omega) (by omega)), ieq (a := c) (b := 2) (iR_s (by omega) (by omega)) (iR_s (by omega) (by omega)), ieq (a := c) (b := 3) (iR_s (by omega) (by omega)) (iR_s (by omega) (by omega))]
  unfold lok
  have e3 : c = 2 ∨ c = 3 ∨ ¬ (c = 2 ∨ c = 3) := by omega
  rcases e3 with rfl | rfl | e3
  · repeat' split
    all_goals first | rfl | (exfalso; omega)
  · repeat' split
    all_goals first | rfl | (exfalso; omega)
  · rw [if_neg (show ¬ c = 2 by omega), if_neg (show ¬ c = 3 by omega)]
    repeat' split
    all_goals first | rfl | (exfalso; omega)
end RFU
