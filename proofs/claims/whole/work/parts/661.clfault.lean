/-! The class's fault. -/
section CFU
variable {μ : mM} {X : Nat} {n : Nat} {b : Int → Int}
theorem brk {r p x : Int} (e : 1000 * r + p = x) : ((f_Buffer_broken μ (iz r) (iz p)).bind fun q => some q) = some (iz (-x)) := by
  unfold f_Buffer_broken
  rw [Option.bind_some, zi_1000, iz_mul, iz_add, iz_neg, e]
theorem cl_entry (h : BU μ X n b) (hn : n ≤ 256) (hb : Byt b) (h6 : b 6 ≤ 12) (h8 : 8 + 4 * b 6 ≤ n) {k : Int} (hk0 : 0 ≤ k) (hk : k < b 6) : ((mrc μ (some (X + 1)) 1).bind fun a => f_Buffer_entryFault μ a (iz k)) = some (iz (-(efz b n k))) := by
  obtain ⟨e1, e2, e3⟩ := bu_e h
  have q8 := hb (8 + 4 * k)
  have q9 := hb (9 + 4 * k)
  have q10 := hb (10 + 4 * k)
  have q11 := hb (11 + 4 * k)
  have p1 : 8 + 4 * k + 1 = 9 + 4 * k := by omega
  have p2 : 8 + 4 * k + 2 = 10 + 4 * k := by omega
  have p3 : 8 + 4 * k + 3 = 11 + 4 * k := by omega
  rw [e1, Option.bind_some]
  unfold f_Buffer_entryFault f_Buffer_entryFault_102 f_Buffer_entryFault_54 efz
  rw [e2, Option.bind_some, zi_8, zi_4, iz_mul, iz_add, bu_g h hn (by omega) (by omega), Option.bind_some, Option.bind_some, zi_1, iz_add, p1, bu_g h hn (by omega) (by omega), Option.bind_some, Option.bind_some, zi_2, iz_add, p2, bu_g h hn (by omega) (by omega), Option.bind_some]
  obtain ⟨s, es⟩ : ∃ s, b (8 + 4 * k) = s := ⟨_, rfl⟩
  obtain ⟨o, eo⟩ : ∃ o, b (9 + 4 * k) = o := ⟨_, rfl⟩
  obtain ⟨l, el⟩ : ∃ l, b (10 + 4 * k) = l := ⟨_, rfl⟩
  rw [es] at q8
  rw [eo] at q9
  rw [el] at q10
  rw [es, eo, el, zi_3, zi_12, qlt (a := s) (b := 1) (iR_s (by omega) (by omega)) (iR_s (by omega) (by omega)), qlt (a := 12) (b := s) (iR_s (by omega) (by omega)) (iR_s (by omega) (by omega)), cl_has h hn hb (iR_s (by omega) (by omega)) hk0 (by omega), Option.bind_some, qbI]
  by_cases c1 : s < 1 ∨ 12 < s ∨ hsE b s k.toNat 0 = true
  · rw [if_pos c1, brk (x := 3000 + (8 + 4 * k)) (by omega)]
    by_cases d1 : s < 1
    · rw [if_pos d1]
    · rw [if_neg d1]
      by_cases d2 : 12 < s
      · rw [if_pos d2]
      · rw [if_neg d2]
        have d3 : hsE b s k.toNat 0 = true := by
          rcases c1 with q | q | q
          · exact absurd q d1
          · exact absurd q d2
          · exact q
        rw [if_pos d3]
  · rw [if_neg c1, if_neg (fun q => c1 (Or.inl q)), if_neg (fun q => c1 (Or.inr (Or.inl q))), if_neg (fun q => c1 (Or.inr (Or.inr q)))]
    rw [iz_rem (by omega) (by omega), zi_0, qeq (a := o % 4) (iR_s (by omega) (by omega)) (iR_s (by omega) (by omega)), Option.bind_some, zi_6, bu_g h hn (by omega) (by omega), Option.bind_some, iz_mul, iz_add, qlt (a := o) (iR_s (by omega) (by omega)) (iR_s (by omega) (by omega)), qlt (a := l) (iR_s (by omega) (by omega)) (iR_s (by omega) (by omega)), e3, Option.bind_some, nI_iz, iz_add, qle (a := o + l) (iR_s (by omega) (by omega)) (iR_s (by omega) (by omega))]
    by_cases c2 : o % 4 ≠ 0 ∨ o < 8 + 4 * b 6 ∨ l < 2 ∨ (n : Int) < o + l
    · rw [if_pos c2]
      repeat' split
      all_goals first | exact brk (by omega) | (exfalso; omega)
    · rw [if_neg c2, if_pos (show o % 4 = 0 by omega), if_neg (show ¬ o < 8 + 4 * b 6 by omega), if_neg (show ¬ l < 2 by omega), if_pos (show o + l ≤ n by omega)]
      rw [Option.bind_some, iz_add, p3, bu_g h hn (by omega) (by omega), Option.bind_some, qeq (a := b (11 + 4 * k)) (iR_s (by omega) (by omega)) (iR_s (by omega) (by omega))]
      by_cases c3 : b (11 + 4 * k) = 0
      · rw [if_pos c3, if_neg (show ¬ b (11 + 4 * k) ≠ 0 by omega), cl_ov h hn hb q9 q10 hk0 (by omega), Option.bind_some, ← zi_0, qbI]
        by_cases c4 : ovE b o l k.toNat 0 = true
        · rw [if_pos c4, if_pos c4]
          exact brk (by omega)
        · have qt := hb o
          have qc := hb (o + 1)
          rw [if_neg c4, if_neg c4, Option.bind_some, bu_g h hn (by omega) (by omega), Option.bind_some, cl_type (by omega) qt, Option.bind_some, qbI]
          by_cases c5 : fit s (b o)
          · have ht : 1 ≤ b o ∧ b o ≤ 5 := by unfold fit at c5; omega
            rw [decide_eq_true c5, if_pos rfl, if_neg (not_not_intro c5), Option.bind_some, bu_g h hn (by omega) (by omega), Option.bind_some, Option.bind_some, iz_add, bu_g h hn (by omega) (by omega), Option.bind_some, cl_len ht qc q10, Option.bind_some, qbI]
            by_cases c6 : lok (b o) (b (o + 1)) l
            · rw [decide_eq_true c6, if_pos rfl, if_neg (not_not_intro c6)]
              rfl
            · rw [decide_eq_false c6, if_neg (by decide), if_pos c6]
              exact brk (by omega)
          · rw [decide_eq_false c5, if_neg (by decide), if_pos c5, zi_7]
            exact brk (by omega)
      · rw [if_neg c3, if_pos c3, zi_5]
        exact brk (by omega)
theorem cl_head1 {p v : Int} (h : BU μ X n b) (hn : n ≤ 256) (hp : 2 ≤ p ∧ p < 8) (hv : 0 ≤ v ∧ v < 256) : ((mrc μ (some (X + 1)) 1).bind fun a => f_Buffer_isHeadByte μ a (iz p) (iz v)) = some (iz (bI (decide ((p = 2 ∧ (v = 1 ∨ v = 2)) ∨ (p = 3 ∧ (v = 1 ∨ v = 3)) ∨ (p = 4 ∧ (v = 0 ∨ v = 1)) ∨ (p = 6 ∧ 1 ≤ v ∧ v ≤ 12 ∧ 8 + 4 * v ≤ n) ∨ ((p = 5 ∨ p = 7) ∧ v = 0))))) := by
  rw [(bu_e h).1, Option.bind_some]
  unfold f_Buffer_isHeadByte f_Buffer_isHeadByte_46 f_Buffer_isHeadByte_62 f_Buffer_isHeadByte_77 f_Buffer_isHeadByte_111
  unfold f_Buffer_isHeadByte_51 f_Buffer_isHeadByte_67 f_Buffer_isHeadByte_82 f_Buffer_isHeadByte_112 f_Buffer_isHeadByte_122
  rw [(bu_e h).2.2, Option.bind_some, mz_0, mz_1, Option.bind_some, Option.bind_some, zi_2, zi_3, zi_4, zi_5, zi_6, zi_8, zi_12, zi_1, zi_0, iz_mul, iz_add, nI_iz]
  simp only [ieq (a := p) (b := 2) (iR_s (by omega) (by omega)) (iR_s (by omega) (by omega)), ieq (a := v) (b := 1) (iR_s (by omega) (by omega)) (iR_s (by omega) (by omega)), ieq (a := v) (b := 2) (iR_s (by omega) (by omega)) (iR_s (by omega) (by omega)), ieq (a := p) (b := 3) (iR_s (by omega) (by omega)) (iR_s (by omega) (by omega)), ieq (a := v) (b := 3) (iR_s (by omega) (by omega)) (iR_s (by omega) (by omega)), ieq (a := p) (b := 4) (iR_s (by omega) (by omega)) (iR_s (by omega) (by omega)), ieq (a := v) (b := 0) (iR_s (by omega) (by omega)) (iR_s (by omega) (by omega)), ieq (a := p) (b := 5) (iR_s (by omega) (by omega)) (iR_s (by omega) (by omega)), ieq (a := p) (b := 6) (iR_s (by omega) (by omega)) (iR_s (by omega) (by omega)), ilt (a := v) (b := 1) (iR_s (by omega) (by omega)) (iR_s (by omega) (by omega)), ilt (a := 12) (b := v) (iR_s (by omega) (by omega)) (iR_s (by omega) (by omega)), ilt (a := (n : Int)) (b := 8 + 4 * v) (iR_s (by omega) (by omega)) (iR_s (by omega) (by omega))]
  by_cases hc : ((p = 2 ∧ (v = 1 ∨ v = 2)) ∨ (p = 3 ∧ (v = 1 ∨ v = 3)) ∨ (p = 4 ∧ (v = 0 ∨ v = 1)) ∨ (p = 6 ∧ 1 ≤ v ∧ v ≤ 12 ∧ 8 + 4 * v ≤ n) ∨ ((p = 5 ∨ p = 7) ∧ v = 0))
  · rw [decide_eq_true hc]
    repeat' split
    all_goals first | rfl | (exfalso; omega)
  · rw [decide_eq_false hc]
    repeat' split
    all_goals first | rfl | (exfalso; omega)
/-- the head's rules from place p on -/
def hdz (b : Int → Int) (n : Int) : Nat → Int → Int
  | 0, _ => 0
  | m + 1, p => if (p = 2 ∧ (b p = 1 ∨ b p = 2)) ∨ (p = 3 ∧ (b p = 1 ∨ b p = 3)) ∨ (p = 4 ∧ (b p = 0 ∨ b p = 1)) ∨ (p = 6 ∧ 1 ≤ b p ∧ b p ≤ 12 ∧ 8 + 4 * b p ≤ n) ∨ ((p = 5 ∨ p = 7) ∧ b p = 0) then hdz b n m (p + 1) else 2000 + p
theorem hdz_s (b : Int → Int) (n : Int) (m : Nat) (p : Int) : hdz b n (m + 1) p = if (p = 2 ∧ (b p = 1 ∨ b p = 2)) ∨ (p = 3 ∧ (b p = 1 ∨ b p = 3)) ∨ (p = 4 ∧ (b p = 0 ∨ b p = 1)) ∨ (p = 6 ∧ 1 ≤ b p ∧ b p ≤ 12 ∧ 8 + 4 * b p ≤ n) ∨ ((p = 5 ∨ p = 7) ∧ b p = 0) then hdz b n m (p + 1) else 2000 + p := rfl
theorem cl_headL (h : BU μ X n b) (hn : n ≤ 256) (hb : Byt b) (h12 : 12 ≤ n) : ∀ (m fu : Nat) (p : Int), m < fu → 2 ≤ p → p + m = 8 → f_Buffer_headFault_2 μ (X + 1) (fun (_ : Unit) => f_Buffer_headFault_34 μ (X + 1)) fu (iz p) = some (iz (-(hdz b n m p))) := by
  intro m
  induction m with
  | zero =>
    intro fu p hf hp hm
    obtain ⟨fu, rfl⟩ : ∃ m, fu = m + 1 := ⟨fu - 1, by omega⟩
    rw [f_Buffer_headFault_2, zi_8, qle (iR_s (by omega) (by omega)) (iR_s (by omega) (by omega)), if_pos (by omega)]
    rfl
  | succ m ih =>
    intro fu p hf hp hm
    obtain ⟨fu, rfl⟩ : ∃ m, fu = m + 1 := ⟨fu - 1, by omega⟩
    rw [f_Buffer_headFault_2, zi_8, qle (iR_s (by omega) (by omega)) (iR_s (by omega) (by omega)), if_neg (by omega), (bu_e h).2.1, Option.bind_some, bu_g h hn (by omega) (by omega), Option.bind_some, cl_head1 h hn (by omega) (hb p), Option.bind_some, qbI, zi_1, iz_add, ih fu (p + 1) (by omega) (by omega) (by omega), zi_2]
    rw [hdz_s]
    by_cases hc : ((p = 2 ∧ (b p = 1 ∨ b p = 2)) ∨ (p = 3 ∧ (b p = 1 ∨ b p = 3)) ∨ (p = 4 ∧ (b p = 0 ∨ b p = 1)) ∨ (p = 6 ∧ 1 ≤ b p ∧ b p ≤ 12 ∧ 8 + 4 * b p ≤ n) ∨ ((p = 5 ∨ p = 7) ∧ b p = 0))
    · rw [decide_eq_true hc, if_pos rfl, if_pos hc]
    · rw [decide_eq_false hc, if_neg (by decide), if_neg hc]
      exact brk (by omega)
theorem hdz_e : hdz b n 6 2 = if ¬ (b 2 = 1 ∨ b 2 = 2) then 2002
  else if ¬ (b 3 = 1 ∨ b 3 = 3) then 2003
  else if ¬ (b 4 = 0 ∨ b 4 = 1) then 2004
  else if b 5 ≠ 0 then 2005
  else if ¬ (1 ≤ b 6 ∧ b 6 ≤ 12 ∧ 8 + 4 * b 6 ≤ n) then 2006
  else if b 7 ≠ 0 then 2007 else 0 := by
  unfold hdz
  unfold hdz
  unfold hdz
  unfold hdz
  unfold hdz
  unfold hdz
  unfold hdz
  rw [show (2 : Int) + 1 = 3 by rfl, show (3 : Int) + 1 = 4 by rfl, show (4 : Int) + 1 = 5 by rfl, show (5 : Int) + 1 = 6 by rfl, show (6 : Int) + 1 = 7 by rfl]
  repeat' split
  all_goals first | rfl | (exfalso; omega)
theorem cl_way (h : BU μ X n b) (hn : n ≤ 256) (hb : Byt b) (h6 : b 6 ≤ 12) (h8 : 8 + 4 * b 6 ≤ n) : ((mrc μ (some (X + 1)) 1).bind fun a => f_Buffer_hasWayForth μ a) = some (iz (bI (wyz b))) := by
  obtain ⟨e1, e2, e3⟩ := bu_e h
  have q3 := hb 3
  have q4 := hb 4
  have q6 := hb 6
  have hh := fun (s : Int) (hs : iR s) => cl_has h hn hb (s := s) (N := b 6) hs (by omega) h8
  rw [e1, Option.bind_some]
  unfold f_Buffer_hasWayForth f_Buffer_hasWayForth_84 f_Buffer_hasWayForth_80 f_Buffer_hasWayForth_85 wyz
  rw [mz_0, mz_1, Option.bind_some, Option.bind_some, e2, Option.bind_some, zi_6, bu_g h hn (by omega) (by omega), Option.bind_some, Option.bind_some, zi_3, bu_g h hn (by omega) (by omega), Option.bind_some, zi_1, qeq (a := b 3) (iR_s (by omega) (by omega)) (iR_s (by omega) (by omega)), hh 1 (iR_s (by omega) (by omega)), Option.bind_some, mz_b, Option.bind_some, hh 6 (iR_s (by omega) (by omega)), Option.bind_some, qbI, Option.bind_some, zi_4, bu_g h hn (by omega) (by omega), Option.bind_some]
  rw [zi_2, hh 2 (iR_s (by omega) (by omega)), Option.bind_some, qbI, hh 3 (iR_s (by omega) (by omega)), Option.bind_some, qbI, hh 4 (iR_s (by omega) (by omega)), Option.bind_some, qbI, zi_5, hh 5 (iR_s (by omega) (by omega)), Option.bind_some, qbI, zi_0, qeq (a := b 4) (iR_s (by omega) (by omega)) (iR_s (by omega) (by omega))]
  by_cases c3 : b 3 = 1
  · rw [if_pos c3, if_pos c3]
  · rw [if_neg c3, if_neg c3]
    cases hsE b 6 (b 6).toNat 0 <;> cases hsE b 2 (b 6).toNat 0 <;> cases hsE b 3 (b 6).toNat 0 <;> cases hsE b 4 (b 6).toNat 0 <;> cases hsE b 5 (b 6).toNat 0 <;> by_cases c4 : b 4 = 0 <;> simp [c4] <;> rfl
theorem cl_fltL (h : BU μ X n b) (hn : n ≤ 256) (hb : Byt b) (h6 : b 6 ≤ 12) (h8 : 8 + 4 * b 6 ≤ n) (kx : Int32 → Option Int32) : ∀ (m fu : Nat) (k : Int), m < fu → 0 ≤ k → k + m = b 6 → f_Buffer_fault_46 μ (X + 1) kx fu (iz 0) (iz k) = kx (iz (-(efL b n m k))) := by
  have q6 := hb 6
  intro m
  induction m with
  | zero =>
    intro fu k hf hk hm
    obtain ⟨fu, rfl⟩ : ∃ m, fu = m + 1 := ⟨fu - 1, by omega⟩
    rw [f_Buffer_fault_46, if_pos (show iz 0 = 0 from rfl), (bu_e h).2.1, Option.bind_some, zi_6, bu_g h hn (by omega) (by omega), Option.bind_some, qle (iR_s (by omega) (by omega)) (iR_s (by omega) (by omega)), if_pos (by omega)]
    rfl
  | succ m ih =>
    intro fu k hf hk hm
    obtain ⟨fu, rfl⟩ : ∃ m, fu = m + 1 := ⟨fu - 1, by omega⟩
    have hR := efz_R hb (n := n) hk (by omega)
    rw [f_Buffer_fault_46, if_pos (show iz 0 = 0 from rfl), (bu_e h).2.1, Option.bind_some, zi_6, bu_g h hn (by omega) (by omega), Option.bind_some, qle (iR_s (by omega) (by omega)) (iR_s (by omega) (by omega)), if_neg (by omega), cl_entry h hn hb h6 h8 hk (by omega), Option.bind_some, zi_1, iz_add]
    unfold efL
    by_cases hc : efz b n k = 0
    · rw [if_pos hc, hc]
      exact ih fu (k + 1) (by omega) (by omega) (by omega)
    · rw [if_neg hc]
      obtain ⟨fu, rfl⟩ : ∃ m, fu = m + 1 := ⟨fu - 1, by omega⟩
      rw [f_Buffer_fault_46, zi_0, qeq (iR_s (by omega) (by omega)) (iR_s (by omega) (by omega)), if_neg (by omega)]
theorem cl_fault (h : BU μ X n b) (hn : n ≤ 256) (hb : Byt b) : ((mrc μ (some (X + 1)) 1).bind fun a => f_Buffer_fault μ a) = some (iz (-(ftz b n))) := by
  obtain ⟨e1, e2, e3⟩ := bu_e h
  have q0 := hb 0
  have q1 := hb 1
  have q6 := hb 6
  rw [e1, Option.bind_some]
  unfold f_Buffer_fault f_Buffer_fault_33 ftz
  rw [e3, Option.bind_some, Option.bind_some, nI_iz, zi_12, qlt (iR_s (by omega) (by omega)) (iR_s (by omega) (by omega)), zi_4, iz_rem (by omega) (by omega)]
  rw [zi_1, zi_0, qeq (a := (n : Int) % 4) (iR_s (by omega) (by omega)) (iR_s (by omega) (by omega)), brk (x := 1000) (by omega)]
  by_cases c1 : (n : Int) < 12
  · rw [if_pos c1, if_pos (Or.inl c1)]
  · rw [if_neg c1]
    by_cases c2 : (n : Int) % 4 = 0
    · rw [if_pos c2, e2, Option.bind_some]
      unfold f_CL_wordAt
      rw [bu_g h hn (by omega) (by omega), Option.bind_some, zi_1, iz_add, bu_g h hn (by omega) (by omega), Option.bind_some, Option.bind_some, Option.bind_some, zi_256, iz_mul, iz_add, show (0 : Int) + 1 = 1 by rfl, qeq (iR_s (by omega) (by omega)) (iR_s (by omega) (by omega))]
      by_cases c3 : 256 * b 0 + b 1 = n
      · rw [if_pos c3, if_neg (show ¬ ((n : Int) < 12 ∨ (n : Int) % 4 ≠ 0 ∨ 256 * b 0 + b 1 ≠ n) by omega)]
        rw [e1, Option.bind_some]
        unfold f_Buffer_headFault
        rw [zi_2, cl_headL h hn hb (by omega) 6 4096 2 (by omega) (by omega) (by omega), Option.bind_some, hdz_e]
        have hk : ∀ x : Int, 0 < x → x < 10000 → f_Buffer_fault_46 μ (X + 1) (fun y1 => f_Buffer_fault_73 μ (X + 1) y1) 4096 (iz (-x)) (iz 0) = some (iz (-x)) := by
          intro x x0 x1
          rw [show (4096 : Nat) = 4095 + 1 by rfl, f_Buffer_fault_46]
          unfold f_Buffer_fault_73 f_Buffer_fault_91
          rw [zi_0, qeq (iR_s (by omega) (by omega)) (iR_s (by omega) (by omega)), if_neg (by omega), qeq (iR_s (by omega) (by omega)) (iR_s (by omega) (by omega)), if_neg (by omega)]
        by_cases d2 : b 2 = 1 ∨ b 2 = 2
        · rw [if_neg (not_not_intro d2), if_neg (not_not_intro d2)]
          by_cases d3 : b 3 = 1 ∨ b 3 = 3
          · rw [if_neg (not_not_intro d3), if_neg (not_not_intro d3)]
            by_cases d4 : b 4 = 0 ∨ b 4 = 1
            · rw [if_neg (not_not_intro d4), if_neg (not_not_intro d4)]
              by_cases d5 : b 5 ≠ 0
              · rw [if_pos d5, if_pos d5]
                exact hk 2005 (by omega) (by omega)
              · rw [if_neg d5, if_neg d5]
                by_cases d6 : 1 ≤ b 6 ∧ b 6 ≤ 12 ∧ 8 + 4 * b 6 ≤ n
                · rw [if_neg (not_not_intro d6), if_neg (not_not_intro d6)]
                  by_cases d7 : b 7 ≠ 0
                  · rw [if_pos d7, if_pos d7]
                    exact hk 2007 (by omega) (by omega)
                  · rw [if_neg d7, if_neg d7]
                    have hR := efL_R hb (n := n) (b 6).toNat 0 (by omega) (by omega)
                    rw [show -(0 : Int) = 0 by rfl, cl_fltL h hn hb d6.2.1 d6.2.2 _ (b 6).toNat 4096 0 (by omega) (by omega) (by omega)]
                    unfold f_Buffer_fault_73 f_Buffer_fault_91
                    rw [cl_way h hn hb d6.2.1 d6.2.2, Option.bind_some, qbI, zi_9, zi_3, zi_0, qeq (iR_s (by omega) (by omega)) (iR_s (by omega) (by omega)), brk (x := 9003) (by omega)]
                    by_cases d8 : efL b n (b 6).toNat 0 = 0
                    · rw [if_pos (by omega), if_neg (not_not_intro d8), d8]
                      by_cases d9 : wyz b = true
                      · rw [if_pos d9, if_pos d9]
                      · rw [if_neg d9, if_neg d9]
                    · rw [if_neg (by omega), if_pos d8]
                · rw [if_pos d6, if_pos d6]
                  exact hk 2006 (by omega) (by omega)
            · rw [if_pos d4, if_pos d4]
              exact hk 2004 (by omega) (by omega)
          · rw [if_pos d3, if_pos d3]
            exact hk 2003 (by omega) (by omega)
        · rw [if_pos d2, if_pos d2]
          exact hk 2002 (by omega) (by omega)
      · rw [if_neg c3, if_pos (Or.inr (Or.inr c3))]
    · rw [if_neg c2, if_pos (Or.inr (Or.inl c2))]
end CFU
