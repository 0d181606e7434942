/-! The reference's fault, whole. -/
section RFV
variable {μ : mM} {M : Nat} {A : Nat → Nat → Int32} {S : Nat → Int32} {L : Nat → Int64} {n : Nat} {b : Int → Int}
theorem fit_tree {α : Type} {s t : Int} (hs : 1 ≤ s ∧ s ≤ 12) (p r : α) : (if 5 ≤ s then (if s = 5 then (if t = 3 then p else r) else if s = 12 then (if t = 5 then p else r) else if t = 4 then p else r) else if t = 1 then p else if t = 2 then p else r) = if fit s t then p else r := by
  by_cases c : fit s t
  · rw [if_pos c]
    unfold fit at c
    repeat' split
    all_goals first | rfl | (exfalso; omega)
  · rw [if_neg c]
    unfold fit at c
    repeat' split
    all_goals first | rfl | (exfalso; omega)
theorem rm_entry (h : RB μ M A S L) (hA : BA A S n b) (hn : n ≤ 256) (hb : Byt b) (h6 : b 6 ≤ 12) (h8 : 8 + 4 * b 6 ≤ n) {k : Int} (hk0 : 0 ≤ k) (hk : k < b 6) : ((mrc μ (some M) 11).bind fun a => f_Mo_entryFault μ a (iz k) (iz (8 + 4 * b 6))) = some (iz (efz b n k)) := by
  have q8 := hb (8 + 4 * k)
  have q9 := hb (9 + 4 * k)
  have q10 := hb (10 + 4 * k)
  have q11 := hb (11 + 4 * k)
  have p1 : 8 + 4 * k + 1 = 9 + 4 * k := by omega
  have p2 : 8 + 4 * k + 2 = 10 + 4 * k := by omega
  have p3 : 8 + 4 * k + 3 = 11 + 4 * k := by omega
  rw [rb_rc h, Option.bind_some]
  unfold f_Mo_entryFault
  rw [(rb_f0 h).1, Option.bind_some, zi_8, zi_4, iz_mul, iz_add, rb_g0 h hA (by omega) (by omega) hn, Option.bind_some, Option.bind_some, zi_1, iz_add, p1, rb_g0 h hA (by omega) (by omega) hn, Option.bind_some, Option.bind_some, zi_2, iz_add, p2, rb_g0 h hA (by omega) (by omega) hn, Option.bind_some]
  have e := rm_efL h hA hn hb (s := b (8 + 4 * k)) (o := b (9 + 4 * k)) (l := b (10 + 4 * k)) (x2 := iz (8 + 4 * b 6)) (iR_s (by omega) (by omega)) q9 q10 (k := k) (by omega) (fun y2 y3 y4 y5 y6 y7 y8 => f_Mo_entryFault_149 μ M y2 y3 y4 y5 y6 y7 y8) k.toNat 4096 0 false true (by omega) (by omega) (by omega)
  rw [show iz (bI false) = iz 0 by rfl, show iz (bI true) = iz 1 by rfl, show (8 : Int) + 4 * 0 = 8 by rfl, Bool.false_or, Bool.true_and] at e
  rw [zi_0, e]
  unfold f_Mo_entryFault_149 f_Mo_entryFault_167 f_Mo_entryFault_204 f_Mo_entryFault_276 efz
  obtain ⟨s, es⟩ : ∃ s, b (8 + 4 * k) = s := ⟨_, rfl⟩
  obtain ⟨o, eo⟩ : ∃ o, b (9 + 4 * k) = o := ⟨_, rfl⟩
  obtain ⟨l, el⟩ : ∃ l, b (10 + 4 * k) = l := ⟨_, rfl⟩
  rw [es] at q8
  rw [eo] at q9
  rw [el] at q10
  rw [es, eo, el, qbI, qbI, zi_3000, iz_add, zi_4001, iz_add, zi_12, zi_1, qlt (a := s) (b := 1) (iR_s (by omega) (by omega)) (iR_s (by omega) (by omega)), qlt (a := 12) (b := s) (iR_s (by omega) (by omega)) (iR_s (by omega) (by omega))]
  by_cases c1 : s < 1 ∨ 12 < s ∨ hsE b s k.toNat 0 = true
  · rw [if_pos c1]
    by_cases d1 : s < 1
    · rw [if_pos d1]
    · rw [if_neg d1]
      by_cases d2 : 12 < s
      · rw [if_pos d2]
      · rw [if_neg d2]
        have d3 : hsE b s k.toNat 0 = true := by
          rcases c1 with q | q | q
          · exact absurd q d1
          · exact absurd q d2
          · exact q
        rw [if_pos d3]
  · rw [if_neg c1, if_neg (fun q => c1 (Or.inl q)), if_neg (fun q => c1 (Or.inr (Or.inl q))), if_neg (fun q => c1 (Or.inr (Or.inr q)))]
    rw [zi_4, iz_rem (by omega) (by omega), zi_0, qeq (a := o % 4) (iR_s (by omega) (by omega)) (iR_s (by omega) (by omega)), qlt (a := o) (iR_s (by omega) (by omega)) (iR_s (by omega) (by omega)), zi_2, qlt (a := l) (iR_s (by omega) (by omega)) (iR_s (by omega) (by omega)), (rb_S h).2.2.2, Option.bind_some, hA.1, nI_iz, iz_add, qle (a := o + l) (iR_s (by omega) (by omega)) (iR_s (by omega) (by omega))]
    by_cases c2 : o % 4 ≠ 0 ∨ o < 8 + 4 * b 6 ∨ l < 2 ∨ (n : Int) < o + l
    · rw [if_pos c2]
      repeat' split
      all_goals first | rfl | (exfalso; omega)
    · rw [if_neg c2, if_pos (show o % 4 = 0 by omega), if_neg (show ¬ o < 8 + 4 * b 6 by omega), if_neg (show ¬ l < 2 by omega), if_pos (show o + l ≤ n by omega)]
      rw [(rb_f0 h).1, Option.bind_some, zi_3, iz_add, p3, rb_g0 h hA (by omega) (by omega) hn, Option.bind_some, qeq (a := b (11 + 4 * k)) (iR_s (by omega) (by omega)) (iR_s (by omega) (by omega))]
      by_cases c3 : b (11 + 4 * k) = 0
      · rw [if_pos c3, if_neg (show ¬ b (11 + 4 * k) ≠ 0 by omega)]
        by_cases c4 : ovE b o l k.toNat 0 = true
        · rw [c4, if_neg (by decide), if_pos rfl, zi_6001, iz_add]
        · have qt := hb o
          have qc := hb (o + 1)
          rw [if_neg c4, Bool.not_eq_true] at *
          rw [c4, if_pos (show (!false) = true by rfl), Option.bind_some, rb_g0 h hA (by omega) (by omega) hn, Option.bind_some, Option.bind_some, iz_add, rb_g0 h hA (by omega) (by omega) hn, Option.bind_some]
          have h3t : ∀ (ht : 1 ≤ b o ∧ b o ≤ 5), f_Mo_entryFault_336 μ M (iz o) (iz l) (iz (b o)) (iz (b (o + 1))) (iz 1) = some (iz (if lok (b o) (b (o + 1)) l then 0 else 8001 + o)) := fun ht => rm_336 ht qc q10
          have h3f : f_Mo_entryFault_336 μ M (iz o) (iz l) (iz (b o)) (iz (b (o + 1))) (iz 0) = some (iz (7000 + o)) := by
            unfold f_Mo_entryFault_336
            rw [if_pos (show iz 0 = 0 by rfl), zi_7000, iz_add]
          rw [zi_5, qle (a := 5) (b := s) (iR_s (by omega) (by omega)) (iR_s (by omega) (by omega)), qeq (a := s) (b := 5) (iR_s (by omega) (by omega)) (iR_s (by omega) (by omega)), qeq (a := b o) (b := 3) (iR_s (by omega) (by omega)) (iR_s (by omega) (by omega)), qeq (a := s) (b := 12) (iR_s (by omega) (by omega)) (iR_s (by omega) (by omega)), qeq (a := b o) (b := 5) (iR_s (by omega) (by omega)) (iR_s (by omega) (by omega)), qeq (a := b o) (b := 4) (iR_s (by omega) (by omega)) (iR_s (by omega) (by omega)), qeq (a := b o) (b := 1) (iR_s (by omega) (by omega)) (iR_s (by omega) (by omega)), qeq (a := b o) (b := 2) (iR_s (by omega) (by omega)) (iR_s (by omega) (by omega)), h3f]
          rw [fit_tree (by omega)]
          by_cases c5 : fit s (b o)
          · rw [if_pos c5, if_neg (not_not_intro c5), h3t (by unfold fit at c5; omega)]
            by_cases c6 : lok (b o) (b (o + 1)) l
            · rw [if_pos c6, if_neg (not_not_intro c6)]
            · rw [if_neg c6, if_pos c6]
          · rw [if_neg c5, if_pos c5]
      · rw [if_neg c3, if_pos c3, zi_5003, iz_add]
theorem efL_s (b : Int → Int) (n : Int) (m : Nat) (i : Int) : efL b n (m + 1) i = if efz b n i = 0 then efL b n m (i + 1) else efz b n i := rfl
theorem rm_fltL (h : RB μ M A S L) (hA : BA A S n b) (hn : n ≤ 256) (hb : Byt b) (h6 : b 6 ≤ 12) (h8 : 8 + 4 * b 6 ≤ n) (kx : Unit → Option Int32) : ∀ (m fu : Nat) (k : Int), m < fu → 0 ≤ k → k + m = b 6 → f_Mo_fault_173 μ M kx fu (iz (b 6)) (iz k) = if efL b n m k = 0 then kx () else some (iz (efL b n m k)) := by
  have q6 := hb 6
  intro m
  induction m with
  | zero =>
    intro fu k hf hk hm
    obtain ⟨fu, rfl⟩ : ∃ m, fu = m + 1 := ⟨fu - 1, by omega⟩
    rw [f_Mo_fault_173, qle (iR_s (by omega) (by omega)) (iR_s (by omega) (by omega)), if_pos (by omega)]
    unfold efL
    rw [if_pos rfl]
  | succ m ih =>
    intro fu k hf hk hm
    obtain ⟨fu, rfl⟩ : ∃ m, fu = m + 1 := ⟨fu - 1, by omega⟩
    have hR := efz_R hb (n := n) hk (by omega)
    rw [f_Mo_fault_173, qle (iR_s (by omega) (by omega)) (iR_s (by omega) (by omega)), if_neg (by omega), zi_8, zi_4, iz_mul, iz_add, rm_entry h hA hn hb h6 h8 hk (by omega), Option.bind_some, zi_1, iz_add, ih fu (k + 1) (by omega) (by omega) (by omega), zi_0, qle (iR_s (by omega) (by omega)) (iR_s (by omega) (by omega))]
    rw [efL_s]
    by_cases hc : efz b n k = 0
    · rw [if_pos hc, if_pos (by omega)]
    · rw [if_neg hc, if_neg (by omega), if_neg hc]
theorem rm_way (h : RB μ M A S L) (hA : BA A S n b) (hn : n ≤ 256) (hb : Byt b) (h6 : b 6 ≤ 12) (h8 : 8 + 4 * b 6 ≤ n) : f_Mo_fault_202 μ M = some (iz (if wyz b = true then 0 else 9003)) := by
  have q3 := hb 3
  have q4 := hb 4
  have q6 := hb 6
  have hh := fun (s : Int) (hs : iR s) => rm_has h hA hn hb h6 h8 (s := s) hs
  have h85 : ∀ u : Bool, f_Mo_fault_285 μ M (iz (bI u)) = some (iz (if u = true then 0 else 9003)) := by
    intro u
    unfold f_Mo_fault_285 f_Mo_fault_297
    rw [qbI, zi_0, zi_9003]
    cases u <;> rfl
  have h48 : ∀ u : Bool, f_Mo_fault_248 μ M (iz (bI u)) = some (iz (if (if b 3 = 1 then hsE b 1 (b 6).toNat 0 else hsE b 6 (b 6).toNat 0 || u) = true then 0 else 9003)) := by
    intro u
    unfold f_Mo_fault_248 f_Mo_fault_280
    rw [(rb_f0 h).1, Option.bind_some, zi_3, rb_g0 h hA (by omega) (by omega) hn, Option.bind_some, zi_1, qeq (a := b 3) (iR_s (by omega) (by omega)) (iR_s (by omega) (by omega)), hh 1 (iR_s (by omega) (by omega)), Option.bind_some, h85, zi_6, hh 6 (iR_s (by omega) (by omega)), Option.bind_some, qbI, qbI]
    have ht := h85 true
    have hf := h85 false
    rw [show iz (bI true) = iz 1 by rfl] at ht
    rw [show iz (bI false) = (0 : Int32) by rfl] at hf
    rw [ht, hf]
    by_cases c3 : b 3 = 1
    · rw [if_pos c3, if_pos c3]
    · rw [if_neg c3, if_neg c3]
      cases hsE b 6 (b 6).toNat 0 <;> cases u <;> rfl
  have h0 := h48 false
  have h1 := h48 true
  rw [show iz (bI true) = (1 : Int32) by rfl] at h1
  rw [show iz (bI false) = (0 : Int32) by rfl] at h0
  unfold f_Mo_fault_202 f_Mo_fault_247 wyz
  rw [h0, h1, zi_2, hh 2 (iR_s (by omega) (by omega)), Option.bind_some, qbI, zi_3, hh 3 (iR_s (by omega) (by omega)), Option.bind_some, qbI, zi_4, hh 4 (iR_s (by omega) (by omega)), Option.bind_some, qbI, zi_5, hh 5 (iR_s (by omega) (by omega)), Option.bind_some, qbI, (rb_f0 h).1, Option.bind_some, rb_g0 h hA (by omega) (by omega) hn, Option.bind_some, zi_0, qeq (a := b 4) (iR_s (by omega) (by omega)) (iR_s (by omega) (by omega))]
  by_cases c3 : b 3 = 1
  · simp only [if_pos c3]
    repeat' split
    all_goals rfl
  · simp only [if_neg c3]
    cases hsE b 6 (b 6).toNat 0 <;> cases hsE b 2 (b 6).toNat 0 <;> cases hsE b 3 (b 6).toNat 0 <;> cases hsE b 4 (b 6).toNat 0 <;> cases hsE b 5 (b 6).toNat 0 <;> by_cases c4 : b 4 = 0 <;> simp [c4]
theorem rm_fault (h : RB μ M A S L) (hA : BA A S n b) (hn : n ≤ 256) (hb : Byt b) : ((mrc μ (some M) 11).bind fun a => f_Mo_fault μ a) = some (iz (ftz b n)) := by
  have q0 := hb 0
  have q1 := hb 1
  have q2 := hb 2
  have q3 := hb 3
  have q4 := hb 4
  have q5 := hb 5
  have q6 := hb 6
  have q7 := hb 7
  have E := (rb_f0 h).1
  have E1 : mfI μ (some M) [11] 1 = some (iz n) := by rw [(rb_S h).2.2.2, hA.1, nI_iz]
  rw [rb_rc h, Option.bind_some]
  unfold f_Mo_fault f_Mo_fault_42 ftz
  rw [E1, Option.bind_some, Option.bind_some, zi_12, qlt (iR_s (by omega) (by omega)) (iR_s (by omega) (by omega)), zi_4, iz_rem (by omega) (by omega), zi_0, qeq (a := (n : Int) % 4) (iR_s (by omega) (by omega)) (iR_s (by omega) (by omega)), zi_1000]
  by_cases c1 : (n : Int) < 12
  · rw [if_pos c1, if_pos (Or.inl c1)]
  · rw [if_neg c1]
    by_cases c2 : (n : Int) % 4 = 0
    · rw [if_pos c2, E, Option.bind_some, rb_g0 h hA (by omega) (by omega) hn, Option.bind_some, Option.bind_some, zi_1, rb_g0 h hA (by omega) (by omega) hn, Option.bind_some, Option.bind_some, zi_256, iz_mul, iz_add, qeq (iR_s (by omega) (by omega)) (iR_s (by omega) (by omega))]
      by_cases c3 : 256 * b 0 + b 1 = n
      · rw [if_pos c3, if_neg (show ¬ ((n : Int) < 12 ∨ (n : Int) % 4 ≠ 0 ∨ 256 * b 0 + b 1 ≠ n) by omega)]
        rw [Option.bind_some, zi_6, rb_g0 h hA (by omega) (by omega) hn, Option.bind_some, Option.bind_some, zi_2, rb_g0 h hA (by omega) (by omega) hn, Option.bind_some, qeq (a := b 2) (b := 1) (iR_s (by omega) (by omega)) (iR_s (by omega) (by omega)), Option.bind_some, rb_g0 h hA (by omega) (by omega) hn, Option.bind_some, qeq (a := b 2) (b := 2) (iR_s (by omega) (by omega)) (iR_s (by omega) (by omega)), zi_2002]
        have e78 : f_Mo_fault_78 μ M (iz (b 6)) = some (iz (if ¬ (b 3 = 1 ∨ b 3 = 3) then 2003 else if ¬ (b 4 = 0 ∨ b 4 = 1) then 2004 else if b 5 ≠ 0 then 2005 else if ¬ (1 ≤ b 6 ∧ b 6 ≤ 12 ∧ 8 + 4 * b 6 ≤ n) then 2006 else if b 7 ≠ 0 then 2007 else if efL b n (b 6).toNat 0 ≠ 0 then efL b n (b 6).toNat 0 else if wyz b = true then 0 else 9003)) := by
          have e102 : f_Mo_fault_102 μ M (iz (b 6)) = some (iz (if ¬ (b 4 = 0 ∨ b 4 = 1) then 2004 else if b 5 ≠ 0 then 2005 else if ¬ (1 ≤ b 6 ∧ b 6 ≤ 12 ∧ 8 + 4 * b 6 ≤ n) then 2006 else if b 7 ≠ 0 then 2007 else if efL b n (b 6).toNat 0 ≠ 0 then efL b n (b 6).toNat 0 else if wyz b = true then 0 else 9003)) := by
            unfold f_Mo_fault_102 f_Mo_fault_153
            rw [E, Option.bind_some, zi_4, rb_g0 h hA (by omega) (by omega) hn, Option.bind_some, Option.bind_some, zi_5, rb_g0 h hA (by omega) (by omega) hn, Option.bind_some, E1, Option.bind_some, Option.bind_some, zi_7, rb_g0 h hA (by omega) (by omega) hn, Option.bind_some, zi_8, iz_mul, iz_add, zi_1, zi_12, zi_0, zi_2004, zi_2005, zi_2006, zi_2007]
            rw [qle (a := b 4) (iR_s (by omega) (by omega)) (iR_s (by omega) (by omega)), qeq (a := b 5) (iR_s (by omega) (by omega)) (iR_s (by omega) (by omega)), qlt (a := b 6) (iR_s (by omega) (by omega)) (iR_s (by omega) (by omega)), qlt (a := 12) (iR_s (by omega) (by omega)) (iR_s (by omega) (by omega)), qle (a := 8 + 4 * b 6) (iR_s (by omega) (by omega)) (iR_s (by omega) (by omega)), qeq (a := b 7) (iR_s (by omega) (by omega)) (iR_s (by omega) (by omega))]
            by_cases d4 : b 4 = 0 ∨ b 4 = 1
            · rw [if_pos (show b 4 ≤ 1 by omega), if_neg (not_not_intro d4)]
              by_cases d5 : b 5 = 0
              · rw [if_pos d5, if_neg (not_not_intro d5)]
                by_cases d6 : 1 ≤ b 6 ∧ b 6 ≤ 12 ∧ 8 + 4 * b 6 ≤ n
                · rw [if_neg (show ¬ b 6 < 1 by omega), if_neg (show ¬ 12 < b 6 by omega), if_pos d6.2.2, if_neg (not_not_intro d6)]
                  by_cases d7 : b 7 = 0
                  · rw [if_pos d7, if_neg (not_not_intro d7), rm_fltL h hA hn hb d6.2.1 d6.2.2 _ (b 6).toNat 4096 0 (by omega) (by omega) (by omega), rm_way h hA hn hb d6.2.1 d6.2.2]
                    by_cases d8 : efL b n (b 6).toNat 0 = 0
                    · rw [if_pos d8, if_neg (not_not_intro d8)]
                    · rw [if_neg d8, if_pos d8]
                  · rw [if_neg d7, if_pos d7]
                · rw [if_pos d6]
                  repeat' split
                  all_goals first | rfl | (exfalso; omega)
              · rw [if_neg d5, if_pos d5]
            · rw [if_neg (show ¬ b 4 ≤ 1 by omega), if_pos d4]
          unfold f_Mo_fault_78
          rw [e102, E, Option.bind_some, zi_3, rb_g0 h hA (by omega) (by omega) hn, Option.bind_some, Option.bind_some, rb_g0 h hA (by omega) (by omega) hn, Option.bind_some, zi_1, qeq (a := b 3) (b := 1) (iR_s (by omega) (by omega)) (iR_s (by omega) (by omega)), qeq (a := b 3) (b := 3) (iR_s (by omega) (by omega)) (iR_s (by omega) (by omega)), zi_2003]
          by_cases d3 : b 3 = 1
          · rw [if_pos d3, if_neg (not_not_intro (Or.inl d3))]
          · rw [if_neg d3]
            by_cases d3' : b 3 = 3
            · rw [if_pos d3', if_neg (not_not_intro (Or.inr d3'))]
            · rw [if_neg d3', if_pos (by omega)]
        rw [e78]
        by_cases d2 : b 2 = 1
        · rw [if_pos d2, if_neg (not_not_intro (Or.inl d2))]
        · rw [if_neg d2]
          by_cases d2' : b 2 = 2
          · rw [if_pos d2', if_neg (not_not_intro (Or.inr d2'))]
          · rw [if_neg d2', if_pos (by omega)]
      · rw [if_neg c3, if_pos (Or.inr (Or.inr c3))]
    · rw [if_neg c2, if_pos (Or.inr (Or.inl c2))]
end RFV
